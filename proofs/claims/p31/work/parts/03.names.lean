def RX0 : String := "Platehall$Buffer"
def TX0 : u_T := fun k => match k with
  | 0 => ("Platehall$Buffer", "signs", "[C", true)
  | _ => ("Platehall$Buffer", "length", "I", false)
def tyX0 : Nat → FieldType := fun k => match k with
  | 0 => .array .char
  | _ => .int
theorem nmX0 : ∀ a, a < 2 → ∀ b, b < 2 → a ≠ b → (TX0 a).2.1 ≠ (TX0 b).2.1 := by decide +kernel
theorem tyX0_ok : ∀ k, k < 2 → parseFieldDescriptor (TX0 k).2.2.1 = some (tyX0 k) := by decide +kernel
abbrev cX0_init : ByteArray := prog_2_method_1_code
def yX0_init : MethodName := ⟨RX0, "<init>", "()V"⟩
abbrev cX0_append : ByteArray := prog_2_method_2_code
def yX0_append : MethodName := ⟨RX0, "append", "(C)Z"⟩
abbrev cX0_empty : ByteArray := prog_2_method_3_code
def yX0_empty : MethodName := ⟨RX0, "empty", "()I"⟩
abbrev cX0_isOfPlateSigns : ByteArray := prog_2_method_4_code
def yX0_isOfPlateSigns : MethodName := ⟨RX0, "isOfPlateSigns", "(Z)Z"⟩
abbrev cX0_plateInIt : ByteArray := prog_2_method_5_code
def yX0_plateInIt : MethodName := ⟨RX0, "plateInIt", "()I"⟩
abbrev cX0_spells : ByteArray := prog_2_method_6_code
def yX0_spells : MethodName := ⟨RX0, "spells", "(Ljava/lang/String;)Z"⟩
abbrev cX0_copyTo : ByteArray := prog_2_method_7_code
def yX0_copyTo : MethodName := ⟨RX0, "copyTo", "([C)V"⟩
def RX1 : String := "Platehall$Course"
def TX1 : u_T := fun k => match k with
  | 0 => ("Platehall$Course", "froms", "[I", false)
  | 1 => ("Platehall$Course", "values", "[I", false)
  | _ => ("Platehall$Course", "count", "I", false)
def tyX1 : Nat → FieldType := fun k => match k with
  | 0 => .array .int
  | 1 => .array .int
  | _ => .int
theorem nmX1 : ∀ a, a < 3 → ∀ b, b < 3 → a ≠ b → (TX1 a).2.1 ≠ (TX1 b).2.1 := by decide +kernel
theorem tyX1_ok : ∀ k, k < 3 → parseFieldDescriptor (TX1 k).2.2.1 = some (tyX1 k) := by decide +kernel
abbrev cX1_init : ByteArray := prog_3_method_1_code
def yX1_init : MethodName := ⟨RX1, "<init>", "()V"⟩
abbrev cX1_put : ByteArray := prog_3_method_2_code
def yX1_put : MethodName := ⟨RX1, "put", "(II)V"⟩
abbrev cX1_valueOn : ByteArray := prog_3_method_3_code
def yX1_valueOn : MethodName := ⟨RX1, "valueOn", "(II)I"⟩
abbrev cX1_daysReached : ByteArray := prog_3_method_4_code
def yX1_daysReached : MethodName := ⟨RX1, "daysReached", "(II)I"⟩
abbrev cX1_rowOn : ByteArray := prog_3_method_5_code
def yX1_rowOn : MethodName := ⟨RX1, "rowOn", "(I)I"⟩
abbrev cX1_makeRoomAt : ByteArray := prog_3_method_6_code
def yX1_makeRoomAt : MethodName := ⟨RX1, "makeRoomAt", "(I)V"⟩
def RX2 : String := "Platehall$Event"
def TX2 : u_T := fun k => match k with
  | 0 => ("Platehall$Event", "kind", "I", true)
  | 1 => ("Platehall$Event", "what", "I", true)
  | 2 => ("Platehall$Event", "day", "I", true)
  | _ => ("Platehall$Event", "behind", "LPlatehall$Standing;", true)
def tyX2 : Nat → FieldType := fun k => match k with
  | 0 => .int
  | 1 => .int
  | 2 => .int
  | _ => .object "Platehall$Standing"
theorem nmX2 : ∀ a, a < 4 → ∀ b, b < 4 → a ≠ b → (TX2 a).2.1 ≠ (TX2 b).2.1 := by decide +kernel
theorem tyX2_ok : ∀ k, k < 4 → parseFieldDescriptor (TX2 k).2.2.1 = some (tyX2 k) := by decide +kernel
abbrev cX2_init : ByteArray := prog_4_method_1_code
def yX2_init : MethodName := ⟨RX2, "<init>", "(III)V"⟩
def RX3 : String := "Platehall$Fine"
def TX3 : u_T := fun k => match k with
  | 0 => ("Platehall$Fine", "sighting", "LPlatehall$Sighting;", true)
  | 1 => ("Platehall$Fine", "amount", "I", true)
  | 2 => ("Platehall$Fine", "named", "I", false)
  | 3 => ("Platehall$Fine", "times", "I", false)
  | _ => ("Platehall$Fine", "since", "I", false)
def tyX3 : Nat → FieldType := fun k => match k with
  | 0 => .object "Platehall$Sighting"
  | 1 => .int
  | 2 => .int
  | 3 => .int
  | _ => .int
theorem nmX3 : ∀ a, a < 5 → ∀ b, b < 5 → a ≠ b → (TX3 a).2.1 ≠ (TX3 b).2.1 := by decide +kernel
theorem tyX3_ok : ∀ k, k < 5 → parseFieldDescriptor (TX3 k).2.2.1 = some (tyX3 k) := by decide +kernel
abbrev cX3_init : ByteArray := prog_5_method_1_code
def yX3_init : MethodName := ⟨RX3, "<init>", "(LPlatehall$Sighting;II)V"⟩
abbrev cX3_passTo : ByteArray := prog_5_method_2_code
def yX3_passTo : MethodName := ⟨RX3, "passTo", "(II)V"⟩
def RX4 : String := "Platehall$History"
def TX4 : u_T := fun k => match k with
  | 0 => ("Platehall$History", "itsAtFirst", "I", true)
  | 1 => ("Platehall$History", "atFirst", "LPlatehall$Standing;", true)
  | _ => ("Platehall$History", "events", "Ljava/util/ArrayList;", true)
def tyX4 : Nat → FieldType := fun k => match k with
  | 0 => .int
  | 1 => .object "Platehall$Standing"
  | _ => .object "java/util/ArrayList"
theorem nmX4 : ∀ a, a < 3 → ∀ b, b < 3 → a ≠ b → (TX4 a).2.1 ≠ (TX4 b).2.1 := by decide +kernel
theorem tyX4_ok : ∀ k, k < 3 → parseFieldDescriptor (TX4 k).2.2.1 = some (tyX4 k) := by decide +kernel
abbrev cX4_init : ByteArray := prog_6_method_1_code
def yX4_init : MethodName := ⟨RX4, "<init>", "(I)V"⟩
abbrev cX4_size : ByteArray := prog_6_method_2_code
def yX4_size : MethodName := ⟨RX4, "size", "()I"⟩
abbrev cX4_at : ByteArray := prog_6_method_3_code
def yX4_at : MethodName := ⟨RX4, "at", "(I)LPlatehall$Event;"⟩
abbrev cX4_insert : ByteArray := prog_6_method_4_code
def yX4_insert : MethodName := ⟨RX4, "insert", "(LPlatehall$Event;)I"⟩
abbrev cX4_followFrom : ByteArray := prog_6_method_5_code
def yX4_followFrom : MethodName := ⟨RX4, "followFrom", "(I)V"⟩
abbrev cX4_standingOn : ByteArray := prog_6_method_6_code
def yX4_standingOn : MethodName := ⟨RX4, "standingOn", "(I)LPlatehall$Standing;"⟩
abbrev cX4_replayedTo : ByteArray := prog_6_method_7_code
def yX4_replayedTo : MethodName := ⟨RX4, "replayedTo", "(I)LPlatehall$Standing;"⟩
abbrev cX4_endOf : ByteArray := prog_6_method_8_code
def yX4_endOf : MethodName := ⟨RX4, "endOf", "(II)I"⟩
def RX5 : String := "Platehall$Person"
def TX5 : u_T := fun k => match k with
  | 0 => ("Platehall$Person", "isProtected", "Z", false)
  | _ => ("Platehall$Person", "looks", "I", false)
def tyX5 : Nat → FieldType := fun k => match k with
  | 0 => .boolean
  | _ => .int
theorem nmX5 : ∀ a, a < 2 → ∀ b, b < 2 → a ≠ b → (TX5 a).2.1 ≠ (TX5 b).2.1 := by decide +kernel
theorem tyX5_ok : ∀ k, k < 2 → parseFieldDescriptor (TX5 k).2.2.1 = some (tyX5 k) := by decide +kernel
abbrev cX5_init : ByteArray := prog_7_method_1_code
def yX5_init : MethodName := ⟨RX5, "<init>", "()V"⟩
def RX6 : String := "Platehall$Series"
def TX6 : u_T := fun k => match k with
  | 0 => ("Platehall$Series", "barred", "[Z", true)
  | 1 => ("Platehall$Series", "given", "[J", true)
  | _ => ("Platehall$Series", "last", "I", false)
def tyX6 : Nat → FieldType := fun k => match k with
  | 0 => .array .boolean
  | 1 => .array .long
  | _ => .int
theorem nmX6 : ∀ a, a < 3 → ∀ b, b < 3 → a ≠ b → (TX6 a).2.1 ≠ (TX6 b).2.1 := by decide +kernel
theorem tyX6_ok : ∀ k, k < 3 → parseFieldDescriptor (TX6 k).2.2.1 = some (tyX6 k) := by decide +kernel
abbrev cX6_init : ByteArray := prog_8_method_1_code
def yX6_init : MethodName := ⟨RX6, "<init>", "()V"⟩
abbrev cX6_setBarred : ByteArray := prog_8_method_2_code
def yX6_setBarred : MethodName := ⟨RX6, "setBarred", "(IZ)Z"⟩
abbrev cX6_isFree : ByteArray := prog_8_method_3_code
def yX6_isFree : MethodName := ⟨RX6, "isFree", "(I)Z"⟩
abbrev cX6_markGiven : ByteArray := prog_8_method_4_code
def yX6_markGiven : MethodName := ⟨RX6, "markGiven", "(I)V"⟩
abbrev cX6_next : ByteArray := prog_8_method_5_code
def yX6_next : MethodName := ⟨RX6, "next", "()I"⟩
def RX7 : String := "Platehall$Sighting"
def TX7 : u_T := fun k => match k with
  | 0 => ("Platehall$Sighting", "signs", "[C", true)
  | 1 => ("Platehall$Sighting", "place", "I", true)
  | 2 => ("Platehall$Sighting", "day", "I", true)
  | _ => ("Platehall$Sighting", "moment", "I", true)
def tyX7 : Nat → FieldType := fun k => match k with
  | 0 => .array .char
  | 1 => .int
  | 2 => .int
  | _ => .int
theorem nmX7 : ∀ a, a < 4 → ∀ b, b < 4 → a ≠ b → (TX7 a).2.1 ≠ (TX7 b).2.1 := by decide +kernel
theorem tyX7_ok : ∀ k, k < 4 → parseFieldDescriptor (TX7 k).2.2.1 = some (tyX7 k) := by decide +kernel
abbrev cX7_init : ByteArray := prog_9_method_1_code
def yX7_init : MethodName := ⟨RX7, "<init>", "(III)V"⟩
abbrev cX7_agreesWith : ByteArray := prog_9_method_2_code
def yX7_agreesWith : MethodName := ⟨RX7, "agreesWith", "(I)Z"⟩
abbrev cX7_isTooSoonBehind : ByteArray := prog_9_method_3_code
def yX7_isTooSoonBehind : MethodName := ⟨RX7, "isTooSoonBehind", "(LPlatehall$Sighting;)Z"⟩
def RX8 : String := "Platehall$Standing"
def TX8 : u_T := fun k => match k with
  | 0 => ("Platehall$Standing", "state", "I", false)
  | 1 => ("Platehall$Standing", "stateAheadOfTheft", "I", false)
  | 2 => ("Platehall$Standing", "keeper", "I", false)
  | 3 => ("Platehall$Standing", "owner", "I", false)
  | _ => ("Platehall$Standing", "its", "I", false)
def tyX8 : Nat → FieldType := fun k => match k with
  | 0 => .int
  | 1 => .int
  | 2 => .int
  | 3 => .int
  | _ => .int
theorem nmX8 : ∀ a, a < 5 → ∀ b, b < 5 → a ≠ b → (TX8 a).2.1 ≠ (TX8 b).2.1 := by decide +kernel
theorem tyX8_ok : ∀ k, k < 5 → parseFieldDescriptor (TX8 k).2.2.1 = some (tyX8 k) := by decide +kernel
abbrev cX8_init : ByteArray := prog_10_method_1_code
def yX8_init : MethodName := ⟨RX8, "<init>", "(I)V"⟩
abbrev cX8_copyFrom : ByteArray := prog_10_method_2_code
def yX8_copyFrom : MethodName := ⟨RX8, "copyFrom", "(LPlatehall$Standing;)V"⟩
abbrev cX8_follow : ByteArray := prog_10_method_3_code
def yX8_follow : MethodName := ⟨RX8, "follow", "(LPlatehall$Event;)V"⟩
abbrev cX8_changeState : ByteArray := prog_10_method_4_code
def yX8_changeState : MethodName := ⟨RX8, "changeState", "(I)V"⟩
abbrev cX8_part : ByteArray := prog_10_method_5_code
def yX8_part : MethodName := ⟨RX8, "part", "(I)I"⟩
def RX9 : String := "Platehall$Tests"
def TX9 : u_T := fun k => match k with
  | 0 => ("Platehall$Tests", "count", "I", false)
  | 1 => ("Platehall$Tests", "latestDay", "I", false)
  | 2 => ("Platehall$Tests", "latestMileage", "I", false)
  | 3 => ("Platehall$Tests", "testedUntil", "I", false)
  | _ => ("Platehall$Tests", "turnedBack", "I", false)
def tyX9 : Nat → FieldType := fun k => match k with
  | 0 => .int
  | 1 => .int
  | 2 => .int
  | 3 => .int
  | _ => .int
theorem nmX9 : ∀ a, a < 5 → ∀ b, b < 5 → a ≠ b → (TX9 a).2.1 ≠ (TX9 b).2.1 := by decide +kernel
theorem tyX9_ok : ∀ k, k < 5 → parseFieldDescriptor (TX9 k).2.2.1 = some (tyX9 k) := by decide +kernel
abbrev cX9_init : ByteArray := prog_11_method_1_code
def yX9_init : MethodName := ⟨RX9, "<init>", "(I)V"⟩
abbrev cX9_take : ByteArray := prog_11_method_2_code
def yX9_take : MethodName := ⟨RX9, "take", "(III)V"⟩
def RX10 : String := "Platehall$Vehicle"
def TX10 : u_T := fun k => match k with
  | 0 => ("Platehall$Vehicle", "serial", "I", true)
  | 1 => ("Platehall$Vehicle", "built", "I", true)
  | 2 => ("Platehall$Vehicle", "history", "LPlatehall$History;", true)
  | 3 => ("Platehall$Vehicle", "tests", "LPlatehall$Tests;", true)
  | 4 => ("Platehall$Vehicle", "plates", "LPlatehall$Course;", true)
  | 5 => ("Platehall$Vehicle", "insuredUntil", "LPlatehall$Course;", true)
  | _ => ("Platehall$Vehicle", "paid", "J", false)
def tyX10 : Nat → FieldType := fun k => match k with
  | 0 => .int
  | 1 => .int
  | 2 => .object "Platehall$History"
  | 3 => .object "Platehall$Tests"
  | 4 => .object "Platehall$Course"
  | 5 => .object "Platehall$Course"
  | _ => .long
theorem nmX10 : ∀ a, a < 7 → ∀ b, b < 7 → a ≠ b → (TX10 a).2.1 ≠ (TX10 b).2.1 := by decide +kernel
theorem tyX10_ok : ∀ k, k < 7 → parseFieldDescriptor (TX10 k).2.2.1 = some (tyX10 k) := by decide +kernel
abbrev cX10_init : ByteArray := prog_12_method_1_code
def yX10_init : MethodName := ⟨RX10, "<init>", "(III)V"⟩
def RX11 : String := "Platehall"
def TX11 : u_T := fun k => match k with
  | 0 => ("Platehall", "today", "I", false)
  | 1 => ("Platehall", "buffer", "LPlatehall$Buffer;", true)
  | 2 => ("Platehall", "series", "LPlatehall$Series;", true)
  | 3 => ("Platehall", "vehicles", "Ljava/util/ArrayList;", true)
  | 4 => ("Platehall", "people", "Ljava/util/ArrayList;", true)
  | 5 => ("Platehall", "rates", "[LPlatehall$Course;", true)
  | 6 => ("Platehall", "ratesTold", "I", false)
  | 7 => ("Platehall", "sightings", "Ljava/util/ArrayList;", true)
  | 8 => ("Platehall", "sightingsByTime", "Ljava/util/ArrayList;", true)
  | _ => ("Platehall", "finesMade", "Ljava/util/ArrayList;", true)
def tyX11 : Nat → FieldType := fun k => match k with
  | 0 => .int
  | 1 => .object "Platehall$Buffer"
  | 2 => .object "Platehall$Series"
  | 3 => .object "java/util/ArrayList"
  | 4 => .object "java/util/ArrayList"
  | 5 => .array (.object "Platehall$Course")
  | 6 => .int
  | 7 => .object "java/util/ArrayList"
  | 8 => .object "java/util/ArrayList"
  | _ => .object "java/util/ArrayList"
theorem nmX11 : ∀ a, a < 10 → ∀ b, b < 10 → a ≠ b → (TX11 a).2.1 ≠ (TX11 b).2.1 := by decide +kernel
theorem tyX11_ok : ∀ k, k < 10 → parseFieldDescriptor (TX11 k).2.2.1 = some (tyX11 k) := by decide +kernel
abbrev cX11_init : ByteArray := prog_1_method_1_code
def yX11_init : MethodName := ⟨RX11, "<init>", "()V"⟩
abbrev cX11_type : ByteArray := prog_1_method_2_code
def yX11_type : MethodName := ⟨RX11, "type", "(C)I"⟩
abbrev cX11_clear : ByteArray := prog_1_method_3_code
def yX11_clear : MethodName := ⟨RX11, "clear", "()I"⟩
abbrev cX11_vehicle : ByteArray := prog_1_method_4_code
def yX11_vehicle : MethodName := ⟨RX11, "vehicle", "(III)I"⟩
abbrev cX11_stamped : ByteArray := prog_1_method_5_code
def yX11_stamped : MethodName := ⟨RX11, "stamped", "(I)I"⟩
abbrev cX11_person : ByteArray := prog_1_method_6_code
def yX11_person : MethodName := ⟨RX11, "person", "()I"⟩
abbrev cX11_protect : ByteArray := prog_1_method_7_code
def yX11_protect : MethodName := ⟨RX11, "protect", "(IZ)Z"⟩
abbrev cX11_vehicleAt : ByteArray := prog_1_method_8_code
def yX11_vehicleAt : MethodName := ⟨RX11, "vehicleAt", "(I)LPlatehall$Vehicle;"⟩
abbrev cX11_personAt : ByteArray := prog_1_method_9_code
def yX11_personAt : MethodName := ⟨RX11, "personAt", "(I)LPlatehall$Person;"⟩
abbrev cX11_vehicleOfSerial : ByteArray := prog_1_method_10_code
def yX11_vehicleOfSerial : MethodName := ⟨RX11, "vehicleOfSerial", "(I)I"⟩
abbrev cX11_checkDigit : ByteArray := prog_1_method_11_code
def yX11_checkDigit : MethodName := ⟨RX11, "checkDigit", "(I)I"⟩
abbrev cX11_stampedNumber : ByteArray := prog_1_method_12_code
def yX11_stampedNumber : MethodName := ⟨RX11, "stampedNumber", "(I)I"⟩
abbrev cX11_isWithin : ByteArray := prog_1_method_13_code
def yX11_isWithin : MethodName := ⟨RX11, "isWithin", "(III)Z"⟩
abbrev cX11_isClass : ByteArray := prog_1_method_14_code
def yX11_isClass : MethodName := ⟨RX11, "isClass", "(I)Z"⟩
abbrev cX11_tell : ByteArray := prog_1_method_15_code
def yX11_tell : MethodName := ⟨RX11, "tell", "(IIII)I"⟩
abbrev cX11_on : ByteArray := prog_1_method_16_code
def yX11_on : MethodName := ⟨RX11, "on", "(III)I"⟩
abbrev cX11_onAnew : ByteArray := prog_1_method_17_code
def yX11_onAnew : MethodName := ⟨RX11, "onAnew", "(III)I"⟩
abbrev cX11_fitsKind : ByteArray := prog_1_method_18_code
def yX11_fitsKind : MethodName := ⟨RX11, "fitsKind", "(II)Z"⟩
abbrev cX11_refuseStandingAsked : ByteArray := prog_1_method_19_code
def yX11_refuseStandingAsked : MethodName := ⟨RX11, "refuseStandingAsked", "(II)V"⟩
abbrev cX11_bar : ByteArray := prog_1_method_20_code
def yX11_bar : MethodName := ⟨RX11, "bar", "(CCZ)Z"⟩
abbrev cX11_allot : ByteArray := prog_1_method_21_code
def yX11_allot : MethodName := ⟨RX11, "allot", "(I)I"⟩
abbrev cX11_wish : ByteArray := prog_1_method_22_code
def yX11_wish : MethodName := ⟨RX11, "wish", "(I)I"⟩
abbrev cX11_plate : ByteArray := prog_1_method_23_code
def yX11_plate : MethodName := ⟨RX11, "plate", "(III)C"⟩
abbrev cX11_give : ByteArray := prog_1_method_24_code
def yX11_give : MethodName := ⟨RX11, "give", "(ILPlatehall$Vehicle;)V"⟩
abbrev cX11_isGoneToday : ByteArray := prog_1_method_25_code
def yX11_isGoneToday : MethodName := ⟨RX11, "isGoneToday", "(LPlatehall$Vehicle;)Z"⟩
abbrev cX11_isLetter : ByteArray := prog_1_method_26_code
def yX11_isLetter : MethodName := ⟨RX11, "isLetter", "(C)Z"⟩
abbrev cX11_isDigit : ByteArray := prog_1_method_27_code
def yX11_isDigit : MethodName := ⟨RX11, "isDigit", "(C)Z"⟩
abbrev cX11_fitsPlate : ByteArray := prog_1_method_28_code
def yX11_fitsPlate : MethodName := ⟨RX11, "fitsPlate", "(CI)Z"⟩
abbrev cX11_signOf : ByteArray := prog_1_method_29_code
def yX11_signOf : MethodName := ⟨RX11, "signOf", "(II)C"⟩
abbrev cX11_rate : ByteArray := prog_1_method_30_code
def yX11_rate : MethodName := ⟨RX11, "rate", "(III)I"⟩
abbrev cX11_pay : ByteArray := prog_1_method_31_code
def yX11_pay : MethodName := ⟨RX11, "pay", "(II)J"⟩
abbrev cX11_owes : ByteArray := prog_1_method_32_code
def yX11_owes : MethodName := ⟨RX11, "owes", "(I)J"⟩
abbrev cX11_taxOf : ByteArray := prog_1_method_33_code
def yX11_taxOf : MethodName := ⟨RX11, "taxOf", "(LPlatehall$History;)J"⟩
abbrev cX11_taxBetween : ByteArray := prog_1_method_34_code
def yX11_taxBetween : MethodName := ⟨RX11, "taxBetween", "(III)J"⟩
abbrev cX11_test : ByteArray := prog_1_method_35_code
def yX11_test : MethodName := ⟨RX11, "test", "(IIII)I"⟩
abbrev cX11_insure : ByteArray := prog_1_method_36_code
def yX11_insure : MethodName := ⟨RX11, "insure", "(II)Z"⟩
abbrev cX11_ofVehicle : ByteArray := prog_1_method_37_code
def yX11_ofVehicle : MethodName := ⟨RX11, "ofVehicle", "(II)I"⟩
abbrev cX11_gapOf : ByteArray := prog_1_method_38_code
def yX11_gapOf : MethodName := ⟨RX11, "gapOf", "(LPlatehall$Vehicle;)I"⟩
abbrev cX11_sight : ByteArray := prog_1_method_39_code
def yX11_sight : MethodName := ⟨RX11, "sight", "(II)I"⟩
abbrev cX11_seen : ByteArray := prog_1_method_40_code
def yX11_seen : MethodName := ⟨RX11, "seen", "(I)I"⟩
abbrev cX11_sightingAt : ByteArray := prog_1_method_41_code
def yX11_sightingAt : MethodName := ⟨RX11, "sightingAt", "(I)LPlatehall$Sighting;"⟩
abbrev cX11_fileByTime : ByteArray := prog_1_method_42_code
def yX11_fileByTime : MethodName := ⟨RX11, "fileByTime", "(LPlatehall$Sighting;)V"⟩
abbrev cX11_vehicleSeen : ByteArray := prog_1_method_43_code
def yX11_vehicleSeen : MethodName := ⟨RX11, "vehicleSeen", "(LPlatehall$Sighting;)I"⟩
abbrev cX11_clonesOf : ByteArray := prog_1_method_44_code
def yX11_clonesOf : MethodName := ⟨RX11, "clonesOf", "(I)I"⟩
abbrev cX11_fine : ByteArray := prog_1_method_45_code
def yX11_fine : MethodName := ⟨RX11, "fine", "(II)I"⟩
abbrev cX11_name : ByteArray := prog_1_method_46_code
def yX11_name : MethodName := ⟨RX11, "name", "(II)I"⟩
abbrev cX11_whose : ByteArray := prog_1_method_47_code
def yX11_whose : MethodName := ⟨RX11, "whose", "(I)I"⟩
abbrev cX11_fines : ByteArray := prog_1_method_48_code
def yX11_fines : MethodName := ⟨RX11, "fines", "(I)I"⟩
abbrev cX11_fineAt : ByteArray := prog_1_method_49_code
def yX11_fineAt : MethodName := ⟨RX11, "fineAt", "(I)LPlatehall$Fine;"⟩
abbrev cX11_payerOf : ByteArray := prog_1_method_50_code
def yX11_payerOf : MethodName := ⟨RX11, "payerOf", "(LPlatehall$Fine;)I"⟩
abbrev cX11_look : ByteArray := prog_1_method_51_code
def yX11_look : MethodName := ⟨RX11, "look", "(I)I"⟩
abbrev cX11_looked : ByteArray := prog_1_method_52_code
def yX11_looked : MethodName := ⟨RX11, "looked", "(I)I"⟩
abbrev cX11_isAllowedByState : ByteArray := prog_1_method_53_code
def yX11_isAllowedByState : MethodName := ⟨RX11, "isAllowedByState", "(I)Z"⟩
abbrev cX11_pass : ByteArray := prog_1_method_54_code
def yX11_pass : MethodName := ⟨RX11, "pass", "(I)I"⟩
def RX12 : String := "PlatehallModel"
def TX12 : u_T := fun k => match k with
  | _ => ("", "", "", false)
def tyX12 : Nat → FieldType := fun k => match k with
  | _ => .int
theorem nmX12 : ∀ a, a < 0 → ∀ b, b < 0 → a ≠ b → (TX12 a).2.1 ≠ (TX12 b).2.1 := by decide +kernel
theorem tyX12_ok : ∀ k, k < 0 → parseFieldDescriptor (TX12 k).2.2.1 = some (tyX12 k) := by decide +kernel
def RJx145de : String := "java/io/Serializable"
def TJx145de : u_T := fun k => match k with
  | _ => ("", "", "", false)
def tyJx145de : Nat → FieldType := fun k => match k with
  | _ => .int
theorem nmJx145de : ∀ a, a < 0 → ∀ b, b < 0 → a ≠ b → (TJx145de a).2.1 ≠ (TJx145de b).2.1 := by decide +kernel
theorem tyJx145de_ok : ∀ k, k < 0 → parseFieldDescriptor (TJx145de k).2.2.1 = some (tyJx145de k) := by decide +kernel
def RJ5 : String := "java/lang/AbstractStringBuilder"
def TJ5 : u_T := fun k => match k with
  | _ => ("", "", "", false)
def tyJ5 : Nat → FieldType := fun k => match k with
  | _ => .int
theorem nmJ5 : ∀ a, a < 0 → ∀ b, b < 0 → a ≠ b → (TJ5 a).2.1 ≠ (TJ5 b).2.1 := by decide +kernel
theorem tyJ5_ok : ∀ k, k < 0 → parseFieldDescriptor (TJ5 k).2.2.1 = some (tyJ5 k) := by decide +kernel
abbrev cJ5_init_d00df : ByteArray := prog_16_method_2_code
def yJ5_init_d00df : MethodName := ⟨RJ5, "<init>", "(I)V"⟩
abbrev cJ5_length_8abf5 : ByteArray := prog_16_method_6_code
def yJ5_length_8abf5 : MethodName := ⟨RJ5, "length", "()I"⟩
abbrev cJ5_ensureCapacityInternal_d00df : ByteArray := prog_16_method_9_code
def yJ5_ensureCapacityInternal_d00df : MethodName := ⟨RJ5, "ensureCapacityInternal", "(I)V"⟩
abbrev cJ5_newCapacity_0f7a4 : ByteArray := prog_16_method_10_code
def yJ5_newCapacity_0f7a4 : MethodName := ⟨RJ5, "newCapacity", "(I)I"⟩
abbrev cJ5_inflate_da8c8 : ByteArray := prog_16_method_11_code
def yJ5_inflate_da8c8 : MethodName := ⟨RJ5, "inflate", "()V"⟩
abbrev cJ5_append_cf1ce : ByteArray := prog_16_method_22_code
def yJ5_append_cf1ce : MethodName := ⟨RJ5, "append", "(Ljava/lang/String;)Ljava/lang/AbstractStringBuilder;"⟩
abbrev cJ5_appendNull_278bc : ByteArray := prog_16_method_26_code
def yJ5_appendNull_278bc : MethodName := ⟨RJ5, "appendNull", "()Ljava/lang/AbstractStringBuilder;"⟩
abbrev cJ5_append_c97b9 : ByteArray := prog_16_method_32_code
def yJ5_append_c97b9 : MethodName := ⟨RJ5, "append", "(I)Ljava/lang/AbstractStringBuilder;"⟩
abbrev cJ5_getValue_6d5f1 : ByteArray := prog_16_method_64_code
def yJ5_getValue_6d5f1 : MethodName := ⟨RJ5, "getValue", "()[B"⟩
abbrev cJ5_isLatin1_aae02 : ByteArray := prog_16_method_68_code
def yJ5_isLatin1_aae02 : MethodName := ⟨RJ5, "isLatin1", "()Z"⟩
abbrev cJ5_inflateIfNeededFor_a7421 : ByteArray := prog_16_method_71_code
def yJ5_inflateIfNeededFor_a7421 : MethodName := ⟨RJ5, "inflateIfNeededFor", "(Ljava/lang/String;)V"⟩
abbrev cJ5_putStringAt_47b60 : ByteArray := prog_16_method_73_code
def yJ5_putStringAt_47b60 : MethodName := ⟨RJ5, "putStringAt", "(ILjava/lang/String;)V"⟩
def RJx2cfe8 : String := "java/lang/Appendable"
def TJx2cfe8 : u_T := fun k => match k with
  | _ => ("", "", "", false)
def tyJx2cfe8 : Nat → FieldType := fun k => match k with
  | _ => .int
theorem nmJx2cfe8 : ∀ a, a < 0 → ∀ b, b < 0 → a ≠ b → (TJx2cfe8 a).2.1 ≠ (TJx2cfe8 b).2.1 := by decide +kernel
theorem tyJx2cfe8_ok : ∀ k, k < 0 → parseFieldDescriptor (TJx2cfe8 k).2.2.1 = some (tyJx2cfe8 k) := by decide +kernel
def RJx9f9b0 : String := "java/lang/CharSequence"
def TJx9f9b0 : u_T := fun k => match k with
  | _ => ("", "", "", false)
def tyJx9f9b0 : Nat → FieldType := fun k => match k with
  | _ => .int
theorem nmJx9f9b0 : ∀ a, a < 0 → ∀ b, b < 0 → a ≠ b → (TJx9f9b0 a).2.1 ≠ (TJx9f9b0 b).2.1 := by decide +kernel
theorem tyJx9f9b0_ok : ∀ k, k < 0 → parseFieldDescriptor (TJx9f9b0 k).2.2.1 = some (tyJx9f9b0 k) := by decide +kernel
def RJx8e188 : String := "java/lang/Cloneable"
def TJx8e188 : u_T := fun k => match k with
  | _ => ("", "", "", false)
def tyJx8e188 : Nat → FieldType := fun k => match k with
  | _ => .int
theorem nmJx8e188 : ∀ a, a < 0 → ∀ b, b < 0 → a ≠ b → (TJx8e188 a).2.1 ≠ (TJx8e188 b).2.1 := by decide +kernel
theorem tyJx8e188_ok : ∀ k, k < 0 → parseFieldDescriptor (TJx8e188 k).2.2.1 = some (tyJx8e188 k) := by decide +kernel
def RJxb160c : String := "java/lang/Comparable"
def TJxb160c : u_T := fun k => match k with
  | _ => ("", "", "", false)
def tyJxb160c : Nat → FieldType := fun k => match k with
  | _ => .int
theorem nmJxb160c : ∀ a, a < 0 → ∀ b, b < 0 → a ≠ b → (TJxb160c a).2.1 ≠ (TJxb160c b).2.1 := by decide +kernel
theorem tyJxb160c_ok : ∀ k, k < 0 → parseFieldDescriptor (TJxb160c k).2.2.1 = some (tyJxb160c k) := by decide +kernel
def RJ6 : String := "java/lang/Integer"
def TJ6 : u_T := fun k => match k with
  | _ => ("", "", "", false)
def tyJ6 : Nat → FieldType := fun k => match k with
  | _ => .int
theorem nmJ6 : ∀ a, a < 0 → ∀ b, b < 0 → a ≠ b → (TJ6 a).2.1 ≠ (TJ6 b).2.1 := by decide +kernel
theorem tyJ6_ok : ∀ k, k < 0 → parseFieldDescriptor (TJ6 k).2.2.1 = some (tyJ6 k) := by decide +kernel
abbrev cJ6_getChars_ba4f3 : ByteArray := prog_25_method_12_code
def yJ6_getChars_ba4f3 : MethodName := ⟨RJ6, "getChars", "(II[B)I"⟩
abbrev cJ6_stringSize_0f7a4 : ByteArray := prog_25_method_13_code
def yJ6_stringSize_0f7a4 : MethodName := ⟨RJ6, "stringSize", "(I)I"⟩
def RJxab1ab : String := "java/lang/Iterable"
def TJxab1ab : u_T := fun k => match k with
  | _ => ("", "", "", false)
def tyJxab1ab : Nat → FieldType := fun k => match k with
  | _ => .int
theorem nmJxab1ab : ∀ a, a < 0 → ∀ b, b < 0 → a ≠ b → (TJxab1ab a).2.1 ≠ (TJxab1ab b).2.1 := by decide +kernel
theorem tyJxab1ab_ok : ∀ k, k < 0 → parseFieldDescriptor (TJxab1ab k).2.2.1 = some (tyJxab1ab k) := by decide +kernel
def RJ9 : String := "java/lang/Math"
def TJ9 : u_T := fun k => match k with
  | _ => ("", "", "", false)
def tyJ9 : Nat → FieldType := fun k => match k with
  | _ => .int
theorem nmJ9 : ∀ a, a < 0 → ∀ b, b < 0 → a ≠ b → (TJ9 a).2.1 ≠ (TJ9 b).2.1 := by decide +kernel
theorem tyJ9_ok : ∀ k, k < 0 → parseFieldDescriptor (TJ9 k).2.2.1 = some (tyJ9 k) := by decide +kernel
abbrev cJ9_abs_0f7a4 : ByteArray := prog_27_method_59_code
def yJ9_abs_0f7a4 : MethodName := ⟨RJ9, "abs", "(I)I"⟩
abbrev cJ9_max_7cf53 : ByteArray := prog_27_method_65_code
def yJ9_max_7cf53 : MethodName := ⟨RJ9, "max", "(II)I"⟩
abbrev cJ9_min_7cf53 : ByteArray := prog_27_method_69_code
def yJ9_min_7cf53 : MethodName := ⟨RJ9, "min", "(II)I"⟩
def RJxd2413 : String := "java/lang/Number"
def TJxd2413 : u_T := fun k => match k with
  | _ => ("", "", "", false)
def tyJxd2413 : Nat → FieldType := fun k => match k with
  | _ => .int
theorem nmJxd2413 : ∀ a, a < 0 → ∀ b, b < 0 → a ≠ b → (TJxd2413 a).2.1 ≠ (TJxd2413 b).2.1 := by decide +kernel
theorem tyJxd2413_ok : ∀ k, k < 0 → parseFieldDescriptor (TJxd2413 k).2.2.1 = some (tyJxd2413 k) := by decide +kernel
def RJ0 : String := "java/lang/String"
def TJ0 : u_T := fun k => match k with
  | 0 => ("java/lang/String", "value", "[B", true)
  | 1 => ("java/lang/String", "coder", "B", true)
  | 2 => ("java/lang/String", "hash", "I", false)
  | _ => ("java/lang/String", "hashIsZero", "Z", false)
def tyJ0 : Nat → FieldType := fun k => match k with
  | 0 => .array .byte
  | 1 => .byte
  | 2 => .int
  | _ => .boolean
theorem nmJ0 : ∀ a, a < 4 → ∀ b, b < 4 → a ≠ b → (TJ0 a).2.1 ≠ (TJ0 b).2.1 := by decide +kernel
theorem tyJ0_ok : ∀ k, k < 4 → parseFieldDescriptor (TJ0 k).2.2.1 = some (tyJ0 k) := by decide +kernel
abbrev cJ0_init_81219 : ByteArray := prog_30_method_53_code
def yJ0_init_81219 : MethodName := ⟨RJ0, "<init>", "(Ljava/lang/StringBuilder;)V"⟩
abbrev cJ0_length_8abf5 : ByteArray := prog_30_method_54_code
def yJ0_length_8abf5 : MethodName := ⟨RJ0, "length", "()I"⟩
abbrev cJ0_charAt_5068e : ByteArray := prog_30_method_56_code
def yJ0_charAt_5068e : MethodName := ⟨RJ0, "charAt", "(I)C"⟩
abbrev cJ0_getBytes_840e7 : ByteArray := prog_30_method_147_code
def yJ0_getBytes_840e7 : MethodName := ⟨RJ0, "getBytes", "([BIB)V"⟩
abbrev cJ0_init_db425 : ByteArray := prog_30_method_150_code
def yJ0_init_db425 : MethodName := ⟨RJ0, "<init>", "(Ljava/lang/AbstractStringBuilder;Ljava/lang/Void;)V"⟩
abbrev cJ0_coder_7d493 : ByteArray := prog_30_method_152_code
def yJ0_coder_7d493 : MethodName := ⟨RJ0, "coder", "()B"⟩
abbrev cJ0_isLatin1_aae02 : ByteArray := prog_30_method_154_code
def yJ0_isLatin1_aae02 : MethodName := ⟨RJ0, "isLatin1", "()Z"⟩
abbrev cJ0_checkIndex_df160 : ByteArray := prog_30_method_155_code
def yJ0_checkIndex_df160 : MethodName := ⟨RJ0, "checkIndex", "(II)V"⟩
abbrev cJ0_checkBoundsOffCount_cabcc : ByteArray := prog_30_method_157_code
def yJ0_checkBoundsOffCount_cabcc : MethodName := ⟨RJ0, "checkBoundsOffCount", "(III)I"⟩
abbrev cJ0_checkBoundsBeginEnd_23922 : ByteArray := prog_30_method_158_code
def yJ0_checkBoundsBeginEnd_23922 : MethodName := ⟨RJ0, "checkBoundsBeginEnd", "(III)V"⟩
def RJ4 : String := "java/lang/StringBuilder"
def TJ4 : u_T := fun k => match k with
  | 0 => ("java/lang/AbstractStringBuilder", "value", "[B", false)
  | 1 => ("java/lang/AbstractStringBuilder", "coder", "B", false)
  | 2 => ("java/lang/AbstractStringBuilder", "maybeLatin1", "Z", false)
  | _ => ("java/lang/AbstractStringBuilder", "count", "I", false)
def tyJ4 : Nat → FieldType := fun k => match k with
  | 0 => .array .byte
  | 1 => .byte
  | 2 => .boolean
  | _ => .int
theorem nmJ4 : ∀ a, a < 4 → ∀ b, b < 4 → a ≠ b → (TJ4 a).2.1 ≠ (TJ4 b).2.1 := by decide +kernel
theorem tyJ4_ok : ∀ k, k < 4 → parseFieldDescriptor (TJ4 k).2.2.1 = some (tyJ4 k) := by decide +kernel
abbrev cJ4_init_da8c8 : ByteArray := prog_31_method_1_code
def yJ4_init_da8c8 : MethodName := ⟨RJ4, "<init>", "()V"⟩
abbrev cJ4_append_15ec4 : ByteArray := prog_31_method_7_code
def yJ4_append_15ec4 : MethodName := ⟨RJ4, "append", "(Ljava/lang/String;)Ljava/lang/StringBuilder;"⟩
abbrev cJ4_append_bf812 : ByteArray := prog_31_method_15_code
def yJ4_append_bf812 : MethodName := ⟨RJ4, "append", "(I)Ljava/lang/StringBuilder;"⟩
abbrev cJ4_toString_0e30d : ByteArray := prog_31_method_42_code
def yJ4_toString_0e30d : MethodName := ⟨RJ4, "toString", "()Ljava/lang/String;"⟩
abbrev cJ4_length_8abf5 : ByteArray := prog_31_method_93_code
def yJ4_length_8abf5 : MethodName := ⟨RJ4, "length", "()I"⟩
def RJ1 : String := "java/lang/StringLatin1"
def TJ1 : u_T := fun k => match k with
  | _ => ("", "", "", false)
def tyJ1 : Nat → FieldType := fun k => match k with
  | _ => .int
theorem nmJ1 : ∀ a, a < 0 → ∀ b, b < 0 → a ≠ b → (TJ1 a).2.1 ≠ (TJ1 b).2.1 := by decide +kernel
theorem tyJ1_ok : ∀ k, k < 0 → parseFieldDescriptor (TJ1 k).2.2.1 = some (tyJ1 k) := by decide +kernel
abbrev cJ1_charAt_3b067 : ByteArray := prog_32_method_2_code
def yJ1_charAt_3b067 : MethodName := ⟨RJ1, "charAt", "([BI)C"⟩
abbrev cJ1_inflate_0e8fd : ByteArray := prog_32_method_50_code
def yJ1_inflate_0e8fd : MethodName := ⟨RJ1, "inflate", "([BI[BII)V"⟩
def RJ2 : String := "java/lang/StringUTF16"
def TJ2 : u_T := fun k => match k with
  | _ => ("", "", "", false)
def tyJ2 : Nat → FieldType := fun k => match k with
  | _ => .int
theorem nmJ2 : ∀ a, a < 0 → ∀ b, b < 0 → a ≠ b → (TJ2 a).2.1 ≠ (TJ2 b).2.1 := by decide +kernel
theorem tyJ2_ok : ∀ k, k < 0 → parseFieldDescriptor (TJ2 k).2.2.1 = some (tyJ2 k) := by decide +kernel
abbrev cJ2_newBytesFor_77867 : ByteArray := prog_33_method_2_code
def yJ2_newBytesFor_77867 : MethodName := ⟨RJ2, "newBytesFor", "(I)[B"⟩
abbrev cJ2_newBytesLength_0f7a4 : ByteArray := prog_33_method_3_code
def yJ2_newBytesLength_0f7a4 : MethodName := ⟨RJ2, "newBytesLength", "(I)I"⟩
abbrev cJ2_putChar_b72d1 : ByteArray := prog_33_method_4_code
def yJ2_putChar_b72d1 : MethodName := ⟨RJ2, "putChar", "([BII)V"⟩
abbrev cJ2_getChar_3b067 : ByteArray := prog_33_method_5_code
def yJ2_getChar_3b067 : MethodName := ⟨RJ2, "getChar", "([BI)C"⟩
abbrev cJ2_length_9d52b : ByteArray := prog_33_method_6_code
def yJ2_length_9d52b : MethodName := ⟨RJ2, "length", "([B)I"⟩
abbrev cJ2_coderFromArrayLen_85cad : ByteArray := prog_33_method_15_code
def yJ2_coderFromArrayLen_85cad : MethodName := ⟨RJ2, "coderFromArrayLen", "([BI)B"⟩
abbrev cJ2_compress_39247 : ByteArray := prog_33_method_17_code
def yJ2_compress_39247 : MethodName := ⟨RJ2, "compress", "([BII)[B"⟩
abbrev cJ2_compress_5af95 : ByteArray := prog_33_method_22_code
def yJ2_compress_5af95 : MethodName := ⟨RJ2, "compress", "([BI[BII)I"⟩
abbrev cJ2_getChars_46870 : ByteArray := prog_33_method_77_code
def yJ2_getChars_46870 : MethodName := ⟨RJ2, "getChars", "(III[B)I"⟩
abbrev cJ2_putCharsAt_cd4e5 : ByteArray := prog_33_method_81_code
def yJ2_putCharsAt_cd4e5 : MethodName := ⟨RJ2, "putCharsAt", "([BICCCC)I"⟩
abbrev cJ2_charAt_3b067 : ByteArray := prog_33_method_83_code
def yJ2_charAt_3b067 : MethodName := ⟨RJ2, "charAt", "([BI)C"⟩
abbrev cJ2_inflate_0e8fd : ByteArray := prog_33_method_86_code
def yJ2_inflate_0e8fd : MethodName := ⟨RJ2, "inflate", "([BI[BII)V"⟩
abbrev cJ2_getChars_ba4f3 : ByteArray := prog_33_method_89_code
def yJ2_getChars_ba4f3 : MethodName := ⟨RJ2, "getChars", "(II[B)I"⟩
abbrev cJ2_checkIndex_2214a : ByteArray := prog_33_method_91_code
def yJ2_checkIndex_2214a : MethodName := ⟨RJ2, "checkIndex", "(I[B)V"⟩
abbrev cJ2_checkBoundsBeginEnd_d044e : ByteArray := prog_33_method_93_code
def yJ2_checkBoundsBeginEnd_d044e : MethodName := ⟨RJ2, "checkBoundsBeginEnd", "(II[B)V"⟩
abbrev cJ2_checkBoundsOffCount_d044e : ByteArray := prog_33_method_94_code
def yJ2_checkBoundsOffCount_d044e : MethodName := ⟨RJ2, "checkBoundsOffCount", "(II[B)V"⟩
def RJ10 : String := "java/lang/System"
def TJ10 : u_T := fun k => match k with
  | _ => ("", "", "", false)
def tyJ10 : Nat → FieldType := fun k => match k with
  | _ => .int
theorem nmJ10 : ∀ a, a < 0 → ∀ b, b < 0 → a ≠ b → (TJ10 a).2.1 ≠ (TJ10 b).2.1 := by decide +kernel
theorem tyJ10_ok : ∀ k, k < 0 → parseFieldDescriptor (TJ10 k).2.2.1 = some (tyJ10 k) := by decide +kernel
def RJxfd54e : String := "java/lang/constant/Constable"
def TJxfd54e : u_T := fun k => match k with
  | _ => ("", "", "", false)
def tyJxfd54e : Nat → FieldType := fun k => match k with
  | _ => .int
theorem nmJxfd54e : ∀ a, a < 0 → ∀ b, b < 0 → a ≠ b → (TJxfd54e a).2.1 ≠ (TJxfd54e b).2.1 := by decide +kernel
theorem tyJxfd54e_ok : ∀ k, k < 0 → parseFieldDescriptor (TJxfd54e k).2.2.1 = some (tyJxfd54e k) := by decide +kernel
def RJx3cf43 : String := "java/lang/constant/ConstantDesc"
def TJx3cf43 : u_T := fun k => match k with
  | _ => ("", "", "", false)
def tyJx3cf43 : Nat → FieldType := fun k => match k with
  | _ => .int
theorem nmJx3cf43 : ∀ a, a < 0 → ∀ b, b < 0 → a ≠ b → (TJx3cf43 a).2.1 ≠ (TJx3cf43 b).2.1 := by decide +kernel
theorem tyJx3cf43_ok : ∀ k, k < 0 → parseFieldDescriptor (TJx3cf43 k).2.2.1 = some (tyJx3cf43 k) := by decide +kernel
def RJxa1e45 : String := "java/util/AbstractCollection"
def TJxa1e45 : u_T := fun k => match k with
  | _ => ("", "", "", false)
def tyJxa1e45 : Nat → FieldType := fun k => match k with
  | _ => .int
theorem nmJxa1e45 : ∀ a, a < 0 → ∀ b, b < 0 → a ≠ b → (TJxa1e45 a).2.1 ≠ (TJxa1e45 b).2.1 := by decide +kernel
theorem tyJxa1e45_ok : ∀ k, k < 0 → parseFieldDescriptor (TJxa1e45 k).2.2.1 = some (tyJxa1e45 k) := by decide +kernel
abbrev cJxa1e45_init_da8c8 : ByteArray := prog_38_method_1_code
def yJxa1e45_init_da8c8 : MethodName := ⟨RJxa1e45, "<init>", "()V"⟩
def RJxc12de : String := "java/util/AbstractList"
def TJxc12de : u_T := fun k => match k with
  | _ => ("", "", "", false)
def tyJxc12de : Nat → FieldType := fun k => match k with
  | _ => .int
theorem nmJxc12de : ∀ a, a < 0 → ∀ b, b < 0 → a ≠ b → (TJxc12de a).2.1 ≠ (TJxc12de b).2.1 := by decide +kernel
theorem tyJxc12de_ok : ∀ k, k < 0 → parseFieldDescriptor (TJxc12de k).2.2.1 = some (tyJxc12de k) := by decide +kernel
abbrev cJxc12de_init_da8c8 : ByteArray := prog_39_method_1_code
def yJxc12de_init_da8c8 : MethodName := ⟨RJxc12de, "<init>", "()V"⟩
def RJx4a65c : String := "java/util/ArrayList"
def TJx4a65c : u_T := fun k => match k with
  | 0 => ("java/util/AbstractList", "modCount", "I", false)
  | 1 => ("java/util/ArrayList", "elementData", "[Ljava/lang/Object;", false)
  | _ => ("java/util/ArrayList", "size", "I", false)
def tyJx4a65c : Nat → FieldType := fun k => match k with
  | 0 => .int
  | 1 => .array (.object "java/lang/Object")
  | _ => .int
theorem nmJx4a65c : ∀ a, a < 3 → ∀ b, b < 3 → a ≠ b → (TJx4a65c a).2.1 ≠ (TJx4a65c b).2.1 := by decide +kernel
theorem tyJx4a65c_ok : ∀ k, k < 3 → parseFieldDescriptor (TJx4a65c k).2.2.1 = some (tyJx4a65c k) := by decide +kernel
abbrev cJx4a65c_init_da8c8 : ByteArray := prog_40_method_2_code
def yJx4a65c_init_da8c8 : MethodName := ⟨RJx4a65c, "<init>", "()V"⟩
abbrev cJx4a65c_grow_92f84 : ByteArray := prog_40_method_6_code
def yJx4a65c_grow_92f84 : MethodName := ⟨RJx4a65c, "grow", "(I)[Ljava/lang/Object;"⟩
abbrev cJx4a65c_grow_d5877 : ByteArray := prog_40_method_7_code
def yJx4a65c_grow_d5877 : MethodName := ⟨RJx4a65c, "grow", "()[Ljava/lang/Object;"⟩
abbrev cJx4a65c_size_8abf5 : ByteArray := prog_40_method_8_code
def yJx4a65c_size_8abf5 : MethodName := ⟨RJx4a65c, "size", "()I"⟩
abbrev cJx4a65c_elementData_915e3 : ByteArray := prog_40_method_18_code
def yJx4a65c_elementData_915e3 : MethodName := ⟨RJx4a65c, "elementData", "(I)Ljava/lang/Object;"⟩
abbrev cJx4a65c_get_915e3 : ByteArray := prog_40_method_20_code
def yJx4a65c_get_915e3 : MethodName := ⟨RJx4a65c, "get", "(I)Ljava/lang/Object;"⟩
abbrev cJx4a65c_add_72be8 : ByteArray := prog_40_method_24_code
def yJx4a65c_add_72be8 : MethodName := ⟨RJx4a65c, "add", "(Ljava/lang/Object;[Ljava/lang/Object;I)V"⟩
abbrev cJx4a65c_add_9ea2d : ByteArray := prog_40_method_25_code
def yJx4a65c_add_9ea2d : MethodName := ⟨RJx4a65c, "add", "(Ljava/lang/Object;)Z"⟩
abbrev cJx4a65c_add_7a177 : ByteArray := prog_40_method_26_code
def yJx4a65c_add_7a177 : MethodName := ⟨RJx4a65c, "add", "(ILjava/lang/Object;)V"⟩
abbrev cJx4a65c_rangeCheckForAdd_d00df : ByteArray := prog_40_method_45_code
def yJx4a65c_rangeCheckForAdd_d00df : MethodName := ⟨RJx4a65c, "rangeCheckForAdd", "(I)V"⟩
abbrev cJx4a65c_outOfBoundsMsg_b52d3 : ByteArray := prog_40_method_46_code
def yJx4a65c_outOfBoundsMsg_b52d3 : MethodName := ⟨RJx4a65c, "outOfBoundsMsg", "(I)Ljava/lang/String;"⟩
def RJ7 : String := "java/util/Arrays"
def TJ7 : u_T := fun k => match k with
  | _ => ("", "", "", false)
def tyJ7 : Nat → FieldType := fun k => match k with
  | _ => .int
theorem nmJ7 : ∀ a, a < 0 → ∀ b, b < 0 → a ≠ b → (TJ7 a).2.1 ≠ (TJ7 b).2.1 := by decide +kernel
theorem tyJ7_ok : ∀ k, k < 0 → parseFieldDescriptor (TJ7 k).2.2.1 = some (tyJ7 k) := by decide +kernel
abbrev cJ7_copyOf_1904c : ByteArray := prog_41_method_119_code
def yJ7_copyOf_1904c : MethodName := ⟨RJ7, "copyOf", "([Ljava/lang/Object;I)[Ljava/lang/Object;"⟩
abbrev cJ7_copyOf_6403c : ByteArray := prog_41_method_120_code
def yJ7_copyOf_6403c : MethodName := ⟨RJ7, "copyOf", "([Ljava/lang/Object;ILjava/lang/Class;)[Ljava/lang/Object;"⟩
abbrev cJ7_copyOf_9075b : ByteArray := prog_41_method_121_code
def yJ7_copyOf_9075b : MethodName := ⟨RJ7, "copyOf", "([BI)[B"⟩
abbrev cJ7_copyOf_59c91 : ByteArray := prog_41_method_123_code
def yJ7_copyOf_59c91 : MethodName := ⟨RJ7, "copyOf", "([II)[I"⟩
abbrev cJ7_checkLength_df160 : ByteArray := prog_41_method_131_code
def yJ7_checkLength_df160 : MethodName := ⟨RJ7, "checkLength", "(II)V"⟩
abbrev cJ7_copyOfRange_39247 : ByteArray := prog_41_method_132_code
def yJ7_copyOfRange_39247 : MethodName := ⟨RJ7, "copyOfRange", "([BII)[B"⟩
abbrev cJ7_copyOfRangeByte_39247 : ByteArray := prog_41_method_133_code
def yJ7_copyOfRangeByte_39247 : MethodName := ⟨RJ7, "copyOfRangeByte", "([BII)[B"⟩
def RJx5ef63 : String := "java/util/Collection"
def TJx5ef63 : u_T := fun k => match k with
  | _ => ("", "", "", false)
def tyJx5ef63 : Nat → FieldType := fun k => match k with
  | _ => .int
theorem nmJx5ef63 : ∀ a, a < 0 → ∀ b, b < 0 → a ≠ b → (TJx5ef63 a).2.1 ≠ (TJx5ef63 b).2.1 := by decide +kernel
theorem tyJx5ef63_ok : ∀ k, k < 0 → parseFieldDescriptor (TJx5ef63 k).2.2.1 = some (tyJx5ef63 k) := by decide +kernel
def RJxbd725 : String := "java/util/List"
def TJxbd725 : u_T := fun k => match k with
  | _ => ("", "", "", false)
def tyJxbd725 : Nat → FieldType := fun k => match k with
  | _ => .int
theorem nmJxbd725 : ∀ a, a < 0 → ∀ b, b < 0 → a ≠ b → (TJxbd725 a).2.1 ≠ (TJxbd725 b).2.1 := by decide +kernel
theorem tyJxbd725_ok : ∀ k, k < 0 → parseFieldDescriptor (TJxbd725 k).2.2.1 = some (tyJxbd725 k) := by decide +kernel
def RJ15 : String := "java/util/Objects"
def TJ15 : u_T := fun k => match k with
  | _ => ("", "", "", false)
def tyJ15 : Nat → FieldType := fun k => match k with
  | _ => .int
theorem nmJ15 : ∀ a, a < 0 → ∀ b, b < 0 → a ≠ b → (TJ15 a).2.1 ≠ (TJ15 b).2.1 := by decide +kernel
theorem tyJ15_ok : ∀ k, k < 0 → parseFieldDescriptor (TJ15 k).2.2.1 = some (tyJ15 k) := by decide +kernel
abbrev cJ15_checkIndex_7cf53 : ByteArray := prog_44_method_17_code
def yJ15_checkIndex_7cf53 : MethodName := ⟨RJ15, "checkIndex", "(II)I"⟩
def RJxf0a74 : String := "java/util/RandomAccess"
def TJxf0a74 : u_T := fun k => match k with
  | _ => ("", "", "", false)
def tyJxf0a74 : Nat → FieldType := fun k => match k with
  | _ => .int
theorem nmJxf0a74 : ∀ a, a < 0 → ∀ b, b < 0 → a ≠ b → (TJxf0a74 a).2.1 ≠ (TJxf0a74 b).2.1 := by decide +kernel
theorem tyJxf0a74_ok : ∀ k, k < 0 → parseFieldDescriptor (TJxf0a74 k).2.2.1 = some (tyJxf0a74 k) := by decide +kernel
def RJxa66e6 : String := "java/util/SequencedCollection"
def TJxa66e6 : u_T := fun k => match k with
  | _ => ("", "", "", false)
def tyJxa66e6 : Nat → FieldType := fun k => match k with
  | _ => .int
theorem nmJxa66e6 : ∀ a, a < 0 → ∀ b, b < 0 → a ≠ b → (TJxa66e6 a).2.1 ≠ (TJxa66e6 b).2.1 := by decide +kernel
theorem tyJxa66e6_ok : ∀ k, k < 0 → parseFieldDescriptor (TJxa66e6 k).2.2.1 = some (tyJxa66e6 k) := by decide +kernel
def RJ8 : String := "jdk/internal/util/ArraysSupport"
def TJ8 : u_T := fun k => match k with
  | _ => ("", "", "", false)
def tyJ8 : Nat → FieldType := fun k => match k with
  | _ => .int
theorem nmJ8 : ∀ a, a < 0 → ∀ b, b < 0 → a ≠ b → (TJ8 a).2.1 ≠ (TJ8 b).2.1 := by decide +kernel
theorem tyJ8_ok : ∀ k, k < 0 → parseFieldDescriptor (TJ8 k).2.2.1 = some (tyJ8 k) := by decide +kernel
abbrev cJ8_newLength_cabcc : ByteArray := prog_47_method_27_code
def yJ8_newLength_cabcc : MethodName := ⟨RJ8, "newLength", "(III)I"⟩
abbrev cJ8_hugeLength_7cf53 : ByteArray := prog_47_method_28_code
def yJ8_hugeLength_7cf53 : MethodName := ⟨RJ8, "hugeLength", "(II)I"⟩
def RJ3 : String := "jdk/internal/util/Preconditions"
def TJ3 : u_T := fun k => match k with
  | _ => ("", "", "", false)
def tyJ3 : Nat → FieldType := fun k => match k with
  | _ => .int
theorem nmJ3 : ∀ a, a < 0 → ∀ b, b < 0 → a ≠ b → (TJ3 a).2.1 ≠ (TJ3 b).2.1 := by decide +kernel
theorem tyJ3_ok : ∀ k, k < 0 → parseFieldDescriptor (TJ3 k).2.2.1 = some (tyJ3 k) := by decide +kernel
abbrev cJ3_checkIndex_8e157 : ByteArray := prog_48_method_11_code
def yJ3_checkIndex_8e157 : MethodName := ⟨RJ3, "checkIndex", "(IILjava/util/function/BiFunction;)I"⟩
abbrev cJ3_checkFromToIndex_8c36e : ByteArray := prog_48_method_12_code
def yJ3_checkFromToIndex_8c36e : MethodName := ⟨RJ3, "checkFromToIndex", "(IIILjava/util/function/BiFunction;)I"⟩
abbrev cJ3_checkFromIndexSize_8c36e : ByteArray := prog_48_method_13_code
def yJ3_checkFromIndexSize_8c36e : MethodName := ⟨RJ3, "checkFromIndexSize", "(IIILjava/util/function/BiFunction;)I"⟩
def RL : String := "PlatehallLaw"
abbrev cL_cell : ByteArray := method_2_code
def yL_cell : MethodName := ⟨RL, "cell", "([II)I"⟩
abbrev cL_low : ByteArray := method_3_code
def yL_low : MethodName := ⟨RL, "low", "(II)I"⟩
abbrev cL_vehicle : ByteArray := method_5_code
def yL_vehicle : MethodName := ⟨RL, "vehicle", "(LPlatehall;III)J"⟩
abbrev cL_person : ByteArray := method_7_code
def yL_person : MethodName := ⟨RL, "person", "(LPlatehall;)J"⟩
abbrev cL_protect : ByteArray := method_8_code
def yL_protect : MethodName := ⟨RL, "protect", "(LPlatehall;IZ)J"⟩
abbrev cL_tell : ByteArray := method_9_code
def yL_tell : MethodName := ⟨RL, "tell", "(LPlatehall;IIII)J"⟩
abbrev cL_on : ByteArray := method_10_code
def yL_on : MethodName := ⟨RL, "on", "(LPlatehall;III)J"⟩
abbrev cL_bar : ByteArray := method_11_code
def yL_bar : MethodName := ⟨RL, "bar", "(LPlatehall;CCZ)J"⟩
abbrev cL_allot : ByteArray := method_12_code
def yL_allot : MethodName := ⟨RL, "allot", "(LPlatehall;I)J"⟩
abbrev cL_wish : ByteArray := method_13_code
def yL_wish : MethodName := ⟨RL, "wish", "(LPlatehall;I)J"⟩
abbrev cL_plate : ByteArray := method_14_code
def yL_plate : MethodName := ⟨RL, "plate", "(LPlatehall;III)J"⟩
abbrev cL_rate : ByteArray := method_15_code
def yL_rate : MethodName := ⟨RL, "rate", "(LPlatehall;III)J"⟩
abbrev cL_pay : ByteArray := method_16_code
def yL_pay : MethodName := ⟨RL, "pay", "(LPlatehall;II)J"⟩
abbrev cL_owes : ByteArray := method_17_code
def yL_owes : MethodName := ⟨RL, "owes", "(LPlatehall;I)J"⟩
abbrev cL_test : ByteArray := method_18_code
def yL_test : MethodName := ⟨RL, "test", "(LPlatehall;IIII)J"⟩
abbrev cL_insure : ByteArray := method_19_code
def yL_insure : MethodName := ⟨RL, "insure", "(LPlatehall;II)J"⟩
abbrev cL_ofVehicle : ByteArray := method_20_code
def yL_ofVehicle : MethodName := ⟨RL, "ofVehicle", "(LPlatehall;II)J"⟩
abbrev cL_sight : ByteArray := method_21_code
def yL_sight : MethodName := ⟨RL, "sight", "(LPlatehall;II)J"⟩
abbrev cL_seen : ByteArray := method_22_code
def yL_seen : MethodName := ⟨RL, "seen", "(LPlatehall;I)J"⟩
abbrev cL_fine : ByteArray := method_23_code
def yL_fine : MethodName := ⟨RL, "fine", "(LPlatehall;II)J"⟩
abbrev cL_name : ByteArray := method_24_code
def yL_name : MethodName := ⟨RL, "name", "(LPlatehall;II)J"⟩
abbrev cL_whose : ByteArray := method_25_code
def yL_whose : MethodName := ⟨RL, "whose", "(LPlatehall;I)J"⟩
abbrev cL_fines : ByteArray := method_26_code
def yL_fines : MethodName := ⟨RL, "fines", "(LPlatehall;I)J"⟩
abbrev cL_look : ByteArray := method_27_code
def yL_look : MethodName := ⟨RL, "look", "(LPlatehall;I)J"⟩
abbrev cL_looked : ByteArray := method_28_code
def yL_looked : MethodName := ⟨RL, "looked", "(LPlatehall;I)J"⟩
abbrev cL_pass : ByteArray := method_29_code
def yL_pass : MethodName := ⟨RL, "pass", "(LPlatehall;I)J"⟩
abbrev cL_types : ByteArray := method_30_code
def yL_types : MethodName := ⟨RL, "types", "(LPlatehall;I)V"⟩
abbrev cL_act : ByteArray := method_31_code
def yL_act : MethodName := ⟨RL, "act", "(LPlatehall;II)J"⟩
abbrev cL_areAlike : ByteArray := method_32_code
def yL_areAlike : MethodName := ⟨RL, "areAlike", "(LPlatehall;LPlatehall;I)Z"⟩
abbrev cL_isSo : ByteArray := method_33_code
def yL_isSo : MethodName := ⟨RL, "isSo", "(LPlatehall;I)Z"⟩
abbrev cL_law : ByteArray := code
def yL_law : MethodName := ⟨RL, "law", "([I)Z"⟩
abbrev vwCl : List vw_C := [(RJ0, TJ0, 4), (RJ4, TJ4, 4), (RJx4a65c, TJx4a65c, 3), (RX0, TX0, 2), (RX1, TX1, 3), (RX2, TX2, 4), (RX3, TX3, 5), (RX4, TX4, 3), (RX5, TX5, 2), (RX6, TX6, 3), (RX7, TX7, 4), (RX8, TX8, 5), (RX9, TX9, 5), (RX10, TX10, 7), (RX11, TX11, 10)]
