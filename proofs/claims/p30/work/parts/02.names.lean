def RX0 : String := "CavershamShift$Dial"
def TX0 : u_T := fun k => match k with
  | 0 => ("CavershamShift$Dial", "stations", "Ljava/util/ArrayList;", true)
  | _ => ("CavershamShift$Dial", "jammers", "Ljava/util/ArrayList;", true)
def tyX0 : Nat → FieldType := fun k => match k with
  | 0 => .object "java/util/ArrayList"
  | _ => .object "java/util/ArrayList"
abbrev wsX00 : List Cond := u_ws RX0 TX0 2
theorem nmX0 : ∀ a, a < 2 → ∀ b, b < 2 → a ≠ b → (TX0 a).2.1 ≠ (TX0 b).2.1 := by decide +kernel
theorem tyX0_ok : ∀ k, k < 2 → parseFieldDescriptor (TX0 k).2.2.1 = some (tyX0 k) := by decide +kernel
abbrev cX0_init : ByteArray := prog_2_method_1_code
def yX0_init : MethodName := ⟨RX0, "<init>", "()V"⟩
abbrev cX0_stationAt : ByteArray := prog_2_method_2_code
def yX0_stationAt : MethodName := ⟨RX0, "stationAt", "(I)LCavershamShift$Station;"⟩
abbrev cX0_jammerAt : ByteArray := prog_2_method_3_code
def yX0_jammerAt : MethodName := ⟨RX0, "jammerAt", "(I)LCavershamShift$Jammer;"⟩
abbrev cX0_strengthOf : ByteArray := prog_2_method_4_code
def yX0_strengthOf : MethodName := ⟨RX0, "strengthOf", "(LCavershamShift$Station;I)I"⟩
abbrev cX0_isNear : ByteArray := prog_2_method_5_code
def yX0_isNear : MethodName := ⟨RX0, "isNear", "(II)Z"⟩
abbrev cX0_isNight : ByteArray := prog_2_method_6_code
def yX0_isNight : MethodName := ⟨RX0, "isNight", "(I)Z"⟩
def RX1 : String := "CavershamShift$Jammer"
def TX1 : u_T := fun k => match k with
  | 0 => ("CavershamShift$Jammer", "band", "I", true)
  | _ => ("CavershamShift$Jammer", "power", "I", false)
def tyX1 : Nat → FieldType := fun k => match k with
  | 0 => .int
  | _ => .int
abbrev wsX10 : List Cond := u_ws RX1 TX1 2
theorem nmX1 : ∀ a, a < 2 → ∀ b, b < 2 → a ≠ b → (TX1 a).2.1 ≠ (TX1 b).2.1 := by decide +kernel
theorem tyX1_ok : ∀ k, k < 2 → parseFieldDescriptor (TX1 k).2.2.1 = some (tyX1 k) := by decide +kernel
abbrev cX1_init : ByteArray := prog_3_method_1_code
def yX1_init : MethodName := ⟨RX1, "<init>", "(II)V"⟩
def RX2 : String := "CavershamShift$Matching"
def TX2 : u_T := fun k => match k with
  | 0 => ("CavershamShift$Matching", "dial", "LCavershamShift$Dial;", true)
  | 1 => ("CavershamShift$Matching", "room", "LCavershamShift$Room;", true)
  | 2 => ("CavershamShift$Matching", "qualities", "[I", true)
  | 3 => ("CavershamShift$Matching", "sums", "[I", true)
  | _ => ("CavershamShift$Matching", "pairs", "[I", true)
def tyX2 : Nat → FieldType := fun k => match k with
  | 0 => .object "CavershamShift$Dial"
  | 1 => .object "CavershamShift$Room"
  | 2 => .array .int
  | 3 => .array .int
  | _ => .array .int
abbrev wsX20 : List Cond := u_ws RX2 TX2 5
theorem nmX2 : ∀ a, a < 5 → ∀ b, b < 5 → a ≠ b → (TX2 a).2.1 ≠ (TX2 b).2.1 := by decide +kernel
theorem tyX2_ok : ∀ k, k < 5 → parseFieldDescriptor (TX2 k).2.2.1 = some (tyX2 k) := by decide +kernel
abbrev cX2_init : ByteArray := prog_4_method_1_code
def yX2_init : MethodName := ⟨RX2, "<init>", "(LCavershamShift$Dial;LCavershamShift$Room;)V"⟩
abbrev cX2_greatestSum : ByteArray := prog_4_method_2_code
def yX2_greatestSum : MethodName := ⟨RX2, "greatestSum", "(I)I"⟩
abbrev cX2_choose : ByteArray := prog_4_method_3_code
def yX2_choose : MethodName := ⟨RX2, "choose", "(I)V"⟩
abbrev cX2_stationAtSet : ByteArray := prog_4_method_4_code
def yX2_stationAtSet : MethodName := ⟨RX2, "stationAtSet", "(I)I"⟩
abbrev cX2_monitorAtSet : ByteArray := prog_4_method_5_code
def yX2_monitorAtSet : MethodName := ⟨RX2, "monitorAtSet", "(I)I"⟩
abbrev cX2_pairAtSet : ByteArray := prog_4_method_6_code
def yX2_pairAtSet : MethodName := ⟨RX2, "pairAtSet", "(I)I"⟩
abbrev cX2_readQualities : ByteArray := prog_4_method_7_code
def yX2_readQualities : MethodName := ⟨RX2, "readQualities", "(I)V"⟩
abbrev cX2_smallestPair : ByteArray := prog_4_method_8_code
def yX2_smallestPair : MethodName := ⟨RX2, "smallestPair", "(IIII)I"⟩
abbrev cX2_greatestOf : ByteArray := prog_4_method_9_code
def yX2_greatestOf : MethodName := ⟨RX2, "greatestOf", "(III)I"⟩
abbrev cX2_addStation : ByteArray := prog_4_method_10_code
def yX2_addStation : MethodName := ⟨RX2, "addStation", "(III)V"⟩
abbrev cX2_qualityOfPair : ByteArray := prog_4_method_11_code
def yX2_qualityOfPair : MethodName := ⟨RX2, "qualityOfPair", "(I)I"⟩
def RX3 : String := "CavershamShift$Monitor"
def TX3 : u_T := fun k => match k with
  | 0 => ("CavershamShift$Monitor", "number", "I", true)
  | 1 => ("CavershamShift$Monitor", "skills", "I", true)
  | 2 => ("CavershamShift$Monitor", "weary", "I", false)
  | _ => ("CavershamShift$Monitor", "hoursSat", "I", false)
def tyX3 : Nat → FieldType := fun k => match k with
  | 0 => .int
  | 1 => .int
  | 2 => .int
  | _ => .int
abbrev wsX30 : List Cond := u_ws RX3 TX3 4
theorem nmX3 : ∀ a, a < 4 → ∀ b, b < 4 → a ≠ b → (TX3 a).2.1 ≠ (TX3 b).2.1 := by decide +kernel
theorem tyX3_ok : ∀ k, k < 4 → parseFieldDescriptor (TX3 k).2.2.1 = some (tyX3 k) := by decide +kernel
abbrev cX3_init : ByteArray := prog_5_method_1_code
def yX3_init : MethodName := ⟨RX3, "<init>", "(II)V"⟩
abbrev cX3_skillFor : ByteArray := prog_5_method_2_code
def yX3_skillFor : MethodName := ⟨RX3, "skillFor", "(I)I"⟩
def RX4 : String := "CavershamShift$Newsroom"
def TX4 : u_T := fun k => match k with
  | 0 => ("CavershamShift$Newsroom", "talks", "Ljava/util/ArrayList;", true)
  | 1 => ("CavershamShift$Newsroom", "readers", "Ljava/util/ArrayList;", true)
  | 2 => ("CavershamShift$Newsroom", "corrections", "Ljava/util/ArrayList;", true)
  | 3 => ("CavershamShift$Newsroom", "correctionsSent", "I", false)
  | 4 => ("CavershamShift$Newsroom", "reportsSent", "I", false)
  | 5 => ("CavershamShift$Newsroom", "wordsLeft", "I", false)
  | _ => ("CavershamShift$Newsroom", "partnerLands", "I", false)
def tyX4 : Nat → FieldType := fun k => match k with
  | 0 => .object "java/util/ArrayList"
  | 1 => .object "java/util/ArrayList"
  | 2 => .object "java/util/ArrayList"
  | 3 => .int
  | 4 => .int
  | 5 => .int
  | _ => .int
abbrev wsX40 : List Cond := u_ws RX4 TX4 7
theorem nmX4 : ∀ a, a < 7 → ∀ b, b < 7 → a ≠ b → (TX4 a).2.1 ≠ (TX4 b).2.1 := by decide +kernel
theorem tyX4_ok : ∀ k, k < 7 → parseFieldDescriptor (TX4 k).2.2.1 = some (tyX4 k) := by decide +kernel
abbrev cX4_init : ByteArray := prog_6_method_1_code
def yX4_init : MethodName := ⟨RX4, "<init>", "()V"⟩
abbrev cX4_talkAt : ByteArray := prog_6_method_2_code
def yX4_talkAt : MethodName := ⟨RX4, "talkAt", "(I)LCavershamShift$Talk;"⟩
abbrev cX4_readerAt : ByteArray := prog_6_method_3_code
def yX4_readerAt : MethodName := ⟨RX4, "readerAt", "(I)LCavershamShift$Reader;"⟩
abbrev cX4_hasTalk : ByteArray := prog_6_method_4_code
def yX4_hasTalk : MethodName := ⟨RX4, "hasTalk", "(LCavershamShift$Station;I)Z"⟩
abbrev cX4_file : ByteArray := prog_6_method_5_code
def yX4_file : MethodName := ⟨RX4, "file", "(LCavershamShift$Talk;LCavershamShift$Report;)V"⟩
abbrev cX4_dropStale : ByteArray := prog_6_method_6_code
def yX4_dropStale : MethodName := ⟨RX4, "dropStale", "(I)V"⟩
abbrev cX4_isTooOld : ByteArray := prog_6_method_7_code
def yX4_isTooOld : MethodName := ⟨RX4, "isTooOld", "(LCavershamShift$Talk;I)Z"⟩
abbrev cX4_runWire : ByteArray := prog_6_method_8_code
def yX4_runWire : MethodName := ⟨RX4, "runWire", "(I)V"⟩
abbrev cX4_countToSend : ByteArray := prog_6_method_9_code
def yX4_countToSend : MethodName := ⟨RX4, "countToSend", "(I)I"⟩
abbrev cX4_sendReports : ByteArray := prog_6_method_10_code
def yX4_sendReports : MethodName := ⟨RX4, "sendReports", "(IIZ)I"⟩
abbrev cX4_markSent : ByteArray := prog_6_method_11_code
def yX4_markSent : MethodName := ⟨RX4, "markSent", "(LCavershamShift$Talk;LCavershamShift$Report;I)V"⟩
abbrev cX4_correctionsThatFit : ByteArray := prog_6_method_12_code
def yX4_correctionsThatFit : MethodName := ⟨RX4, "correctionsThatFit", "()I"⟩
abbrev cX4_sendCorrections : ByteArray := prog_6_method_13_code
def yX4_sendCorrections : MethodName := ⟨RX4, "sendCorrections", "()V"⟩
abbrev cX4_awaitCorrection : ByteArray := prog_6_method_14_code
def yX4_awaitCorrection : MethodName := ⟨RX4, "awaitCorrection", "(LCavershamShift$Talk;)V"⟩
abbrev cX4_countWaitingFor : ByteArray := prog_6_method_15_code
def yX4_countWaitingFor : MethodName := ⟨RX4, "countWaitingFor", "(LCavershamShift$Reader;)I"⟩
abbrev cX4_countTalksOf : ByteArray := prog_6_method_16_code
def yX4_countTalksOf : MethodName := ⟨RX4, "countTalksOf", "(LCavershamShift$Station;)I"⟩
abbrev cX4_countReportsOf : ByteArray := prog_6_method_17_code
def yX4_countReportsOf : MethodName := ⟨RX4, "countReportsOf", "(LCavershamShift$Station;)I"⟩
abbrev cX4_countReportsBy : ByteArray := prog_6_method_18_code
def yX4_countReportsBy : MethodName := ⟨RX4, "countReportsBy", "(LCavershamShift$Monitor;)I"⟩
abbrev cX4_countReports : ByteArray := prog_6_method_19_code
def yX4_countReports : MethodName := ⟨RX4, "countReports", "()I"⟩
abbrev cX4_countThatStand : ByteArray := prog_6_method_20_code
def yX4_countThatStand : MethodName := ⟨RX4, "countThatStand", "(I)I"⟩
abbrev cX4_countReached : ByteArray := prog_6_method_21_code
def yX4_countReached : MethodName := ⟨RX4, "countReached", "(LCavershamShift$Reader;I)I"⟩
abbrev cX4_countMisled : ByteArray := prog_6_method_22_code
def yX4_countMisled : MethodName := ⟨RX4, "countMisled", "(LCavershamShift$Reader;)I"⟩
abbrev cX4_countUsed : ByteArray := prog_6_method_23_code
def yX4_countUsed : MethodName := ⟨RX4, "countUsed", "(IIII)I"⟩
abbrev cX4_countReportsOn : ByteArray := prog_6_method_24_code
def yX4_countReportsOn : MethodName := ⟨RX4, "countReportsOn", "(III)I"⟩
abbrev cX4_goneFrom : ByteArray := prog_6_method_25_code
def yX4_goneFrom : MethodName := ⟨RX4, "goneFrom", "(II)I"⟩
abbrev cX4_firstSentOn : ByteArray := prog_6_method_26_code
def yX4_firstSentOn : MethodName := ⟨RX4, "firstSentOn", "(I)I"⟩
abbrev cX4_meanQuality : ByteArray := prog_6_method_27_code
def yX4_meanQuality : MethodName := ⟨RX4, "meanQuality", "(I)D"⟩
abbrev cX4_isStateSound : ByteArray := prog_6_method_28_code
def yX4_isStateSound : MethodName := ⟨RX4, "isStateSound", "()Z"⟩
abbrev cX4_areReportsSound : ByteArray := prog_6_method_29_code
def yX4_areReportsSound : MethodName := ⟨RX4, "areReportsSound", "()Z"⟩
def RX5 : String := "CavershamShift$Reader"
def TX5 : u_T := fun k => match k with
  | 0 => ("CavershamShift$Reader", "number", "I", true)
  | 1 => ("CavershamShift$Reader", "lands", "I", false)
  | _ => ("CavershamShift$Reader", "topics", "I", false)
def tyX5 : Nat → FieldType := fun k => match k with
  | 0 => .int
  | 1 => .int
  | _ => .int
abbrev wsX50 : List Cond := u_ws RX5 TX5 3
theorem nmX5 : ∀ a, a < 3 → ∀ b, b < 3 → a ≠ b → (TX5 a).2.1 ≠ (TX5 b).2.1 := by decide +kernel
theorem tyX5_ok : ∀ k, k < 3 → parseFieldDescriptor (TX5 k).2.2.1 = some (tyX5 k) := by decide +kernel
abbrev cX5_init : ByteArray := prog_7_method_1_code
def yX5_init : MethodName := ⟨RX5, "<init>", "(III)V"⟩
def RX6 : String := "CavershamShift$Report"
def TX6 : u_T := fun k => match k with
  | 0 => ("CavershamShift$Report", "sort", "I", true)
  | 1 => ("CavershamShift$Report", "length", "I", true)
  | 2 => ("CavershamShift$Report", "caught", "I", true)
  | 3 => ("CavershamShift$Report", "heard", "I", true)
  | 4 => ("CavershamShift$Report", "guessed", "I", true)
  | 5 => ("CavershamShift$Report", "set", "I", true)
  | 6 => ("CavershamShift$Report", "monitor", "I", true)
  | 7 => ("CavershamShift$Report", "quality", "I", true)
  | 8 => ("CavershamShift$Report", "state", "I", false)
  | 9 => ("CavershamShift$Report", "sentHour", "I", false)
  | 10 => ("CavershamShift$Report", "sentTurn", "I", false)
  | 11 => ("CavershamShift$Report", "correction", "I", false)
  | _ => ("CavershamShift$Report", "readers", "I", false)
def tyX6 : Nat → FieldType := fun k => match k with
  | 0 => .int
  | 1 => .int
  | 2 => .int
  | 3 => .int
  | 4 => .int
  | 5 => .int
  | 6 => .int
  | 7 => .int
  | 8 => .int
  | 9 => .int
  | 10 => .int
  | 11 => .int
  | _ => .int
abbrev wsX60 : List Cond := u_ws RX6 TX6 13
theorem nmX6 : ∀ a, a < 13 → ∀ b, b < 13 → a ≠ b → (TX6 a).2.1 ≠ (TX6 b).2.1 := by decide +kernel
theorem tyX6_ok : ∀ k, k < 13 → parseFieldDescriptor (TX6 k).2.2.1 = some (tyX6 k) := by decide +kernel
abbrev cX6_init : ByteArray := prog_8_method_1_code
def yX6_init : MethodName := ⟨RX6, "<init>", "(LCavershamShift$Talk;III)V"⟩
abbrev cX6_formulas : ByteArray := prog_8_method_2_code
def yX6_formulas : MethodName := ⟨RX6, "formulas", "()I"⟩
abbrev cX6_sortOf : ByteArray := prog_8_method_3_code
def yX6_sortOf : MethodName := ⟨RX6, "sortOf", "(I)I"⟩
abbrev cX6_lengthOf : ByteArray := prog_8_method_4_code
def yX6_lengthOf : MethodName := ⟨RX6, "lengthOf", "(II)I"⟩
def RX7 : String := "CavershamShift$Room"
def TX7 : u_T := fun k => match k with
  | 0 => ("CavershamShift$Room", "dial", "LCavershamShift$Dial;", true)
  | 1 => ("CavershamShift$Room", "monitors", "Ljava/util/ArrayList;", true)
  | 2 => ("CavershamShift$Room", "stationOfSlot", "[I", true)
  | _ => ("CavershamShift$Room", "monitorOfSlot", "[I", true)
def tyX7 : Nat → FieldType := fun k => match k with
  | 0 => .object "CavershamShift$Dial"
  | 1 => .object "java/util/ArrayList"
  | 2 => .array .int
  | _ => .array .int
abbrev wsX70 : List Cond := u_ws RX7 TX7 4
theorem nmX7 : ∀ a, a < 4 → ∀ b, b < 4 → a ≠ b → (TX7 a).2.1 ≠ (TX7 b).2.1 := by decide +kernel
theorem tyX7_ok : ∀ k, k < 4 → parseFieldDescriptor (TX7 k).2.2.1 = some (tyX7 k) := by decide +kernel
abbrev cX7_init : ByteArray := prog_9_method_1_code
def yX7_init : MethodName := ⟨RX7, "<init>", "(LCavershamShift$Dial;)V"⟩
abbrev cX7_monitorAt : ByteArray := prog_9_method_2_code
def yX7_monitorAt : MethodName := ⟨RX7, "monitorAt", "(I)LCavershamShift$Monitor;"⟩
abbrev cX7_stationIn : ByteArray := prog_9_method_3_code
def yX7_stationIn : MethodName := ⟨RX7, "stationIn", "(II)I"⟩
abbrev cX7_monitorIn : ByteArray := prog_9_method_4_code
def yX7_monitorIn : MethodName := ⟨RX7, "monitorIn", "(II)I"⟩
abbrev cX7_write : ByteArray := prog_9_method_5_code
def yX7_write : MethodName := ⟨RX7, "write", "(IIII)V"⟩
abbrev cX7_isSlot : ByteArray := prog_9_method_6_code
def yX7_isSlot : MethodName := ⟨RX7, "isSlot", "(II)Z"⟩
abbrev cX7_sitsElsewhere : ByteArray := prog_9_method_7_code
def yX7_sitsElsewhere : MethodName := ⟨RX7, "sitsElsewhere", "(III)Z"⟩
abbrev cX7_setOf : ByteArray := prog_9_method_8_code
def yX7_setOf : MethodName := ⟨RX7, "setOf", "(II)I"⟩
abbrev cX7_qualityOf : ByteArray := prog_9_method_9_code
def yX7_qualityOf : MethodName := ⟨RX7, "qualityOf", "(LCavershamShift$Monitor;LCavershamShift$Station;I)I"⟩
abbrev cX7_qualityAt : ByteArray := prog_9_method_10_code
def yX7_qualityAt : MethodName := ⟨RX7, "qualityAt", "(II)I"⟩
abbrev cX7_setThatHears : ByteArray := prog_9_method_11_code
def yX7_setThatHears : MethodName := ⟨RX7, "setThatHears", "(LCavershamShift$Station;I)I"⟩
abbrev cX7_tire : ByteArray := prog_9_method_12_code
def yX7_tire : MethodName := ⟨RX7, "tire", "(I)V"⟩
abbrev cX7_isShiftSound : ByteArray := prog_9_method_13_code
def yX7_isShiftSound : MethodName := ⟨RX7, "isShiftSound", "()Z"⟩
def RX8 : String := "CavershamShift$Station"
def TX8 : u_T := fun k => match k with
  | 0 => ("CavershamShift$Station", "number", "I", true)
  | 1 => ("CavershamShift$Station", "band", "I", false)
  | 2 => ("CavershamShift$Station", "power", "I", true)
  | 3 => ("CavershamShift$Station", "far", "I", true)
  | 4 => ("CavershamShift$Station", "land", "I", true)
  | 5 => ("CavershamShift$Station", "tongue", "I", true)
  | _ => ("CavershamShift$Station", "hours", "I", true)
def tyX8 : Nat → FieldType := fun k => match k with
  | 0 => .int
  | 1 => .int
  | 2 => .int
  | 3 => .int
  | 4 => .int
  | 5 => .int
  | _ => .int
abbrev wsX80 : List Cond := u_ws RX8 TX8 7
theorem nmX8 : ∀ a, a < 7 → ∀ b, b < 7 → a ≠ b → (TX8 a).2.1 ≠ (TX8 b).2.1 := by decide +kernel
theorem tyX8_ok : ∀ k, k < 7 → parseFieldDescriptor (TX8 k).2.2.1 = some (tyX8 k) := by decide +kernel
abbrev cX8_init : ByteArray := prog_10_method_1_code
def yX8_init : MethodName := ⟨RX8, "<init>", "(IIIIIII)V"⟩
abbrev cX8_isOnAir : ByteArray := prog_10_method_2_code
def yX8_isOnAir : MethodName := ⟨RX8, "isOnAir", "(I)Z"⟩
def RX9 : String := "CavershamShift$Talk"
def TX9 : u_T := fun k => match k with
  | 0 => ("CavershamShift$Talk", "number", "I", true)
  | 1 => ("CavershamShift$Talk", "station", "LCavershamShift$Station;", true)
  | 2 => ("CavershamShift$Talk", "hour", "I", true)
  | 3 => ("CavershamShift$Talk", "topic", "I", true)
  | 4 => ("CavershamShift$Talk", "words", "I", true)
  | 5 => ("CavershamShift$Talk", "weight", "I", true)
  | 6 => ("CavershamShift$Talk", "formulas", "I", true)
  | 7 => ("CavershamShift$Talk", "print", "I", false)
  | _ => ("CavershamShift$Talk", "report", "LCavershamShift$Report;", false)
def tyX9 : Nat → FieldType := fun k => match k with
  | 0 => .int
  | 1 => .object "CavershamShift$Station"
  | 2 => .int
  | 3 => .int
  | 4 => .int
  | 5 => .int
  | 6 => .int
  | 7 => .int
  | _ => .object "CavershamShift$Report"
abbrev wsX90 : List Cond := u_ws RX9 TX9 9
theorem nmX9 : ∀ a, a < 9 → ∀ b, b < 9 → a ≠ b → (TX9 a).2.1 ≠ (TX9 b).2.1 := by decide +kernel
theorem tyX9_ok : ∀ k, k < 9 → parseFieldDescriptor (TX9 k).2.2.1 = some (tyX9 k) := by decide +kernel
abbrev cX9_init : ByteArray := prog_11_method_1_code
def yX9_init : MethodName := ⟨RX9, "<init>", "(ILCavershamShift$Station;IIIII)V"⟩
abbrev cX9_isOnDays : ByteArray := prog_11_method_2_code
def yX9_isOnDays : MethodName := ⟨RX9, "isOnDays", "(II)Z"⟩
abbrev cX9_hasReportThatStands : ByteArray := prog_11_method_3_code
def yX9_hasReportThatStands : MethodName := ⟨RX9, "hasReportThatStands", "(I)Z"⟩
abbrev cX9_isInError : ByteArray := prog_11_method_4_code
def yX9_isInError : MethodName := ⟨RX9, "isInError", "()Z"⟩
abbrev cX9_isFor : ByteArray := prog_11_method_5_code
def yX9_isFor : MethodName := ⟨RX9, "isFor", "(LCavershamShift$Reader;)Z"⟩
abbrev cX9_reached : ByteArray := prog_11_method_6_code
def yX9_reached : MethodName := ⟨RX9, "reached", "(LCavershamShift$Reader;)I"⟩
def RX10 : String := "CavershamShift"
def TX10 : u_T := fun k => match k with
  | 0 => ("CavershamShift", "dial", "LCavershamShift$Dial;", true)
  | 1 => ("CavershamShift", "room", "LCavershamShift$Room;", true)
  | 2 => ("CavershamShift", "newsroom", "LCavershamShift$Newsroom;", true)
  | 3 => ("CavershamShift", "matching", "LCavershamShift$Matching;", true)
  | 4 => ("CavershamShift", "hour", "I", false)
  | _ => ("CavershamShift", "refused", "I", false)
def tyX10 : Nat → FieldType := fun k => match k with
  | 0 => .object "CavershamShift$Dial"
  | 1 => .object "CavershamShift$Room"
  | 2 => .object "CavershamShift$Newsroom"
  | 3 => .object "CavershamShift$Matching"
  | 4 => .int
  | _ => .int
abbrev wsX100 : List Cond := u_ws RX10 TX10 6
theorem nmX10 : ∀ a, a < 6 → ∀ b, b < 6 → a ≠ b → (TX10 a).2.1 ≠ (TX10 b).2.1 := by decide +kernel
theorem tyX10_ok : ∀ k, k < 6 → parseFieldDescriptor (TX10 k).2.2.1 = some (tyX10 k) := by decide +kernel
abbrev cX10_init : ByteArray := prog_1_method_1_code
def yX10_init : MethodName := ⟨RX10, "<init>", "()V"⟩
abbrev cX10_station : ByteArray := prog_1_method_2_code
def yX10_station : MethodName := ⟨RX10, "station", "(IIIIII)I"⟩
abbrev cX10_drift : ByteArray := prog_1_method_3_code
def yX10_drift : MethodName := ⟨RX10, "drift", "(II)I"⟩
abbrev cX10_jammer : ByteArray := prog_1_method_4_code
def yX10_jammer : MethodName := ⟨RX10, "jammer", "(II)I"⟩
abbrev cX10_jam : ByteArray := prog_1_method_5_code
def yX10_jam : MethodName := ⟨RX10, "jam", "(II)I"⟩
abbrev cX10_monitor : ByteArray := prog_1_method_6_code
def yX10_monitor : MethodName := ⟨RX10, "monitor", "(I)I"⟩
abbrev cX10_shift : ByteArray := prog_1_method_7_code
def yX10_shift : MethodName := ⟨RX10, "shift", "(IIII)I"⟩
abbrev cX10_talk : ByteArray := prog_1_method_8_code
def yX10_talk : MethodName := ⟨RX10, "talk", "(IIIIII)I"⟩
abbrev cX10_print : ByteArray := prog_1_method_9_code
def yX10_print : MethodName := ⟨RX10, "print", "(II)I"⟩
abbrev cX10_reader : ByteArray := prog_1_method_10_code
def yX10_reader : MethodName := ⟨RX10, "reader", "(II)I"⟩
abbrev cX10_ask : ByteArray := prog_1_method_11_code
def yX10_ask : MethodName := ⟨RX10, "ask", "(III)I"⟩
abbrev cX10_partner : ByteArray := prog_1_method_12_code
def yX10_partner : MethodName := ⟨RX10, "partner", "(I)I"⟩
abbrev cX10_pass : ByteArray := prog_1_method_13_code
def yX10_pass : MethodName := ⟨RX10, "pass", "(I)I"⟩
abbrev cX10_call : ByteArray := prog_1_method_14_code
def yX10_call : MethodName := ⟨RX10, "call", "()I"⟩
abbrev cX10_ofStation : ByteArray := prog_1_method_15_code
def yX10_ofStation : MethodName := ⟨RX10, "ofStation", "(II)I"⟩
abbrev cX10_comes : ByteArray := prog_1_method_16_code
def yX10_comes : MethodName := ⟨RX10, "comes", "(II)I"⟩
abbrev cX10_ofMonitor : ByteArray := prog_1_method_17_code
def yX10_ofMonitor : MethodName := ⟨RX10, "ofMonitor", "(II)I"⟩
abbrev cX10_sits : ByteArray := prog_1_method_18_code
def yX10_sits : MethodName := ⟨RX10, "sits", "(IIZ)I"⟩
abbrev cX10_quality : ByteArray := prog_1_method_19_code
def yX10_quality : MethodName := ⟨RX10, "quality", "(III)I"⟩
abbrev cX10_ofTalk : ByteArray := prog_1_method_20_code
def yX10_ofTalk : MethodName := ⟨RX10, "ofTalk", "(II)I"⟩
abbrev cX10_ofReport : ByteArray := prog_1_method_21_code
def yX10_ofReport : MethodName := ⟨RX10, "ofReport", "(II)I"⟩
abbrev cX10_got : ByteArray := prog_1_method_22_code
def yX10_got : MethodName := ⟨RX10, "got", "(II)I"⟩
abbrev cX10_ofReader : ByteArray := prog_1_method_23_code
def yX10_ofReader : MethodName := ⟨RX10, "ofReader", "(II)I"⟩
abbrev cX10_used : ByteArray := prog_1_method_24_code
def yX10_used : MethodName := ⟨RX10, "used", "(IIII)I"⟩
abbrev cX10_gone : ByteArray := prog_1_method_25_code
def yX10_gone : MethodName := ⟨RX10, "gone", "(I)I"⟩
abbrev cX10_first : ByteArray := prog_1_method_26_code
def yX10_first : MethodName := ⟨RX10, "first", "(I)I"⟩
abbrev cX10_clarity : ByteArray := prog_1_method_27_code
def yX10_clarity : MethodName := ⟨RX10, "clarity", "(I)D"⟩
abbrev cX10_desk : ByteArray := prog_1_method_28_code
def yX10_desk : MethodName := ⟨RX10, "desk", "(I)I"⟩
abbrev cX10_tell : ByteArray := prog_1_method_29_code
def yX10_tell : MethodName := ⟨RX10, "tell", "(I)Ljava/lang/String;"⟩
abbrev cX10_best : ByteArray := prog_1_method_30_code
def yX10_best : MethodName := ⟨RX10, "best", "(I)I"⟩
abbrev cX10_bestAt : ByteArray := prog_1_method_31_code
def yX10_bestAt : MethodName := ⟨RX10, "bestAt", "(IIZ)I"⟩
abbrev cX10_wouldHear : ByteArray := prog_1_method_32_code
def yX10_wouldHear : MethodName := ⟨RX10, "wouldHear", "(I)I"⟩
abbrev cX10_wouldSend : ByteArray := prog_1_method_33_code
def yX10_wouldSend : MethodName := ⟨RX10, "wouldSend", "()I"⟩
abbrev cX10_isSound : ByteArray := prog_1_method_34_code
def yX10_isSound : MethodName := ⟨RX10, "isSound", "()Z"⟩
abbrev cX10_digest : ByteArray := prog_1_method_35_code
def yX10_digest : MethodName := ⟨RX10, "digest", "()J"⟩
abbrev cX10_withDial : ByteArray := prog_1_method_36_code
def yX10_withDial : MethodName := ⟨RX10, "withDial", "(J)J"⟩
abbrev cX10_withBestShift : ByteArray := prog_1_method_37_code
def yX10_withBestShift : MethodName := ⟨RX10, "withBestShift", "(J)J"⟩
abbrev cX10_withTalks : ByteArray := prog_1_method_38_code
def yX10_withTalks : MethodName := ⟨RX10, "withTalks", "(J)J"⟩
abbrev cX10_withReaders : ByteArray := prog_1_method_39_code
def yX10_withReaders : MethodName := ⟨RX10, "withReaders", "(J)J"⟩
abbrev cX10_day : ByteArray := prog_1_method_40_code
def yX10_day : MethodName := ⟨RX10, "day", "()I"⟩
abbrev cX10_hourOfDay : ByteArray := prog_1_method_41_code
def yX10_hourOfDay : MethodName := ⟨RX10, "hourOfDay", "()I"⟩
abbrev cX10_endHour : ByteArray := prog_1_method_42_code
def yX10_endHour : MethodName := ⟨RX10, "endHour", "()V"⟩
abbrev cX10_stationFact : ByteArray := prog_1_method_43_code
def yX10_stationFact : MethodName := ⟨RX10, "stationFact", "(LCavershamShift$Station;I)I"⟩
abbrev cX10_monitorFact : ByteArray := prog_1_method_44_code
def yX10_monitorFact : MethodName := ⟨RX10, "monitorFact", "(LCavershamShift$Monitor;I)I"⟩
abbrev cX10_talkFact : ByteArray := prog_1_method_45_code
def yX10_talkFact : MethodName := ⟨RX10, "talkFact", "(LCavershamShift$Talk;I)I"⟩
abbrev cX10_reportFact : ByteArray := prog_1_method_46_code
def yX10_reportFact : MethodName := ⟨RX10, "reportFact", "(LCavershamShift$Talk;I)I"⟩
abbrev cX10_readerFact : ByteArray := prog_1_method_47_code
def yX10_readerFact : MethodName := ⟨RX10, "readerFact", "(LCavershamShift$Reader;I)I"⟩
abbrev cX10_deskFact : ByteArray := prog_1_method_48_code
def yX10_deskFact : MethodName := ⟨RX10, "deskFact", "(I)I"⟩
abbrev cX10_sortWord : ByteArray := prog_1_method_49_code
def yX10_sortWord : MethodName := ⟨RX10, "sortWord", "(I)Ljava/lang/String;"⟩
abbrev cX10_stateWord : ByteArray := prog_1_method_50_code
def yX10_stateWord : MethodName := ⟨RX10, "stateWord", "(I)Ljava/lang/String;"⟩
abbrev cX10_mixed : ByteArray := prog_1_method_51_code
def yX10_mixed : MethodName := ⟨RX10, "mixed", "(JJ)J"⟩
abbrev cX10_isOutside : ByteArray := prog_1_method_52_code
def yX10_isOutside : MethodName := ⟨RX10, "isOutside", "(III)Z"⟩
abbrev cX10_isIn : ByteArray := prog_1_method_53_code
def yX10_isIn : MethodName := ⟨RX10, "isIn", "(II)Z"⟩
abbrev cX10_hold : ByteArray := prog_1_method_54_code
def yX10_hold : MethodName := ⟨RX10, "hold", "(III)I"⟩
def RX11 : String := "CavershamShiftLaw$Out"
def TX11 : u_T := fun k => match k with
  | 0 => ("CavershamShiftLaw$Out", "n", "J", false)
  | 1 => ("CavershamShiftLaw$Out", "d", "D", false)
  | _ => ("CavershamShiftLaw$Out", "s", "Ljava/lang/String;", false)
def tyX11 : Nat → FieldType := fun k => match k with
  | 0 => .long
  | 1 => .double
  | _ => .object "java/lang/String"
abbrev wsX110 : List Cond := u_ws RX11 TX11 3
theorem nmX11 : ∀ a, a < 3 → ∀ b, b < 3 → a ≠ b → (TX11 a).2.1 ≠ (TX11 b).2.1 := by decide +kernel
theorem tyX11_ok : ∀ k, k < 3 → parseFieldDescriptor (TX11 k).2.2.1 = some (tyX11 k) := by decide +kernel
abbrev cX11_init : ByteArray := prog_13_method_1_code
def yX11_init : MethodName := ⟨RX11, "<init>", "()V"⟩
def RX12 : String := "CavershamShiftModel$Monitor"
def TX12 : u_T := fun k => match k with
  | 0 => ("CavershamShiftModel$Monitor", "skills", "[I", true)
  | 1 => ("CavershamShiftModel$Monitor", "weary", "I", false)
  | 2 => ("CavershamShiftModel$Monitor", "sat", "I", false)
  | _ => ("CavershamShiftModel$Monitor", "reports", "I", false)
def tyX12 : Nat → FieldType := fun k => match k with
  | 0 => .array .int
  | 1 => .int
  | 2 => .int
  | _ => .int
abbrev wsX120 : List Cond := u_ws RX12 TX12 4
theorem nmX12 : ∀ a, a < 4 → ∀ b, b < 4 → a ≠ b → (TX12 a).2.1 ≠ (TX12 b).2.1 := by decide +kernel
theorem tyX12_ok : ∀ k, k < 4 → parseFieldDescriptor (TX12 k).2.2.1 = some (tyX12 k) := by decide +kernel
abbrev cX12_init : ByteArray := prog_15_method_1_code
def yX12_init : MethodName := ⟨RX12, "<init>", "()V"⟩
def RX13 : String := "CavershamShiftModel$Reader"
def TX13 : u_T := fun k => match k with
  | 0 => ("CavershamShiftModel$Reader", "lands", "I", false)
  | 1 => ("CavershamShiftModel$Reader", "topics", "I", false)
  | _ => ("CavershamShiftModel$Reader", "got", "[I", true)
def tyX13 : Nat → FieldType := fun k => match k with
  | 0 => .int
  | 1 => .int
  | _ => .array .int
abbrev wsX130 : List Cond := u_ws RX13 TX13 3
theorem nmX13 : ∀ a, a < 3 → ∀ b, b < 3 → a ≠ b → (TX13 a).2.1 ≠ (TX13 b).2.1 := by decide +kernel
theorem tyX13_ok : ∀ k, k < 3 → parseFieldDescriptor (TX13 k).2.2.1 = some (tyX13 k) := by decide +kernel
abbrev cX13_init : ByteArray := prog_16_method_1_code
def yX13_init : MethodName := ⟨RX13, "<init>", "()V"⟩
def RX14 : String := "CavershamShiftModel$Station"
def TX14 : u_T := fun k => match k with
  | 0 => ("CavershamShiftModel$Station", "power", "I", true)
  | 1 => ("CavershamShiftModel$Station", "far", "I", true)
  | 2 => ("CavershamShiftModel$Station", "land", "I", true)
  | 3 => ("CavershamShiftModel$Station", "tongue", "I", true)
  | 4 => ("CavershamShiftModel$Station", "hours", "I", true)
  | _ => ("CavershamShiftModel$Station", "band", "I", false)
def tyX14 : Nat → FieldType := fun k => match k with
  | 0 => .int
  | 1 => .int
  | 2 => .int
  | 3 => .int
  | 4 => .int
  | _ => .int
abbrev wsX140 : List Cond := u_ws RX14 TX14 6
theorem nmX14 : ∀ a, a < 6 → ∀ b, b < 6 → a ≠ b → (TX14 a).2.1 ≠ (TX14 b).2.1 := by decide +kernel
theorem tyX14_ok : ∀ k, k < 6 → parseFieldDescriptor (TX14 k).2.2.1 = some (tyX14 k) := by decide +kernel
abbrev cX14_init : ByteArray := prog_17_method_1_code
def yX14_init : MethodName := ⟨RX14, "<init>", "(IIIIII)V"⟩
def RX15 : String := "CavershamShiftModel$Talk"
def TX15 : u_T := fun k => match k with
  | 0 => ("CavershamShiftModel$Talk", "station", "I", true)
  | 1 => ("CavershamShiftModel$Talk", "hour", "I", true)
  | 2 => ("CavershamShiftModel$Talk", "topic", "I", true)
  | 3 => ("CavershamShiftModel$Talk", "words", "I", true)
  | 4 => ("CavershamShiftModel$Talk", "weight", "I", true)
  | 5 => ("CavershamShiftModel$Talk", "formulas", "I", true)
  | 6 => ("CavershamShiftModel$Talk", "print", "I", false)
  | 7 => ("CavershamShiftModel$Talk", "state", "I", false)
  | 8 => ("CavershamShiftModel$Talk", "quality", "I", false)
  | 9 => ("CavershamShiftModel$Talk", "set", "I", false)
  | 10 => ("CavershamShiftModel$Talk", "monitor", "I", false)
  | 11 => ("CavershamShiftModel$Talk", "sentAt", "I", false)
  | 12 => ("CavershamShiftModel$Talk", "order", "I", false)
  | _ => ("CavershamShiftModel$Talk", "correction", "I", false)
def tyX15 : Nat → FieldType := fun k => match k with
  | 0 => .int
  | 1 => .int
  | 2 => .int
  | 3 => .int
  | 4 => .int
  | 5 => .int
  | 6 => .int
  | 7 => .int
  | 8 => .int
  | 9 => .int
  | 10 => .int
  | 11 => .int
  | 12 => .int
  | _ => .int
abbrev wsX150 : List Cond := u_ws RX15 TX15 14
theorem nmX15 : ∀ a, a < 14 → ∀ b, b < 14 → a ≠ b → (TX15 a).2.1 ≠ (TX15 b).2.1 := by decide +kernel
theorem tyX15_ok : ∀ k, k < 14 → parseFieldDescriptor (TX15 k).2.2.1 = some (tyX15 k) := by decide +kernel
abbrev cX15_init : ByteArray := prog_18_method_1_code
def yX15_init : MethodName := ⟨RX15, "<init>", "(IIIIII)V"⟩
abbrev cX15_sort : ByteArray := prog_18_method_2_code
def yX15_sort : MethodName := ⟨RX15, "sort", "()I"⟩
abbrev cX15_caught : ByteArray := prog_18_method_3_code
def yX15_caught : MethodName := ⟨RX15, "caught", "()I"⟩
abbrev cX15_length : ByteArray := prog_18_method_4_code
def yX15_length : MethodName := ⟨RX15, "length", "()I"⟩
abbrev cX15_heard : ByteArray := prog_18_method_5_code
def yX15_heard : MethodName := ⟨RX15, "heard", "()I"⟩
abbrev cX15_guessed : ByteArray := prog_18_method_6_code
def yX15_guessed : MethodName := ⟨RX15, "guessed", "()I"⟩
abbrev cX15_all : ByteArray := prog_18_method_7_code
def yX15_all : MethodName := ⟨RX15, "all", "()I"⟩
abbrev cX15_isReported : ByteArray := prog_18_method_8_code
def yX15_isReported : MethodName := ⟨RX15, "isReported", "()Z"⟩
abbrev cX15_isWrong : ByteArray := prog_18_method_9_code
def yX15_isWrong : MethodName := ⟨RX15, "isWrong", "()Z"⟩
def RX16 : String := "CavershamShiftModel"
def TX16 : u_T := fun k => match k with
  | 0 => ("CavershamShiftModel", "thrown", "I", false)
  | 1 => ("CavershamShiftModel", "hour", "I", false)
  | 2 => ("CavershamShiftModel", "wire", "I", false)
  | 3 => ("CavershamShiftModel", "partner", "I", false)
  | 4 => ("CavershamShiftModel", "refused", "I", false)
  | 5 => ("CavershamShiftModel", "sendings", "I", false)
  | 6 => ("CavershamShiftModel", "stations", "Ljava/util/List;", true)
  | 7 => ("CavershamShiftModel", "jammers", "Ljava/util/List;", true)
  | 8 => ("CavershamShiftModel", "monitors", "Ljava/util/List;", true)
  | 9 => ("CavershamShiftModel", "talks", "Ljava/util/List;", true)
  | 10 => ("CavershamShiftModel", "readers", "Ljava/util/List;", true)
  | 11 => ("CavershamShiftModel", "queue", "Ljava/util/List;", false)
  | 12 => ("CavershamShiftModel", "heard", "[[I", true)
  | _ => ("CavershamShiftModel", "sits", "[[I", true)
def tyX16 : Nat → FieldType := fun k => match k with
  | 0 => .int
  | 1 => .int
  | 2 => .int
  | 3 => .int
  | 4 => .int
  | 5 => .int
  | 6 => .object "java/util/List"
  | 7 => .object "java/util/List"
  | 8 => .object "java/util/List"
  | 9 => .object "java/util/List"
  | 10 => .object "java/util/List"
  | 11 => .object "java/util/List"
  | 12 => .array (.array .int)
  | _ => .array (.array .int)
abbrev wsX160 : List Cond := u_ws RX16 TX16 14
theorem nmX16 : ∀ a, a < 14 → ∀ b, b < 14 → a ≠ b → (TX16 a).2.1 ≠ (TX16 b).2.1 := by decide +kernel
theorem tyX16_ok : ∀ k, k < 14 → parseFieldDescriptor (TX16 k).2.2.1 = some (tyX16 k) := by decide +kernel
abbrev cX16_init : ByteArray := prog_14_method_1_code
def yX16_init : MethodName := ⟨RX16, "<init>", "()V"⟩
abbrev cX16_thrown : ByteArray := prog_14_method_2_code
def yX16_thrown : MethodName := ⟨RX16, "thrown", "()I"⟩
abbrev cX16_no : ByteArray := prog_14_method_3_code
def yX16_no : MethodName := ⟨RX16, "no", "(I)I"⟩
abbrev cX16_in : ByteArray := prog_14_method_4_code
def yX16_in : MethodName := ⟨RX16, "in", "(III)Z"⟩
abbrev cX16_has : ByteArray := prog_14_method_5_code
def yX16_has : MethodName := ⟨RX16, "has", "(II)Z"⟩
abbrev cX16_hold : ByteArray := prog_14_method_6_code
def yX16_hold : MethodName := ⟨RX16, "hold", "(III)I"⟩
abbrev cX16_isOn : ByteArray := prog_14_method_7_code
def yX16_isOn : MethodName := ⟨RX16, "isOn", "(II)Z"⟩
abbrev cX16_comesNow : ByteArray := prog_14_method_8_code
def yX16_comesNow : MethodName := ⟨RX16, "comesNow", "(II)I"⟩
abbrev cX16_qualityNow : ByteArray := prog_14_method_9_code
def yX16_qualityNow : MethodName := ⟨RX16, "qualityNow", "(III)I"⟩
abbrev cX16_landOf : ByteArray := prog_14_method_10_code
def yX16_landOf : MethodName := ⟨RX16, "landOf", "(LCavershamShiftModel$Talk;)I"⟩
abbrev cX16_recorder : ByteArray := prog_14_method_11_code
def yX16_recorder : MethodName := ⟨RX16, "recorder", "(LCavershamShiftModel$Talk;)I"⟩
abbrev cX16_record : ByteArray := prog_14_method_12_code
def yX16_record : MethodName := ⟨RX16, "record", "(LCavershamShiftModel$Talk;)V"⟩
abbrev cX16_isStale : ByteArray := prog_14_method_13_code
def yX16_isStale : MethodName := ⟨RX16, "isStale", "(LCavershamShiftModel$Talk;)Z"⟩
abbrev cX16_next : ByteArray := prog_14_method_14_code
def yX16_next : MethodName := ⟨RX16, "next", "(I[Z)I"⟩
abbrev cX16_enqueue : ByteArray := prog_14_method_15_code
def yX16_enqueue : MethodName := ⟨RX16, "enqueue", "(I)V"⟩
abbrev cX16_correct : ByteArray := prog_14_method_16_code
def yX16_correct : MethodName := ⟨RX16, "correct", "()V"⟩
abbrev cX16_send : ByteArray := prog_14_method_17_code
def yX16_send : MethodName := ⟨RX16, "send", "(I)V"⟩
abbrev cX16_hour : ByteArray := prog_14_method_18_code
def yX16_hour : MethodName := ⟨RX16, "hour", "()V"⟩
abbrev cX16_setOf : ByteArray := prog_14_method_19_code
def yX16_setOf : MethodName := ⟨RX16, "setOf", "(II)I"⟩
abbrev cX16_isStation : ByteArray := prog_14_method_20_code
def yX16_isStation : MethodName := ⟨RX16, "isStation", "(I)Z"⟩
abbrev cX16_isMonitor : ByteArray := prog_14_method_21_code
def yX16_isMonitor : MethodName := ⟨RX16, "isMonitor", "(I)Z"⟩
abbrev cX16_isTalk : ByteArray := prog_14_method_22_code
def yX16_isTalk : MethodName := ⟨RX16, "isTalk", "(I)Z"⟩
abbrev cX16_isReader : ByteArray := prog_14_method_23_code
def yX16_isReader : MethodName := ⟨RX16, "isReader", "(I)Z"⟩
abbrev cX16_station : ByteArray := prog_14_method_24_code
def yX16_station : MethodName := ⟨RX16, "station", "(IIIIII)I"⟩
abbrev cX16_drift : ByteArray := prog_14_method_25_code
def yX16_drift : MethodName := ⟨RX16, "drift", "(II)I"⟩
abbrev cX16_jammer : ByteArray := prog_14_method_26_code
def yX16_jammer : MethodName := ⟨RX16, "jammer", "(II)I"⟩
abbrev cX16_jam : ByteArray := prog_14_method_27_code
def yX16_jam : MethodName := ⟨RX16, "jam", "(II)I"⟩
abbrev cX16_monitor : ByteArray := prog_14_method_28_code
def yX16_monitor : MethodName := ⟨RX16, "monitor", "(I)I"⟩
abbrev cX16_shift : ByteArray := prog_14_method_29_code
def yX16_shift : MethodName := ⟨RX16, "shift", "(IIII)I"⟩
abbrev cX16_talk : ByteArray := prog_14_method_30_code
def yX16_talk : MethodName := ⟨RX16, "talk", "(IIIIII)I"⟩
abbrev cX16_print : ByteArray := prog_14_method_31_code
def yX16_print : MethodName := ⟨RX16, "print", "(II)I"⟩
abbrev cX16_reader : ByteArray := prog_14_method_32_code
def yX16_reader : MethodName := ⟨RX16, "reader", "(II)I"⟩
abbrev cX16_ask : ByteArray := prog_14_method_33_code
def yX16_ask : MethodName := ⟨RX16, "ask", "(III)I"⟩
abbrev cX16_partner : ByteArray := prog_14_method_34_code
def yX16_partner : MethodName := ⟨RX16, "partner", "(I)I"⟩
abbrev cX16_pass : ByteArray := prog_14_method_35_code
def yX16_pass : MethodName := ⟨RX16, "pass", "(I)I"⟩
abbrev cX16_call : ByteArray := prog_14_method_36_code
def yX16_call : MethodName := ⟨RX16, "call", "()I"⟩
abbrev cX16_stationNow : ByteArray := prog_14_method_37_code
def yX16_stationNow : MethodName := ⟨RX16, "stationNow", "(II)I"⟩
abbrev cX16_ofStation : ByteArray := prog_14_method_38_code
def yX16_ofStation : MethodName := ⟨RX16, "ofStation", "(II)I"⟩
abbrev cX16_comes : ByteArray := prog_14_method_39_code
def yX16_comes : MethodName := ⟨RX16, "comes", "(II)I"⟩
abbrev cX16_monitorNow : ByteArray := prog_14_method_40_code
def yX16_monitorNow : MethodName := ⟨RX16, "monitorNow", "(II)I"⟩
abbrev cX16_ofMonitor : ByteArray := prog_14_method_41_code
def yX16_ofMonitor : MethodName := ⟨RX16, "ofMonitor", "(II)I"⟩
abbrev cX16_sits : ByteArray := prog_14_method_42_code
def yX16_sits : MethodName := ⟨RX16, "sits", "(IIZ)I"⟩
abbrev cX16_quality : ByteArray := prog_14_method_43_code
def yX16_quality : MethodName := ⟨RX16, "quality", "(III)I"⟩
abbrev cX16_talkNow : ByteArray := prog_14_method_44_code
def yX16_talkNow : MethodName := ⟨RX16, "talkNow", "(II)I"⟩
abbrev cX16_ofTalk : ByteArray := prog_14_method_45_code
def yX16_ofTalk : MethodName := ⟨RX16, "ofTalk", "(II)I"⟩
abbrev cX16_reportNow : ByteArray := prog_14_method_46_code
def yX16_reportNow : MethodName := ⟨RX16, "reportNow", "(II)I"⟩
abbrev cX16_ofReport : ByteArray := prog_14_method_47_code
def yX16_ofReport : MethodName := ⟨RX16, "ofReport", "(II)I"⟩
abbrev cX16_got : ByteArray := prog_14_method_48_code
def yX16_got : MethodName := ⟨RX16, "got", "(II)I"⟩
abbrev cX16_readerNow : ByteArray := prog_14_method_49_code
def yX16_readerNow : MethodName := ⟨RX16, "readerNow", "(II)I"⟩
abbrev cX16_ofReader : ByteArray := prog_14_method_50_code
def yX16_ofReader : MethodName := ⟨RX16, "ofReader", "(II)I"⟩
abbrev cX16_usedNow : ByteArray := prog_14_method_51_code
def yX16_usedNow : MethodName := ⟨RX16, "usedNow", "(IIII)I"⟩
abbrev cX16_used : ByteArray := prog_14_method_52_code
def yX16_used : MethodName := ⟨RX16, "used", "(IIII)I"⟩
abbrev cX16_goneNow : ByteArray := prog_14_method_53_code
def yX16_goneNow : MethodName := ⟨RX16, "goneNow", "(I)I"⟩
abbrev cX16_gone : ByteArray := prog_14_method_54_code
def yX16_gone : MethodName := ⟨RX16, "gone", "(I)I"⟩
abbrev cX16_firstNow : ByteArray := prog_14_method_55_code
def yX16_firstNow : MethodName := ⟨RX16, "firstNow", "(I)I"⟩
abbrev cX16_first : ByteArray := prog_14_method_56_code
def yX16_first : MethodName := ⟨RX16, "first", "(I)I"⟩
abbrev cX16_clarityNow : ByteArray := prog_14_method_57_code
def yX16_clarityNow : MethodName := ⟨RX16, "clarityNow", "(I)D"⟩
abbrev cX16_clarity : ByteArray := prog_14_method_58_code
def yX16_clarity : MethodName := ⟨RX16, "clarity", "(I)D"⟩
abbrev cX16_deskNow : ByteArray := prog_14_method_59_code
def yX16_deskNow : MethodName := ⟨RX16, "deskNow", "(I)I"⟩
abbrev cX16_desk : ByteArray := prog_14_method_60_code
def yX16_desk : MethodName := ⟨RX16, "desk", "(I)I"⟩
abbrev cX16_tell : ByteArray := prog_14_method_61_code
def yX16_tell : MethodName := ⟨RX16, "tell", "(I)Ljava/lang/String;"⟩
abbrev cX16_bestNow : ByteArray := prog_14_method_62_code
def yX16_bestNow : MethodName := ⟨RX16, "bestNow", "(I)[I"⟩
abbrev cX16_meet : ByteArray := prog_14_method_63_code
def yX16_meet : MethodName := ⟨RX16, "meet", "(IIII)Z"⟩
abbrev cX16_put : ByteArray := prog_14_method_64_code
def yX16_put : MethodName := ⟨RX16, "put", "([IIIII)V"⟩
abbrev cX16_best : ByteArray := prog_14_method_65_code
def yX16_best : MethodName := ⟨RX16, "best", "(I)I"⟩
abbrev cX16_bestAt : ByteArray := prog_14_method_66_code
def yX16_bestAt : MethodName := ⟨RX16, "bestAt", "(IIZ)I"⟩
abbrev cX16_wouldHear : ByteArray := prog_14_method_67_code
def yX16_wouldHear : MethodName := ⟨RX16, "wouldHear", "(I)I"⟩
abbrev cX16_wouldSendNow : ByteArray := prog_14_method_68_code
def yX16_wouldSendNow : MethodName := ⟨RX16, "wouldSendNow", "()I"⟩
abbrev cX16_wouldSend : ByteArray := prog_14_method_69_code
def yX16_wouldSend : MethodName := ⟨RX16, "wouldSend", "()I"⟩
abbrev cX16_isSoundNow : ByteArray := prog_14_method_70_code
def yX16_isSoundNow : MethodName := ⟨RX16, "isSoundNow", "()Z"⟩
abbrev cX16_isSound : ByteArray := prog_14_method_71_code
def yX16_isSound : MethodName := ⟨RX16, "isSound", "()Z"⟩
abbrev cX16_digest : ByteArray := prog_14_method_72_code
def yX16_digest : MethodName := ⟨RX16, "digest", "()J"⟩
def RJx145de : String := "java/io/Serializable"
def TJx145de : u_T := fun k => match k with
  | _ => ("", "", "", false)
def tyJx145de : Nat → FieldType := fun k => match k with
  | _ => .int
abbrev wsJx145de0 : List Cond := u_ws RJx145de TJx145de 0
theorem nmJx145de : ∀ a, a < 0 → ∀ b, b < 0 → a ≠ b → (TJx145de a).2.1 ≠ (TJx145de b).2.1 := by decide +kernel
theorem tyJx145de_ok : ∀ k, k < 0 → parseFieldDescriptor (TJx145de k).2.2.1 = some (tyJx145de k) := by decide +kernel
def RJ5 : String := "java/lang/AbstractStringBuilder"
def TJ5 : u_T := fun k => match k with
  | _ => ("", "", "", false)
def tyJ5 : Nat → FieldType := fun k => match k with
  | _ => .int
abbrev wsJ50 : List Cond := u_ws RJ5 TJ5 0
theorem nmJ5 : ∀ a, a < 0 → ∀ b, b < 0 → a ≠ b → (TJ5 a).2.1 ≠ (TJ5 b).2.1 := by decide +kernel
theorem tyJ5_ok : ∀ k, k < 0 → parseFieldDescriptor (TJ5 k).2.2.1 = some (tyJ5 k) := by decide +kernel
abbrev cJ5_init_d00df : ByteArray := prog_20_method_2_code
def yJ5_init_d00df : MethodName := ⟨RJ5, "<init>", "(I)V"⟩
abbrev cJ5_length_8abf5 : ByteArray := prog_20_method_6_code
def yJ5_length_8abf5 : MethodName := ⟨RJ5, "length", "()I"⟩
abbrev cJ5_ensureCapacityInternal_d00df : ByteArray := prog_20_method_9_code
def yJ5_ensureCapacityInternal_d00df : MethodName := ⟨RJ5, "ensureCapacityInternal", "(I)V"⟩
abbrev cJ5_newCapacity_0f7a4 : ByteArray := prog_20_method_10_code
def yJ5_newCapacity_0f7a4 : MethodName := ⟨RJ5, "newCapacity", "(I)I"⟩
abbrev cJ5_inflate_da8c8 : ByteArray := prog_20_method_11_code
def yJ5_inflate_da8c8 : MethodName := ⟨RJ5, "inflate", "()V"⟩
abbrev cJ5_append_cf1ce : ByteArray := prog_20_method_22_code
def yJ5_append_cf1ce : MethodName := ⟨RJ5, "append", "(Ljava/lang/String;)Ljava/lang/AbstractStringBuilder;"⟩
abbrev cJ5_appendNull_278bc : ByteArray := prog_20_method_26_code
def yJ5_appendNull_278bc : MethodName := ⟨RJ5, "appendNull", "()Ljava/lang/AbstractStringBuilder;"⟩
abbrev cJ5_append_c97b9 : ByteArray := prog_20_method_32_code
def yJ5_append_c97b9 : MethodName := ⟨RJ5, "append", "(I)Ljava/lang/AbstractStringBuilder;"⟩
abbrev cJ5_getValue_6d5f1 : ByteArray := prog_20_method_64_code
def yJ5_getValue_6d5f1 : MethodName := ⟨RJ5, "getValue", "()[B"⟩
abbrev cJ5_isLatin1_aae02 : ByteArray := prog_20_method_68_code
def yJ5_isLatin1_aae02 : MethodName := ⟨RJ5, "isLatin1", "()Z"⟩
abbrev cJ5_inflateIfNeededFor_a7421 : ByteArray := prog_20_method_71_code
def yJ5_inflateIfNeededFor_a7421 : MethodName := ⟨RJ5, "inflateIfNeededFor", "(Ljava/lang/String;)V"⟩
abbrev cJ5_putStringAt_47b60 : ByteArray := prog_20_method_73_code
def yJ5_putStringAt_47b60 : MethodName := ⟨RJ5, "putStringAt", "(ILjava/lang/String;)V"⟩
def RJx2cfe8 : String := "java/lang/Appendable"
def TJx2cfe8 : u_T := fun k => match k with
  | _ => ("", "", "", false)
def tyJx2cfe8 : Nat → FieldType := fun k => match k with
  | _ => .int
abbrev wsJx2cfe80 : List Cond := u_ws RJx2cfe8 TJx2cfe8 0
theorem nmJx2cfe8 : ∀ a, a < 0 → ∀ b, b < 0 → a ≠ b → (TJx2cfe8 a).2.1 ≠ (TJx2cfe8 b).2.1 := by decide +kernel
theorem tyJx2cfe8_ok : ∀ k, k < 0 → parseFieldDescriptor (TJx2cfe8 k).2.2.1 = some (tyJx2cfe8 k) := by decide +kernel
def RJx9f9b0 : String := "java/lang/CharSequence"
def TJx9f9b0 : u_T := fun k => match k with
  | _ => ("", "", "", false)
def tyJx9f9b0 : Nat → FieldType := fun k => match k with
  | _ => .int
abbrev wsJx9f9b00 : List Cond := u_ws RJx9f9b0 TJx9f9b0 0
theorem nmJx9f9b0 : ∀ a, a < 0 → ∀ b, b < 0 → a ≠ b → (TJx9f9b0 a).2.1 ≠ (TJx9f9b0 b).2.1 := by decide +kernel
theorem tyJx9f9b0_ok : ∀ k, k < 0 → parseFieldDescriptor (TJx9f9b0 k).2.2.1 = some (tyJx9f9b0 k) := by decide +kernel
def RJx8e188 : String := "java/lang/Cloneable"
def TJx8e188 : u_T := fun k => match k with
  | _ => ("", "", "", false)
def tyJx8e188 : Nat → FieldType := fun k => match k with
  | _ => .int
abbrev wsJx8e1880 : List Cond := u_ws RJx8e188 TJx8e188 0
theorem nmJx8e188 : ∀ a, a < 0 → ∀ b, b < 0 → a ≠ b → (TJx8e188 a).2.1 ≠ (TJx8e188 b).2.1 := by decide +kernel
theorem tyJx8e188_ok : ∀ k, k < 0 → parseFieldDescriptor (TJx8e188 k).2.2.1 = some (tyJx8e188 k) := by decide +kernel
def RJxb160c : String := "java/lang/Comparable"
def TJxb160c : u_T := fun k => match k with
  | _ => ("", "", "", false)
def tyJxb160c : Nat → FieldType := fun k => match k with
  | _ => .int
abbrev wsJxb160c0 : List Cond := u_ws RJxb160c TJxb160c 0
theorem nmJxb160c : ∀ a, a < 0 → ∀ b, b < 0 → a ≠ b → (TJxb160c a).2.1 ≠ (TJxb160c b).2.1 := by decide +kernel
theorem tyJxb160c_ok : ∀ k, k < 0 → parseFieldDescriptor (TJxb160c k).2.2.1 = some (tyJxb160c k) := by decide +kernel
def RJxabbfe : String := "java/lang/Integer$IntegerCache"
def TJxabbfe : u_T := fun k => match k with
  | _ => ("", "", "", false)
def tyJxabbfe : Nat → FieldType := fun k => match k with
  | _ => .int
abbrev wsJxabbfe0 : List Cond := u_ws RJxabbfe TJxabbfe 0
theorem nmJxabbfe : ∀ a, a < 0 → ∀ b, b < 0 → a ≠ b → (TJxabbfe a).2.1 ≠ (TJxabbfe b).2.1 := by decide +kernel
theorem tyJxabbfe_ok : ∀ k, k < 0 → parseFieldDescriptor (TJxabbfe k).2.2.1 = some (tyJxabbfe k) := by decide +kernel
def RJ6 : String := "java/lang/Integer"
def TJ6 : u_T := fun k => match k with
  | _ => ("java/lang/Integer", "value", "I", true)
def tyJ6 : Nat → FieldType := fun k => match k with
  | _ => .int
abbrev wsJ60 : List Cond := u_ws RJ6 TJ6 1
theorem nmJ6 : ∀ a, a < 1 → ∀ b, b < 1 → a ≠ b → (TJ6 a).2.1 ≠ (TJ6 b).2.1 := by decide +kernel
theorem tyJ6_ok : ∀ k, k < 1 → parseFieldDescriptor (TJ6 k).2.2.1 = some (tyJ6 k) := by decide +kernel
abbrev cJ6_getChars_ba4f3 : ByteArray := prog_29_method_12_code
def yJ6_getChars_ba4f3 : MethodName := ⟨RJ6, "getChars", "(II[B)I"⟩
abbrev cJ6_stringSize_0f7a4 : ByteArray := prog_29_method_13_code
def yJ6_stringSize_0f7a4 : MethodName := ⟨RJ6, "stringSize", "(I)I"⟩
abbrev cJ6_valueOf_2dffe : ByteArray := prog_29_method_22_code
def yJ6_valueOf_2dffe : MethodName := ⟨RJ6, "valueOf", "(I)Ljava/lang/Integer;"⟩
abbrev cJ6_init_d00df : ByteArray := prog_29_method_23_code
def yJ6_init_d00df : MethodName := ⟨RJ6, "<init>", "(I)V"⟩
abbrev cJ6_intValue_8abf5 : ByteArray := prog_29_method_27_code
def yJ6_intValue_8abf5 : MethodName := ⟨RJ6, "intValue", "()I"⟩
abbrev cJ6_bitCount_0f7a4 : ByteArray := prog_29_method_49_code
def yJ6_bitCount_0f7a4 : MethodName := ⟨RJ6, "bitCount", "(I)I"⟩
def RJxab1ab : String := "java/lang/Iterable"
def TJxab1ab : u_T := fun k => match k with
  | _ => ("", "", "", false)
def tyJxab1ab : Nat → FieldType := fun k => match k with
  | _ => .int
abbrev wsJxab1ab0 : List Cond := u_ws RJxab1ab TJxab1ab 0
theorem nmJxab1ab : ∀ a, a < 0 → ∀ b, b < 0 → a ≠ b → (TJxab1ab a).2.1 ≠ (TJxab1ab b).2.1 := by decide +kernel
theorem tyJxab1ab_ok : ∀ k, k < 0 → parseFieldDescriptor (TJxab1ab k).2.2.1 = some (tyJxab1ab k) := by decide +kernel
def RJ9 : String := "java/lang/Math"
def TJ9 : u_T := fun k => match k with
  | _ => ("", "", "", false)
def tyJ9 : Nat → FieldType := fun k => match k with
  | _ => .int
abbrev wsJ90 : List Cond := u_ws RJ9 TJ9 0
theorem nmJ9 : ∀ a, a < 0 → ∀ b, b < 0 → a ≠ b → (TJ9 a).2.1 ≠ (TJ9 b).2.1 := by decide +kernel
theorem tyJ9_ok : ∀ k, k < 0 → parseFieldDescriptor (TJ9 k).2.2.1 = some (tyJ9 k) := by decide +kernel
abbrev cJ9_abs_0f7a4 : ByteArray := prog_32_method_59_code
def yJ9_abs_0f7a4 : MethodName := ⟨RJ9, "abs", "(I)I"⟩
abbrev cJ9_max_7cf53 : ByteArray := prog_32_method_65_code
def yJ9_max_7cf53 : MethodName := ⟨RJ9, "max", "(II)I"⟩
abbrev cJ9_min_7cf53 : ByteArray := prog_32_method_69_code
def yJ9_min_7cf53 : MethodName := ⟨RJ9, "min", "(II)I"⟩
def RJxd2413 : String := "java/lang/Number"
def TJxd2413 : u_T := fun k => match k with
  | _ => ("", "", "", false)
def tyJxd2413 : Nat → FieldType := fun k => match k with
  | _ => .int
abbrev wsJxd24130 : List Cond := u_ws RJxd2413 TJxd2413 0
theorem nmJxd2413 : ∀ a, a < 0 → ∀ b, b < 0 → a ≠ b → (TJxd2413 a).2.1 ≠ (TJxd2413 b).2.1 := by decide +kernel
theorem tyJxd2413_ok : ∀ k, k < 0 → parseFieldDescriptor (TJxd2413 k).2.2.1 = some (tyJxd2413 k) := by decide +kernel
abbrev cJxd2413_init_da8c8 : ByteArray := prog_33_method_1_code
def yJxd2413_init_da8c8 : MethodName := ⟨RJxd2413, "<init>", "()V"⟩
def RJ0 : String := "java/lang/String"
def TJ0 : u_T := fun k => match k with
  | 0 => ("java/lang/String", "value", "[B", true)
  | 1 => ("java/lang/String", "coder", "B", true)
  | 2 => ("java/lang/String", "hash", "I", false)
  | _ => ("java/lang/String", "hashIsZero", "Z", false)
def tyJ0 : Nat → FieldType := fun k => match k with
  | 0 => .array .byte
  | 1 => .byte
  | 2 => .int
  | _ => .boolean
abbrev wsJ00 : List Cond := u_ws RJ0 TJ0 4
theorem nmJ0 : ∀ a, a < 4 → ∀ b, b < 4 → a ≠ b → (TJ0 a).2.1 ≠ (TJ0 b).2.1 := by decide +kernel
theorem tyJ0_ok : ∀ k, k < 4 → parseFieldDescriptor (TJ0 k).2.2.1 = some (tyJ0 k) := by decide +kernel
abbrev cJ0_init_81219 : ByteArray := prog_35_method_53_code
def yJ0_init_81219 : MethodName := ⟨RJ0, "<init>", "(Ljava/lang/StringBuilder;)V"⟩
abbrev cJ0_length_8abf5 : ByteArray := prog_35_method_54_code
def yJ0_length_8abf5 : MethodName := ⟨RJ0, "length", "()I"⟩
abbrev cJ0_getBytes_840e7 : ByteArray := prog_35_method_147_code
def yJ0_getBytes_840e7 : MethodName := ⟨RJ0, "getBytes", "([BIB)V"⟩
abbrev cJ0_init_db425 : ByteArray := prog_35_method_150_code
def yJ0_init_db425 : MethodName := ⟨RJ0, "<init>", "(Ljava/lang/AbstractStringBuilder;Ljava/lang/Void;)V"⟩
abbrev cJ0_coder_7d493 : ByteArray := prog_35_method_152_code
def yJ0_coder_7d493 : MethodName := ⟨RJ0, "coder", "()B"⟩
abbrev cJ0_checkBoundsOffCount_cabcc : ByteArray := prog_35_method_157_code
def yJ0_checkBoundsOffCount_cabcc : MethodName := ⟨RJ0, "checkBoundsOffCount", "(III)I"⟩
abbrev cJ0_checkBoundsBeginEnd_23922 : ByteArray := prog_35_method_158_code
def yJ0_checkBoundsBeginEnd_23922 : MethodName := ⟨RJ0, "checkBoundsBeginEnd", "(III)V"⟩
def RJ4 : String := "java/lang/StringBuilder"
def TJ4 : u_T := fun k => match k with
  | 0 => ("java/lang/AbstractStringBuilder", "value", "[B", false)
  | 1 => ("java/lang/AbstractStringBuilder", "coder", "B", false)
  | 2 => ("java/lang/AbstractStringBuilder", "maybeLatin1", "Z", false)
  | _ => ("java/lang/AbstractStringBuilder", "count", "I", false)
def tyJ4 : Nat → FieldType := fun k => match k with
  | 0 => .array .byte
  | 1 => .byte
  | 2 => .boolean
  | _ => .int
abbrev wsJ40 : List Cond := u_ws RJ4 TJ4 4
theorem nmJ4 : ∀ a, a < 4 → ∀ b, b < 4 → a ≠ b → (TJ4 a).2.1 ≠ (TJ4 b).2.1 := by decide +kernel
theorem tyJ4_ok : ∀ k, k < 4 → parseFieldDescriptor (TJ4 k).2.2.1 = some (tyJ4 k) := by decide +kernel
abbrev cJ4_init_da8c8 : ByteArray := prog_36_method_1_code
def yJ4_init_da8c8 : MethodName := ⟨RJ4, "<init>", "()V"⟩
abbrev cJ4_append_15ec4 : ByteArray := prog_36_method_7_code
def yJ4_append_15ec4 : MethodName := ⟨RJ4, "append", "(Ljava/lang/String;)Ljava/lang/StringBuilder;"⟩
abbrev cJ4_append_bf812 : ByteArray := prog_36_method_15_code
def yJ4_append_bf812 : MethodName := ⟨RJ4, "append", "(I)Ljava/lang/StringBuilder;"⟩
abbrev cJ4_toString_0e30d : ByteArray := prog_36_method_42_code
def yJ4_toString_0e30d : MethodName := ⟨RJ4, "toString", "()Ljava/lang/String;"⟩
abbrev cJ4_length_8abf5 : ByteArray := prog_36_method_93_code
def yJ4_length_8abf5 : MethodName := ⟨RJ4, "length", "()I"⟩
def RJ1 : String := "java/lang/StringLatin1"
def TJ1 : u_T := fun k => match k with
  | _ => ("", "", "", false)
def tyJ1 : Nat → FieldType := fun k => match k with
  | _ => .int
abbrev wsJ10 : List Cond := u_ws RJ1 TJ1 0
theorem nmJ1 : ∀ a, a < 0 → ∀ b, b < 0 → a ≠ b → (TJ1 a).2.1 ≠ (TJ1 b).2.1 := by decide +kernel
theorem tyJ1_ok : ∀ k, k < 0 → parseFieldDescriptor (TJ1 k).2.2.1 = some (tyJ1 k) := by decide +kernel
abbrev cJ1_inflate_0e8fd : ByteArray := prog_37_method_50_code
def yJ1_inflate_0e8fd : MethodName := ⟨RJ1, "inflate", "([BI[BII)V"⟩
def RJ2 : String := "java/lang/StringUTF16"
def TJ2 : u_T := fun k => match k with
  | _ => ("", "", "", false)
def tyJ2 : Nat → FieldType := fun k => match k with
  | _ => .int
abbrev wsJ20 : List Cond := u_ws RJ2 TJ2 0
theorem nmJ2 : ∀ a, a < 0 → ∀ b, b < 0 → a ≠ b → (TJ2 a).2.1 ≠ (TJ2 b).2.1 := by decide +kernel
theorem tyJ2_ok : ∀ k, k < 0 → parseFieldDescriptor (TJ2 k).2.2.1 = some (tyJ2 k) := by decide +kernel
abbrev cJ2_newBytesFor_77867 : ByteArray := prog_38_method_2_code
def yJ2_newBytesFor_77867 : MethodName := ⟨RJ2, "newBytesFor", "(I)[B"⟩
abbrev cJ2_newBytesLength_0f7a4 : ByteArray := prog_38_method_3_code
def yJ2_newBytesLength_0f7a4 : MethodName := ⟨RJ2, "newBytesLength", "(I)I"⟩
abbrev cJ2_putChar_b72d1 : ByteArray := prog_38_method_4_code
def yJ2_putChar_b72d1 : MethodName := ⟨RJ2, "putChar", "([BII)V"⟩
abbrev cJ2_getChar_3b067 : ByteArray := prog_38_method_5_code
def yJ2_getChar_3b067 : MethodName := ⟨RJ2, "getChar", "([BI)C"⟩
abbrev cJ2_length_9d52b : ByteArray := prog_38_method_6_code
def yJ2_length_9d52b : MethodName := ⟨RJ2, "length", "([B)I"⟩
abbrev cJ2_coderFromArrayLen_85cad : ByteArray := prog_38_method_15_code
def yJ2_coderFromArrayLen_85cad : MethodName := ⟨RJ2, "coderFromArrayLen", "([BI)B"⟩
abbrev cJ2_compress_39247 : ByteArray := prog_38_method_17_code
def yJ2_compress_39247 : MethodName := ⟨RJ2, "compress", "([BII)[B"⟩
abbrev cJ2_compress_5af95 : ByteArray := prog_38_method_22_code
def yJ2_compress_5af95 : MethodName := ⟨RJ2, "compress", "([BI[BII)I"⟩
abbrev cJ2_getChars_46870 : ByteArray := prog_38_method_77_code
def yJ2_getChars_46870 : MethodName := ⟨RJ2, "getChars", "(III[B)I"⟩
abbrev cJ2_putCharsAt_cd4e5 : ByteArray := prog_38_method_81_code
def yJ2_putCharsAt_cd4e5 : MethodName := ⟨RJ2, "putCharsAt", "([BICCCC)I"⟩
abbrev cJ2_inflate_0e8fd : ByteArray := prog_38_method_86_code
def yJ2_inflate_0e8fd : MethodName := ⟨RJ2, "inflate", "([BI[BII)V"⟩
abbrev cJ2_getChars_ba4f3 : ByteArray := prog_38_method_89_code
def yJ2_getChars_ba4f3 : MethodName := ⟨RJ2, "getChars", "(II[B)I"⟩
abbrev cJ2_checkBoundsBeginEnd_d044e : ByteArray := prog_38_method_93_code
def yJ2_checkBoundsBeginEnd_d044e : MethodName := ⟨RJ2, "checkBoundsBeginEnd", "(II[B)V"⟩
abbrev cJ2_checkBoundsOffCount_d044e : ByteArray := prog_38_method_94_code
def yJ2_checkBoundsOffCount_d044e : MethodName := ⟨RJ2, "checkBoundsOffCount", "(II[B)V"⟩
def RJ10 : String := "java/lang/System"
def TJ10 : u_T := fun k => match k with
  | _ => ("", "", "", false)
def tyJ10 : Nat → FieldType := fun k => match k with
  | _ => .int
abbrev wsJ100 : List Cond := u_ws RJ10 TJ10 0
theorem nmJ10 : ∀ a, a < 0 → ∀ b, b < 0 → a ≠ b → (TJ10 a).2.1 ≠ (TJ10 b).2.1 := by decide +kernel
theorem tyJ10_ok : ∀ k, k < 0 → parseFieldDescriptor (TJ10 k).2.2.1 = some (tyJ10 k) := by decide +kernel
def RJxfd54e : String := "java/lang/constant/Constable"
def TJxfd54e : u_T := fun k => match k with
  | _ => ("", "", "", false)
def tyJxfd54e : Nat → FieldType := fun k => match k with
  | _ => .int
abbrev wsJxfd54e0 : List Cond := u_ws RJxfd54e TJxfd54e 0
theorem nmJxfd54e : ∀ a, a < 0 → ∀ b, b < 0 → a ≠ b → (TJxfd54e a).2.1 ≠ (TJxfd54e b).2.1 := by decide +kernel
theorem tyJxfd54e_ok : ∀ k, k < 0 → parseFieldDescriptor (TJxfd54e k).2.2.1 = some (tyJxfd54e k) := by decide +kernel
def RJx3cf43 : String := "java/lang/constant/ConstantDesc"
def TJx3cf43 : u_T := fun k => match k with
  | _ => ("", "", "", false)
def tyJx3cf43 : Nat → FieldType := fun k => match k with
  | _ => .int
abbrev wsJx3cf430 : List Cond := u_ws RJx3cf43 TJx3cf43 0
theorem nmJx3cf43 : ∀ a, a < 0 → ∀ b, b < 0 → a ≠ b → (TJx3cf43 a).2.1 ≠ (TJx3cf43 b).2.1 := by decide +kernel
theorem tyJx3cf43_ok : ∀ k, k < 0 → parseFieldDescriptor (TJx3cf43 k).2.2.1 = some (tyJx3cf43 k) := by decide +kernel
def RJxa1e45 : String := "java/util/AbstractCollection"
def TJxa1e45 : u_T := fun k => match k with
  | _ => ("", "", "", false)
def tyJxa1e45 : Nat → FieldType := fun k => match k with
  | _ => .int
abbrev wsJxa1e450 : List Cond := u_ws RJxa1e45 TJxa1e45 0
theorem nmJxa1e45 : ∀ a, a < 0 → ∀ b, b < 0 → a ≠ b → (TJxa1e45 a).2.1 ≠ (TJxa1e45 b).2.1 := by decide +kernel
theorem tyJxa1e45_ok : ∀ k, k < 0 → parseFieldDescriptor (TJxa1e45 k).2.2.1 = some (tyJxa1e45 k) := by decide +kernel
abbrev cJxa1e45_init_da8c8 : ByteArray := prog_43_method_1_code
def yJxa1e45_init_da8c8 : MethodName := ⟨RJxa1e45, "<init>", "()V"⟩
def RJxc12de : String := "java/util/AbstractList"
def TJxc12de : u_T := fun k => match k with
  | _ => ("", "", "", false)
def tyJxc12de : Nat → FieldType := fun k => match k with
  | _ => .int
abbrev wsJxc12de0 : List Cond := u_ws RJxc12de TJxc12de 0
theorem nmJxc12de : ∀ a, a < 0 → ∀ b, b < 0 → a ≠ b → (TJxc12de a).2.1 ≠ (TJxc12de b).2.1 := by decide +kernel
theorem tyJxc12de_ok : ∀ k, k < 0 → parseFieldDescriptor (TJxc12de k).2.2.1 = some (tyJxc12de k) := by decide +kernel
abbrev cJxc12de_init_da8c8 : ByteArray := prog_44_method_1_code
def yJxc12de_init_da8c8 : MethodName := ⟨RJxc12de, "<init>", "()V"⟩
def RJx4a65c : String := "java/util/ArrayList"
def TJx4a65c : u_T := fun k => match k with
  | 0 => ("java/util/AbstractList", "modCount", "I", false)
  | 1 => ("java/util/ArrayList", "elementData", "[Ljava/lang/Object;", false)
  | _ => ("java/util/ArrayList", "size", "I", false)
def tyJx4a65c : Nat → FieldType := fun k => match k with
  | 0 => .int
  | 1 => .array (.object "java/lang/Object")
  | _ => .int
abbrev wsJx4a65c0 : List Cond := u_ws RJx4a65c TJx4a65c 3
theorem nmJx4a65c : ∀ a, a < 3 → ∀ b, b < 3 → a ≠ b → (TJx4a65c a).2.1 ≠ (TJx4a65c b).2.1 := by decide +kernel
theorem tyJx4a65c_ok : ∀ k, k < 3 → parseFieldDescriptor (TJx4a65c k).2.2.1 = some (tyJx4a65c k) := by decide +kernel
abbrev cJx4a65c_init_da8c8 : ByteArray := prog_45_method_2_code
def yJx4a65c_init_da8c8 : MethodName := ⟨RJx4a65c, "<init>", "()V"⟩
abbrev cJx4a65c_grow_92f84 : ByteArray := prog_45_method_6_code
def yJx4a65c_grow_92f84 : MethodName := ⟨RJx4a65c, "grow", "(I)[Ljava/lang/Object;"⟩
abbrev cJx4a65c_grow_d5877 : ByteArray := prog_45_method_7_code
def yJx4a65c_grow_d5877 : MethodName := ⟨RJx4a65c, "grow", "()[Ljava/lang/Object;"⟩
abbrev cJx4a65c_size_8abf5 : ByteArray := prog_45_method_8_code
def yJx4a65c_size_8abf5 : MethodName := ⟨RJx4a65c, "size", "()I"⟩
abbrev cJx4a65c_elementData_915e3 : ByteArray := prog_45_method_18_code
def yJx4a65c_elementData_915e3 : MethodName := ⟨RJx4a65c, "elementData", "(I)Ljava/lang/Object;"⟩
abbrev cJx4a65c_get_915e3 : ByteArray := prog_45_method_20_code
def yJx4a65c_get_915e3 : MethodName := ⟨RJx4a65c, "get", "(I)Ljava/lang/Object;"⟩
abbrev cJx4a65c_add_72be8 : ByteArray := prog_45_method_24_code
def yJx4a65c_add_72be8 : MethodName := ⟨RJx4a65c, "add", "(Ljava/lang/Object;[Ljava/lang/Object;I)V"⟩
abbrev cJx4a65c_add_9ea2d : ByteArray := prog_45_method_25_code
def yJx4a65c_add_9ea2d : MethodName := ⟨RJx4a65c, "add", "(Ljava/lang/Object;)Z"⟩
def RJ7 : String := "java/util/Arrays"
def TJ7 : u_T := fun k => match k with
  | _ => ("", "", "", false)
def tyJ7 : Nat → FieldType := fun k => match k with
  | _ => .int
abbrev wsJ70 : List Cond := u_ws RJ7 TJ7 0
theorem nmJ7 : ∀ a, a < 0 → ∀ b, b < 0 → a ≠ b → (TJ7 a).2.1 ≠ (TJ7 b).2.1 := by decide +kernel
theorem tyJ7_ok : ∀ k, k < 0 → parseFieldDescriptor (TJ7 k).2.2.1 = some (tyJ7 k) := by decide +kernel
abbrev cJ7_fill_53178 : ByteArray := prog_46_method_103_code
def yJ7_fill_53178 : MethodName := ⟨RJ7, "fill", "([II)V"⟩
abbrev cJ7_copyOf_1904c : ByteArray := prog_46_method_119_code
def yJ7_copyOf_1904c : MethodName := ⟨RJ7, "copyOf", "([Ljava/lang/Object;I)[Ljava/lang/Object;"⟩
abbrev cJ7_copyOf_6403c : ByteArray := prog_46_method_120_code
def yJ7_copyOf_6403c : MethodName := ⟨RJ7, "copyOf", "([Ljava/lang/Object;ILjava/lang/Class;)[Ljava/lang/Object;"⟩
abbrev cJ7_copyOf_9075b : ByteArray := prog_46_method_121_code
def yJ7_copyOf_9075b : MethodName := ⟨RJ7, "copyOf", "([BI)[B"⟩
abbrev cJ7_checkLength_df160 : ByteArray := prog_46_method_131_code
def yJ7_checkLength_df160 : MethodName := ⟨RJ7, "checkLength", "(II)V"⟩
abbrev cJ7_copyOfRange_39247 : ByteArray := prog_46_method_132_code
def yJ7_copyOfRange_39247 : MethodName := ⟨RJ7, "copyOfRange", "([BII)[B"⟩
abbrev cJ7_copyOfRangeByte_39247 : ByteArray := prog_46_method_133_code
def yJ7_copyOfRangeByte_39247 : MethodName := ⟨RJ7, "copyOfRangeByte", "([BII)[B"⟩
def RJx5ef63 : String := "java/util/Collection"
def TJx5ef63 : u_T := fun k => match k with
  | _ => ("", "", "", false)
def tyJx5ef63 : Nat → FieldType := fun k => match k with
  | _ => .int
abbrev wsJx5ef630 : List Cond := u_ws RJx5ef63 TJx5ef63 0
theorem nmJx5ef63 : ∀ a, a < 0 → ∀ b, b < 0 → a ≠ b → (TJx5ef63 a).2.1 ≠ (TJx5ef63 b).2.1 := by decide +kernel
theorem tyJx5ef63_ok : ∀ k, k < 0 → parseFieldDescriptor (TJx5ef63 k).2.2.1 = some (tyJx5ef63 k) := by decide +kernel
def RJxbd725 : String := "java/util/List"
def TJxbd725 : u_T := fun k => match k with
  | _ => ("", "", "", false)
def tyJxbd725 : Nat → FieldType := fun k => match k with
  | _ => .int
abbrev wsJxbd7250 : List Cond := u_ws RJxbd725 TJxbd725 0
theorem nmJxbd725 : ∀ a, a < 0 → ∀ b, b < 0 → a ≠ b → (TJxbd725 a).2.1 ≠ (TJxbd725 b).2.1 := by decide +kernel
theorem tyJxbd725_ok : ∀ k, k < 0 → parseFieldDescriptor (TJxbd725 k).2.2.1 = some (tyJxbd725 k) := by decide +kernel
def RJ15 : String := "java/util/Objects"
def TJ15 : u_T := fun k => match k with
  | _ => ("", "", "", false)
def tyJ15 : Nat → FieldType := fun k => match k with
  | _ => .int
abbrev wsJ150 : List Cond := u_ws RJ15 TJ15 0
theorem nmJ15 : ∀ a, a < 0 → ∀ b, b < 0 → a ≠ b → (TJ15 a).2.1 ≠ (TJ15 b).2.1 := by decide +kernel
theorem tyJ15_ok : ∀ k, k < 0 → parseFieldDescriptor (TJ15 k).2.2.1 = some (tyJ15 k) := by decide +kernel
abbrev cJ15_checkIndex_7cf53 : ByteArray := prog_49_method_17_code
def yJ15_checkIndex_7cf53 : MethodName := ⟨RJ15, "checkIndex", "(II)I"⟩
def RJxf0a74 : String := "java/util/RandomAccess"
def TJxf0a74 : u_T := fun k => match k with
  | _ => ("", "", "", false)
def tyJxf0a74 : Nat → FieldType := fun k => match k with
  | _ => .int
abbrev wsJxf0a740 : List Cond := u_ws RJxf0a74 TJxf0a74 0
theorem nmJxf0a74 : ∀ a, a < 0 → ∀ b, b < 0 → a ≠ b → (TJxf0a74 a).2.1 ≠ (TJxf0a74 b).2.1 := by decide +kernel
theorem tyJxf0a74_ok : ∀ k, k < 0 → parseFieldDescriptor (TJxf0a74 k).2.2.1 = some (tyJxf0a74 k) := by decide +kernel
def RJxa66e6 : String := "java/util/SequencedCollection"
def TJxa66e6 : u_T := fun k => match k with
  | _ => ("", "", "", false)
def tyJxa66e6 : Nat → FieldType := fun k => match k with
  | _ => .int
abbrev wsJxa66e60 : List Cond := u_ws RJxa66e6 TJxa66e6 0
theorem nmJxa66e6 : ∀ a, a < 0 → ∀ b, b < 0 → a ≠ b → (TJxa66e6 a).2.1 ≠ (TJxa66e6 b).2.1 := by decide +kernel
theorem tyJxa66e6_ok : ∀ k, k < 0 → parseFieldDescriptor (TJxa66e6 k).2.2.1 = some (tyJxa66e6 k) := by decide +kernel
def RJ8 : String := "jdk/internal/util/ArraysSupport"
def TJ8 : u_T := fun k => match k with
  | _ => ("", "", "", false)
def tyJ8 : Nat → FieldType := fun k => match k with
  | _ => .int
abbrev wsJ80 : List Cond := u_ws RJ8 TJ8 0
theorem nmJ8 : ∀ a, a < 0 → ∀ b, b < 0 → a ≠ b → (TJ8 a).2.1 ≠ (TJ8 b).2.1 := by decide +kernel
theorem tyJ8_ok : ∀ k, k < 0 → parseFieldDescriptor (TJ8 k).2.2.1 = some (tyJ8 k) := by decide +kernel
abbrev cJ8_newLength_cabcc : ByteArray := prog_52_method_27_code
def yJ8_newLength_cabcc : MethodName := ⟨RJ8, "newLength", "(III)I"⟩
abbrev cJ8_hugeLength_7cf53 : ByteArray := prog_52_method_28_code
def yJ8_hugeLength_7cf53 : MethodName := ⟨RJ8, "hugeLength", "(II)I"⟩
def RJ3 : String := "jdk/internal/util/Preconditions"
def TJ3 : u_T := fun k => match k with
  | _ => ("", "", "", false)
def tyJ3 : Nat → FieldType := fun k => match k with
  | _ => .int
abbrev wsJ30 : List Cond := u_ws RJ3 TJ3 0
theorem nmJ3 : ∀ a, a < 0 → ∀ b, b < 0 → a ≠ b → (TJ3 a).2.1 ≠ (TJ3 b).2.1 := by decide +kernel
theorem tyJ3_ok : ∀ k, k < 0 → parseFieldDescriptor (TJ3 k).2.2.1 = some (tyJ3 k) := by decide +kernel
abbrev cJ3_checkIndex_8e157 : ByteArray := prog_53_method_11_code
def yJ3_checkIndex_8e157 : MethodName := ⟨RJ3, "checkIndex", "(IILjava/util/function/BiFunction;)I"⟩
abbrev cJ3_checkFromToIndex_8c36e : ByteArray := prog_53_method_12_code
def yJ3_checkFromToIndex_8c36e : MethodName := ⟨RJ3, "checkFromToIndex", "(IIILjava/util/function/BiFunction;)I"⟩
abbrev cJ3_checkFromIndexSize_8c36e : ByteArray := prog_53_method_13_code
def yJ3_checkFromIndexSize_8c36e : MethodName := ⟨RJ3, "checkFromIndexSize", "(IIILjava/util/function/BiFunction;)I"⟩
def RL : String := "CavershamShiftLaw"
abbrev cL_station : ByteArray := method_2_code
def yL_station : MethodName := ⟨RL, "station", "(LCavershamShift;IIIIIILCavershamShiftLaw$Out;)I"⟩
abbrev cL_drift : ByteArray := method_3_code
def yL_drift : MethodName := ⟨RL, "drift", "(LCavershamShift;IILCavershamShiftLaw$Out;)I"⟩
abbrev cL_jammer : ByteArray := method_4_code
def yL_jammer : MethodName := ⟨RL, "jammer", "(LCavershamShift;IILCavershamShiftLaw$Out;)I"⟩
abbrev cL_jam : ByteArray := method_5_code
def yL_jam : MethodName := ⟨RL, "jam", "(LCavershamShift;IILCavershamShiftLaw$Out;)I"⟩
abbrev cL_monitor : ByteArray := method_6_code
def yL_monitor : MethodName := ⟨RL, "monitor", "(LCavershamShift;ILCavershamShiftLaw$Out;)I"⟩
abbrev cL_shift : ByteArray := method_7_code
def yL_shift : MethodName := ⟨RL, "shift", "(LCavershamShift;IIIILCavershamShiftLaw$Out;)I"⟩
abbrev cL_talk : ByteArray := method_8_code
def yL_talk : MethodName := ⟨RL, "talk", "(LCavershamShift;IIIIIILCavershamShiftLaw$Out;)I"⟩
abbrev cL_print : ByteArray := method_9_code
def yL_print : MethodName := ⟨RL, "print", "(LCavershamShift;IILCavershamShiftLaw$Out;)I"⟩
abbrev cL_reader : ByteArray := method_10_code
def yL_reader : MethodName := ⟨RL, "reader", "(LCavershamShift;IILCavershamShiftLaw$Out;)I"⟩
abbrev cL_ask : ByteArray := method_11_code
def yL_ask : MethodName := ⟨RL, "ask", "(LCavershamShift;IIILCavershamShiftLaw$Out;)I"⟩
abbrev cL_partner : ByteArray := method_12_code
def yL_partner : MethodName := ⟨RL, "partner", "(LCavershamShift;ILCavershamShiftLaw$Out;)I"⟩
abbrev cL_pass : ByteArray := method_13_code
def yL_pass : MethodName := ⟨RL, "pass", "(LCavershamShift;ILCavershamShiftLaw$Out;)I"⟩
abbrev cL_ofStation : ByteArray := method_14_code
def yL_ofStation : MethodName := ⟨RL, "ofStation", "(LCavershamShift;IILCavershamShiftLaw$Out;)I"⟩
abbrev cL_comes : ByteArray := method_15_code
def yL_comes : MethodName := ⟨RL, "comes", "(LCavershamShift;IILCavershamShiftLaw$Out;)I"⟩
abbrev cL_ofMonitor : ByteArray := method_16_code
def yL_ofMonitor : MethodName := ⟨RL, "ofMonitor", "(LCavershamShift;IILCavershamShiftLaw$Out;)I"⟩
abbrev cL_sits : ByteArray := method_17_code
def yL_sits : MethodName := ⟨RL, "sits", "(LCavershamShift;IIZLCavershamShiftLaw$Out;)I"⟩
abbrev cL_quality : ByteArray := method_18_code
def yL_quality : MethodName := ⟨RL, "quality", "(LCavershamShift;IIILCavershamShiftLaw$Out;)I"⟩
abbrev cL_ofTalk : ByteArray := method_19_code
def yL_ofTalk : MethodName := ⟨RL, "ofTalk", "(LCavershamShift;IILCavershamShiftLaw$Out;)I"⟩
abbrev cL_ofReport : ByteArray := method_20_code
def yL_ofReport : MethodName := ⟨RL, "ofReport", "(LCavershamShift;IILCavershamShiftLaw$Out;)I"⟩
abbrev cL_got : ByteArray := method_21_code
def yL_got : MethodName := ⟨RL, "got", "(LCavershamShift;IILCavershamShiftLaw$Out;)I"⟩
abbrev cL_ofReader : ByteArray := method_22_code
def yL_ofReader : MethodName := ⟨RL, "ofReader", "(LCavershamShift;IILCavershamShiftLaw$Out;)I"⟩
abbrev cL_used : ByteArray := method_23_code
def yL_used : MethodName := ⟨RL, "used", "(LCavershamShift;IIIILCavershamShiftLaw$Out;)I"⟩
abbrev cL_gone : ByteArray := method_24_code
def yL_gone : MethodName := ⟨RL, "gone", "(LCavershamShift;ILCavershamShiftLaw$Out;)I"⟩
abbrev cL_first : ByteArray := method_25_code
def yL_first : MethodName := ⟨RL, "first", "(LCavershamShift;ILCavershamShiftLaw$Out;)I"⟩
abbrev cL_clarity : ByteArray := method_26_code
def yL_clarity : MethodName := ⟨RL, "clarity", "(LCavershamShift;ILCavershamShiftLaw$Out;)I"⟩
abbrev cL_desk : ByteArray := method_27_code
def yL_desk : MethodName := ⟨RL, "desk", "(LCavershamShift;ILCavershamShiftLaw$Out;)I"⟩
abbrev cL_tell : ByteArray := method_28_code
def yL_tell : MethodName := ⟨RL, "tell", "(LCavershamShift;ILCavershamShiftLaw$Out;)I"⟩
abbrev cL_best : ByteArray := method_29_code
def yL_best : MethodName := ⟨RL, "best", "(LCavershamShift;ILCavershamShiftLaw$Out;)I"⟩
abbrev cL_bestAt : ByteArray := method_30_code
def yL_bestAt : MethodName := ⟨RL, "bestAt", "(LCavershamShift;IIZLCavershamShiftLaw$Out;)I"⟩
abbrev cL_wouldHear : ByteArray := method_31_code
def yL_wouldHear : MethodName := ⟨RL, "wouldHear", "(LCavershamShift;ILCavershamShiftLaw$Out;)I"⟩
abbrev cL_law : ByteArray := code
def yL_law : MethodName := ⟨RL, "law", "([I)Z"⟩
