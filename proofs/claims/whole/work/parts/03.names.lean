/-! ===== BEGIN printed: names, fields, word lists, decode rows ===== -/
def RX0 : String := "RateGate$CallLog"
def TX0 : u_T := fun k => match k with
  | 0 => ("RateGate$CallLog", "total", "I", false)
  | 1 => ("RateGate$CallLog", "shippers", "[I", true)
  | 2 => ("RateGate$CallLog", "minutes", "[I", true)
  | 3 => ("RateGate$CallLog", "areLimited", "[Z", true)
  | 4 => ("RateGate$CallLog", "kept", "I", false)
  | _ => ("RateGate$CallLog", "next", "I", false)
def tyX0 : Nat → FieldType := fun k => match k with
  | 0 => .int
  | 1 => .array .int
  | 2 => .array .int
  | 3 => .array .boolean
  | 4 => .int
  | _ => .int
abbrev wsX00 : List Cond := u_ws RX0 TX0 6
theorem nmX0 : ∀ a, a < 6 → ∀ b, b < 6 → a ≠ b → (TX0 a).2.1 ≠ (TX0 b).2.1 := by decide +kernel
theorem tyX0_ok : ∀ k, k < 6 → parseFieldDescriptor (TX0 k).2.2.1 = some (tyX0 k) := by decide +kernel
abbrev cX0_init : ByteArray := prog_2_method_1_code
def yX0_init : MethodName := ⟨RX0, "<init>", "()V"⟩
abbrev cX0_add : ByteArray := prog_2_method_2_code
def yX0_add : MethodName := ⟨RX0, "add", "(IIZ)V"⟩
abbrev cX0_countBehind : ByteArray := prog_2_method_3_code
def yX0_countBehind : MethodName := ⟨RX0, "countBehind", "(II)I"⟩
def RX1 : String := "RateGate$Carrier"
def TX1 : u_T := fun k => match k with
  | 0 => ("RateGate$Carrier", "isUp", "Z", false)
  | 1 => ("RateGate$Carrier", "flaw", "I", false)
  | 2 => ("RateGate$Carrier", "triesHad", "I", false)
  | 3 => ("RateGate$Carrier", "rates", "LRateGate$Tariff;", false)
  | 4 => ("RateGate$Carrier", "failsInRow", "I", false)
  | 5 => ("RateGate$Carrier", "hasOpened", "Z", false)
  | _ => ("RateGate$Carrier", "openEnd", "I", false)
def tyX1 : Nat → FieldType := fun k => match k with
  | 0 => .boolean
  | 1 => .int
  | 2 => .int
  | 3 => .object "RateGate$Tariff"
  | 4 => .int
  | 5 => .boolean
  | _ => .int
abbrev wsX10 : List Cond := u_ws RX1 TX1 7
theorem nmX1 : ∀ a, a < 7 → ∀ b, b < 7 → a ≠ b → (TX1 a).2.1 ≠ (TX1 b).2.1 := by decide +kernel
theorem tyX1_ok : ∀ k, k < 7 → parseFieldDescriptor (TX1 k).2.2.1 = some (tyX1 k) := by decide +kernel
abbrev cX1_init : ByteArray := prog_3_method_1_code
def yX1_init : MethodName := ⟨RX1, "<init>", "()V"⟩
abbrev cX1_circuitAt : ByteArray := prog_3_method_2_code
def yX1_circuitAt : MethodName := ⟨RX1, "circuitAt", "(I)I"⟩
abbrev cX1_answersAt : ByteArray := prog_3_method_3_code
def yX1_answersAt : MethodName := ⟨RX1, "answersAt", "(I)Z"⟩
abbrev cX1_succeedsAt : ByteArray := prog_3_method_4_code
def yX1_succeedsAt : MethodName := ⟨RX1, "succeedsAt", "(I)Z"⟩
def RX2 : String := "RateGate$Parcel"
def TX2 : u_T := fun k => match k with
  | 0 => ("RateGate$Parcel", "quote", "LRateGate$Quote;", true)
  | 1 => ("RateGate$Parcel", "bookedAt", "I", true)
  | 2 => ("RateGate$Parcel", "amount", "I", false)
  | _ => ("RateGate$Parcel", "stage", "I", false)
def tyX2 : Nat → FieldType := fun k => match k with
  | 0 => .object "RateGate$Quote"
  | 1 => .int
  | 2 => .int
  | _ => .int
abbrev wsX20 : List Cond := u_ws RX2 TX2 4
theorem nmX2 : ∀ a, a < 4 → ∀ b, b < 4 → a ≠ b → (TX2 a).2.1 ≠ (TX2 b).2.1 := by decide +kernel
theorem tyX2_ok : ∀ k, k < 4 → parseFieldDescriptor (TX2 k).2.2.1 = some (tyX2 k) := by decide +kernel
abbrev cX2_init : ByteArray := prog_4_method_1_code
def yX2_init : MethodName := ⟨RX2, "<init>", "(LRateGate$Quote;II)V"⟩
abbrev cX2_isSettledAt : ByteArray := prog_4_method_2_code
def yX2_isSettledAt : MethodName := ⟨RX2, "isSettledAt", "(I)Z"⟩
abbrev cX2_isDueFrom : ByteArray := prog_4_method_3_code
def yX2_isDueFrom : MethodName := ⟨RX2, "isDueFrom", "(II)Z"⟩
def RX3 : String := "RateGate$Quote"
def TX3 : u_T := fun k => match k with
  | 0 => ("RateGate$Quote", "shipper", "I", true)
  | 1 => ("RateGate$Quote", "carrier", "I", true)
  | 2 => ("RateGate$Quote", "from", "I", true)
  | 3 => ("RateGate$Quote", "to", "I", true)
  | 4 => ("RateGate$Quote", "grams", "I", true)
  | 5 => ("RateGate$Quote", "isExpress", "Z", true)
  | 6 => ("RateGate$Quote", "rates", "LRateGate$Tariff;", true)
  | _ => ("RateGate$Quote", "end", "I", true)
def tyX3 : Nat → FieldType := fun k => match k with
  | 0 => .int
  | 1 => .int
  | 2 => .int
  | 3 => .int
  | 4 => .int
  | 5 => .boolean
  | 6 => .object "RateGate$Tariff"
  | _ => .int
abbrev wsX30 : List Cond := u_ws RX3 TX3 8
theorem nmX3 : ∀ a, a < 8 → ∀ b, b < 8 → a ≠ b → (TX3 a).2.1 ≠ (TX3 b).2.1 := by decide +kernel
theorem tyX3_ok : ∀ k, k < 8 → parseFieldDescriptor (TX3 k).2.2.1 = some (tyX3 k) := by decide +kernel
abbrev cX3_init : ByteArray := prog_5_method_1_code
def yX3_init : MethodName := ⟨RX3, "<init>", "(LRateGate$Request;LRateGate$Tariff;I)V"⟩
abbrev cX3_isFixedAt : ByteArray := prog_5_method_2_code
def yX3_isFixedAt : MethodName := ⟨RX3, "isFixedAt", "(I)Z"⟩
abbrev cX3_isOnLaneOf : ByteArray := prog_5_method_3_code
def yX3_isOnLaneOf : MethodName := ⟨RX3, "isOnLaneOf", "(LRateGate$Request;)Z"⟩
abbrev cX3_priceBy : ByteArray := prog_5_method_4_code
def yX3_priceBy : MethodName := ⟨RX3, "priceBy", "(LRateGate$Tariff;I)I"⟩
def RX4 : String := "RateGate$Request"
def TX4 : u_T := fun k => match k with
  | 0 => ("RateGate$Request", "signs", "[C", true)
  | 1 => ("RateGate$Request", "values", "[I", true)
  | 2 => ("RateGate$Request", "length", "I", false)
  | 3 => ("RateGate$Request", "faultWord", "Ljava/lang/String;", false)
  | _ => ("RateGate$Request", "faultKey", "C", false)
def tyX4 : Nat → FieldType := fun k => match k with
  | 0 => .array .char
  | 1 => .array .int
  | 2 => .int
  | 3 => .object "java/lang/String"
  | _ => .char
abbrev wsX40 : List Cond := u_ws RX4 TX4 5
theorem nmX4 : ∀ a, a < 5 → ∀ b, b < 5 → a ≠ b → (TX4 a).2.1 ≠ (TX4 b).2.1 := by decide +kernel
theorem tyX4_ok : ∀ k, k < 5 → parseFieldDescriptor (TX4 k).2.2.1 = some (tyX4 k) := by decide +kernel
abbrev cX4_init : ByteArray := prog_6_method_1_code
def yX4_init : MethodName := ⟨RX4, "<init>", "()V"⟩
abbrev cX4_isTypable : ByteArray := prog_6_method_2_code
def yX4_isTypable : MethodName := ⟨RX4, "isTypable", "(C)Z"⟩
abbrev cX4_isFull : ByteArray := prog_6_method_3_code
def yX4_isFull : MethodName := ⟨RX4, "isFull", "()Z"⟩
abbrev cX4_append : ByteArray := prog_6_method_4_code
def yX4_append : MethodName := ⟨RX4, "append", "(C)I"⟩
abbrev cX4_empty : ByteArray := prog_6_method_5_code
def yX4_empty : MethodName := ⟨RX4, "empty", "()I"⟩
abbrev cX4_faultText : ByteArray := prog_6_method_6_code
def yX4_faultText : MethodName := ⟨RX4, "faultText", "()Ljava/lang/String;"⟩
abbrev cX4_valueOf : ByteArray := prog_6_method_7_code
def yX4_valueOf : MethodName := ⟨RX4, "valueOf", "(I)I"⟩
abbrev cX4_readText : ByteArray := prog_6_method_8_code
def yX4_readText : MethodName := ⟨RX4, "readText", "()V"⟩
abbrev cX4_endOfPart : ByteArray := prog_6_method_9_code
def yX4_endOfPart : MethodName := ⟨RX4, "endOfPart", "(I)I"⟩
abbrev cX4_readPart : ByteArray := prog_6_method_10_code
def yX4_readPart : MethodName := ⟨RX4, "readPart", "(III)V"⟩
abbrev cX4_keyIn : ByteArray := prog_6_method_11_code
def yX4_keyIn : MethodName := ⟨RX4, "keyIn", "(II)I"⟩
abbrev cX4_readValue : ByteArray := prog_6_method_12_code
def yX4_readValue : MethodName := ⟨RX4, "readValue", "(III)I"⟩
abbrev cX4_readDigit : ByteArray := prog_6_method_13_code
def yX4_readDigit : MethodName := ⟨RX4, "readDigit", "(III)I"⟩
abbrev cX4_readWeight : ByteArray := prog_6_method_14_code
def yX4_readWeight : MethodName := ⟨RX4, "readWeight", "(II)I"⟩
abbrev cX4_readExpress : ByteArray := prog_6_method_15_code
def yX4_readExpress : MethodName := ⟨RX4, "readExpress", "(II)I"⟩
abbrev cX4_findMissingKey : ByteArray := prog_6_method_16_code
def yX4_findMissingKey : MethodName := ⟨RX4, "findMissingKey", "()V"⟩
abbrev cX4_setFault : ByteArray := prog_6_method_17_code
def yX4_setFault : MethodName := ⟨RX4, "setFault", "(Ljava/lang/String;C)V"⟩
abbrev cX4_signAt : ByteArray := prog_6_method_18_code
def yX4_signAt : MethodName := ⟨RX4, "signAt", "(I)C"⟩
abbrev cX4_isDigit : ByteArray := prog_6_method_19_code
def yX4_isDigit : MethodName := ⟨RX4, "isDigit", "(C)Z"⟩
def RX5 : String := "RateGate$Shipper"
def TX5 : u_T := fun k => match k with
  | 0 => ("RateGate$Shipper", "quotaCalls", "I", false)
  | 1 => ("RateGate$Shipper", "quotaMinutes", "I", false)
  | 2 => ("RateGate$Shipper", "callCosts", "I", false)
  | 3 => ("RateGate$Shipper", "allBills", "I", false)
  | 4 => ("RateGate$Shipper", "lastMinutes", "[I", true)
  | 5 => ("RateGate$Shipper", "kept", "I", false)
  | _ => ("RateGate$Shipper", "next", "I", false)
def tyX5 : Nat → FieldType := fun k => match k with
  | 0 => .int
  | 1 => .int
  | 2 => .int
  | 3 => .int
  | 4 => .array .int
  | 5 => .int
  | _ => .int
abbrev wsX50 : List Cond := u_ws RX5 TX5 7
theorem nmX5 : ∀ a, a < 7 → ∀ b, b < 7 → a ≠ b → (TX5 a).2.1 ≠ (TX5 b).2.1 := by decide +kernel
theorem tyX5_ok : ∀ k, k < 7 → parseFieldDescriptor (TX5 k).2.2.1 = some (tyX5 k) := by decide +kernel
abbrev cX5_init : ByteArray := prog_7_method_1_code
def yX5_init : MethodName := ⟨RX5, "<init>", "()V"⟩
abbrev cX5_callsLeft : ByteArray := prog_7_method_2_code
def yX5_callsLeft : MethodName := ⟨RX5, "callsLeft", "(I)I"⟩
abbrev cX5_keepCall : ByteArray := prog_7_method_3_code
def yX5_keepCall : MethodName := ⟨RX5, "keepCall", "(I)V"⟩
def RX6 : String := "RateGate$Tariff"
def TX6 : u_T := fun k => match k with
  | 0 => ("RateGate$Tariff", "base", "I", true)
  | 1 => ("RateGate$Tariff", "perZone", "I", true)
  | _ => ("RateGate$Tariff", "perWeight", "I", true)
def tyX6 : Nat → FieldType := fun k => match k with
  | 0 => .int
  | 1 => .int
  | _ => .int
abbrev wsX60 : List Cond := u_ws RX6 TX6 3
theorem nmX6 : ∀ a, a < 3 → ∀ b, b < 3 → a ≠ b → (TX6 a).2.1 ≠ (TX6 b).2.1 := by decide +kernel
theorem tyX6_ok : ∀ k, k < 3 → parseFieldDescriptor (TX6 k).2.2.1 = some (tyX6 k) := by decide +kernel
abbrev cX6_init : ByteArray := prog_8_method_1_code
def yX6_init : MethodName := ⟨RX6, "<init>", "(III)V"⟩
def RX7 : String := "RateGate"
def TX7 : u_T := fun k => match k with
  | 0 => ("RateGate", "request", "LRateGate$Request;", true)
  | 1 => ("RateGate", "log", "LRateGate$CallLog;", true)
  | 2 => ("RateGate", "shippers", "[LRateGate$Shipper;", true)
  | 3 => ("RateGate", "carriers", "[LRateGate$Carrier;", true)
  | 4 => ("RateGate", "quotes", "Ljava/util/List;", true)
  | 5 => ("RateGate", "parcels", "Ljava/util/List;", true)
  | _ => ("RateGate", "now", "I", false)
def tyX7 : Nat → FieldType := fun k => match k with
  | 0 => .object "RateGate$Request"
  | 1 => .object "RateGate$CallLog"
  | 2 => .array (.object "RateGate$Shipper")
  | 3 => .array (.object "RateGate$Carrier")
  | 4 => .object "java/util/List"
  | 5 => .object "java/util/List"
  | _ => .int
abbrev wsX70 : List Cond := u_ws RX7 TX7 7
theorem nmX7 : ∀ a, a < 7 → ∀ b, b < 7 → a ≠ b → (TX7 a).2.1 ≠ (TX7 b).2.1 := by decide +kernel
theorem tyX7_ok : ∀ k, k < 7 → parseFieldDescriptor (TX7 k).2.2.1 = some (tyX7 k) := by decide +kernel
abbrev cX7_init : ByteArray := prog_1_method_1_code
def yX7_init : MethodName := ⟨RX7, "<init>", "()V"⟩
abbrev cX7_type : ByteArray := prog_1_method_2_code
def yX7_type : MethodName := ⟨RX7, "type", "(C)I"⟩
abbrev cX7_wipe : ByteArray := prog_1_method_3_code
def yX7_wipe : MethodName := ⟨RX7, "wipe", "()I"⟩
abbrev cX7_isRight : ByteArray := prog_1_method_4_code
def yX7_isRight : MethodName := ⟨RX7, "isRight", "()Z"⟩
abbrev cX7_faultLength : ByteArray := prog_1_method_5_code
def yX7_faultLength : MethodName := ⟨RX7, "faultLength", "()I"⟩
abbrev cX7_fault : ByteArray := prog_1_method_6_code
def yX7_fault : MethodName := ⟨RX7, "fault", "(I)C"⟩
abbrev cX7_pass : ByteArray := prog_1_method_7_code
def yX7_pass : MethodName := ⟨RX7, "pass", "(I)I"⟩
abbrev cX7_quota : ByteArray := prog_1_method_8_code
def yX7_quota : MethodName := ⟨RX7, "quota", "(III)I"⟩
abbrev cX7_carrier : ByteArray := prog_1_method_9_code
def yX7_carrier : MethodName := ⟨RX7, "carrier", "(IZI)I"⟩
abbrev cX7_tariff : ByteArray := prog_1_method_10_code
def yX7_tariff : MethodName := ⟨RX7, "tariff", "(IIII)I"⟩
abbrev cX7_call : ByteArray := prog_1_method_11_code
def yX7_call : MethodName := ⟨RX7, "call", "()I"⟩
abbrev cX7_price : ByteArray := prog_1_method_12_code
def yX7_price : MethodName := ⟨RX7, "price", "(I)I"⟩
abbrev cX7_fixed : ByteArray := prog_1_method_13_code
def yX7_fixed : MethodName := ⟨RX7, "fixed", "(I)I"⟩
abbrev cX7_left : ByteArray := prog_1_method_14_code
def yX7_left : MethodName := ⟨RX7, "left", "(I)I"⟩
abbrev cX7_leftByLog : ByteArray := prog_1_method_15_code
def yX7_leftByLog : MethodName := ⟨RX7, "leftByLog", "(I)I"⟩
abbrev cX7_circuit : ByteArray := prog_1_method_16_code
def yX7_circuit : MethodName := ⟨RX7, "circuit", "(I)I"⟩
abbrev cX7_tries : ByteArray := prog_1_method_17_code
def yX7_tries : MethodName := ⟨RX7, "tries", "(I)I"⟩
abbrev cX7_calls : ByteArray := prog_1_method_18_code
def yX7_calls : MethodName := ⟨RX7, "calls", "()I"⟩
abbrev cX7_book : ByteArray := prog_1_method_19_code
def yX7_book : MethodName := ⟨RX7, "book", "(I)I"⟩
abbrev cX7_weigh : ByteArray := prog_1_method_20_code
def yX7_weigh : MethodName := ⟨RX7, "weigh", "(II)I"⟩
abbrev cX7_cancel : ByteArray := prog_1_method_21_code
def yX7_cancel : MethodName := ⟨RX7, "cancel", "(I)I"⟩
abbrev cX7_state : ByteArray := prog_1_method_22_code
def yX7_state : MethodName := ⟨RX7, "state", "(I)I"⟩
abbrev cX7_cost : ByteArray := prog_1_method_23_code
def yX7_cost : MethodName := ⟨RX7, "cost", "(I)I"⟩
abbrev cX7_bill : ByteArray := prog_1_method_24_code
def yX7_bill : MethodName := ⟨RX7, "bill", "(I)I"⟩
abbrev cX7_close : ByteArray := prog_1_method_25_code
def yX7_close : MethodName := ⟨RX7, "close", "(I)I"⟩
abbrev cX7_billed : ByteArray := prog_1_method_26_code
def yX7_billed : MethodName := ⟨RX7, "billed", "(I)I"⟩
abbrev cX7_isWithin : ByteArray := prog_1_method_27_code
def yX7_isWithin : MethodName := ⟨RX7, "isWithin", "(III)Z"⟩
abbrev cX7_shipperAt : ByteArray := prog_1_method_28_code
def yX7_shipperAt : MethodName := ⟨RX7, "shipperAt", "(I)LRateGate$Shipper;"⟩
abbrev cX7_carrierAt : ByteArray := prog_1_method_29_code
def yX7_carrierAt : MethodName := ⟨RX7, "carrierAt", "(I)LRateGate$Carrier;"⟩
abbrev cX7_quoteAt : ByteArray := prog_1_method_30_code
def yX7_quoteAt : MethodName := ⟨RX7, "quoteAt", "(I)LRateGate$Quote;"⟩
abbrev cX7_parcelAt : ByteArray := prog_1_method_31_code
def yX7_parcelAt : MethodName := ⟨RX7, "parcelAt", "(I)LRateGate$Parcel;"⟩
abbrev cX7_answerTo : ByteArray := prog_1_method_32_code
def yX7_answerTo : MethodName := ⟨RX7, "answerTo", "(LRateGate$Shipper;LRateGate$Carrier;)I"⟩
abbrev cX7_quoteFixingRequest : ByteArray := prog_1_method_33_code
def yX7_quoteFixingRequest : MethodName := ⟨RX7, "quoteFixingRequest", "()LRateGate$Quote;"⟩
abbrev cX7_addQuote : ByteArray := prog_1_method_34_code
def yX7_addQuote : MethodName := ⟨RX7, "addQuote", "(LRateGate$Tariff;I)I"⟩
abbrev cX7_dueParcelCosts : ByteArray := prog_1_method_35_code
def yX7_dueParcelCosts : MethodName := ⟨RX7, "dueParcelCosts", "(I)I"⟩
abbrev cX7_markDueParcels : ByteArray := prog_1_method_36_code
def yX7_markDueParcels : MethodName := ⟨RX7, "markDueParcels", "(I)V"⟩
def RX8 : String := "RateGateModel"
def TX8 : u_T := fun k => match k with
  | 0 => ("RateGateModel", "thrown", "I", false)
  | 1 => ("RateGateModel", "now", "I", false)
  | 2 => ("RateGateModel", "text", "[C", true)
  | 3 => ("RateGateModel", "length", "I", false)
  | 4 => ("RateGateModel", "keys", "[C", true)
  | 5 => ("RateGateModel", "words", "[C", true)
  | 6 => ("RateGateModel", "values", "[I", true)
  | 7 => ("RateGateModel", "fault", "I", false)
  | 8 => ("RateGateModel", "faultAt", "I", false)
  | 9 => ("RateGateModel", "told", "[C", true)
  | 10 => ("RateGateModel", "toldLength", "I", false)
  | 11 => ("RateGateModel", "quota", "[I", true)
  | 12 => ("RateGateModel", "window", "[I", true)
  | 13 => ("RateGateModel", "isDown", "[Z", true)
  | 14 => ("RateGateModel", "flaw", "[I", true)
  | 15 => ("RateGateModel", "tries", "[I", true)
  | 16 => ("RateGateModel", "fails", "[I", true)
  | 17 => ("RateGateModel", "isShut", "[Z", true)
  | 18 => ("RateGateModel", "openUntil", "[I", true)
  | 19 => ("RateGateModel", "base", "[I", true)
  | 20 => ("RateGateModel", "zone", "[I", true)
  | 21 => ("RateGateModel", "weight", "[I", true)
  | 22 => ("RateGateModel", "calls", "I", false)
  | 23 => ("RateGateModel", "counted", "I", false)
  | 24 => ("RateGateModel", "countedMinute", "[I", true)
  | 25 => ("RateGateModel", "countedShipper", "[I", true)
  | 26 => ("RateGateModel", "costs", "[I", true)
  | 27 => ("RateGateModel", "billed", "[I", true)
  | 28 => ("RateGateModel", "fixedEnd", "[I", true)
  | 29 => ("RateGateModel", "fixedBase", "[I", true)
  | 30 => ("RateGateModel", "fixedZone", "[I", true)
  | 31 => ("RateGateModel", "fixedWeight", "[I", true)
  | 32 => ("RateGateModel", "quotes", "I", false)
  | 33 => ("RateGateModel", "quoteShipper", "[I", true)
  | 34 => ("RateGateModel", "quoteCarrier", "[I", true)
  | 35 => ("RateGateModel", "quoteApart", "[I", true)
  | 36 => ("RateGateModel", "quoteGrams", "[I", true)
  | 37 => ("RateGateModel", "isExpress", "[Z", true)
  | 38 => ("RateGateModel", "quoteBase", "[I", true)
  | 39 => ("RateGateModel", "quoteZone", "[I", true)
  | 40 => ("RateGateModel", "quoteWeight", "[I", true)
  | 41 => ("RateGateModel", "quoteEnd", "[I", true)
  | 42 => ("RateGateModel", "parcels", "I", false)
  | 43 => ("RateGateModel", "parcelQuote", "[I", true)
  | 44 => ("RateGateModel", "bookedAt", "[I", true)
  | 45 => ("RateGateModel", "cost", "[I", true)
  | _ => ("RateGateModel", "state", "[I", true)
def tyX8 : Nat → FieldType := fun k => match k with
  | 0 => .int
  | 1 => .int
  | 2 => .array .char
  | 3 => .int
  | 4 => .array .char
  | 5 => .array .char
  | 6 => .array .int
  | 7 => .int
  | 8 => .int
  | 9 => .array .char
  | 10 => .int
  | 11 => .array .int
  | 12 => .array .int
  | 13 => .array .boolean
  | 14 => .array .int
  | 15 => .array .int
  | 16 => .array .int
  | 17 => .array .boolean
  | 18 => .array .int
  | 19 => .array .int
  | 20 => .array .int
  | 21 => .array .int
  | 22 => .int
  | 23 => .int
  | 24 => .array .int
  | 25 => .array .int
  | 26 => .array .int
  | 27 => .array .int
  | 28 => .array .int
  | 29 => .array .int
  | 30 => .array .int
  | 31 => .array .int
  | 32 => .int
  | 33 => .array .int
  | 34 => .array .int
  | 35 => .array .int
  | 36 => .array .int
  | 37 => .array .boolean
  | 38 => .array .int
  | 39 => .array .int
  | 40 => .array .int
  | 41 => .array .int
  | 42 => .int
  | 43 => .array .int
  | 44 => .array .int
  | 45 => .array .int
  | _ => .array .int
abbrev wsX80 : List Cond := u_ws RX8 TX8 47
theorem nmX8 : ∀ a, a < 47 → ∀ b, b < 47 → a ≠ b → (TX8 a).2.1 ≠ (TX8 b).2.1 := by decide +kernel
theorem tyX8_ok : ∀ k, k < 47 → parseFieldDescriptor (TX8 k).2.2.1 = some (tyX8 k) := by decide +kernel
abbrev cX8_init : ByteArray := prog_10_method_1_code
def yX8_init : MethodName := ⟨RX8, "<init>", "()V"⟩
abbrev cX8_thrown : ByteArray := prog_10_method_2_code
def yX8_thrown : MethodName := ⟨RX8, "thrown", "()I"⟩
abbrev cX8_isIn : ByteArray := prog_10_method_3_code
def yX8_isIn : MethodName := ⟨RX8, "isIn", "(III)Z"⟩
abbrev cX8_type : ByteArray := prog_10_method_4_code
def yX8_type : MethodName := ⟨RX8, "type", "(C)I"⟩
abbrev cX8_wipe : ByteArray := prog_10_method_5_code
def yX8_wipe : MethodName := ⟨RX8, "wipe", "()I"⟩
abbrev cX8_number : ByteArray := prog_10_method_6_code
def yX8_number : MethodName := ⟨RX8, "number", "(III)I"⟩
abbrev cX8_valueOf : ByteArray := prog_10_method_7_code
def yX8_valueOf : MethodName := ⟨RX8, "valueOf", "(III)I"⟩
abbrev cX8_keyOf : ByteArray := prog_10_method_8_code
def yX8_keyOf : MethodName := ⟨RX8, "keyOf", "(II)I"⟩
abbrev cX8_fails : ByteArray := prog_10_method_9_code
def yX8_fails : MethodName := ⟨RX8, "fails", "(II)V"⟩
abbrev cX8_readPart : ByteArray := prog_10_method_10_code
def yX8_readPart : MethodName := ⟨RX8, "readPart", "(III)V"⟩
abbrev cX8_reads : ByteArray := prog_10_method_11_code
def yX8_reads : MethodName := ⟨RX8, "reads", "()Z"⟩
abbrev cX8_tells : ByteArray := prog_10_method_12_code
def yX8_tells : MethodName := ⟨RX8, "tells", "()V"⟩
abbrev cX8_isRight : ByteArray := prog_10_method_13_code
def yX8_isRight : MethodName := ⟨RX8, "isRight", "()Z"⟩
abbrev cX8_faultLength : ByteArray := prog_10_method_14_code
def yX8_faultLength : MethodName := ⟨RX8, "faultLength", "()I"⟩
abbrev cX8_fault : ByteArray := prog_10_method_15_code
def yX8_fault : MethodName := ⟨RX8, "fault", "(I)C"⟩
abbrev cX8_pass : ByteArray := prog_10_method_16_code
def yX8_pass : MethodName := ⟨RX8, "pass", "(I)I"⟩
abbrev cX8_isShipper : ByteArray := prog_10_method_17_code
def yX8_isShipper : MethodName := ⟨RX8, "isShipper", "(I)Z"⟩
abbrev cX8_isCarrier : ByteArray := prog_10_method_18_code
def yX8_isCarrier : MethodName := ⟨RX8, "isCarrier", "(I)Z"⟩
abbrev cX8_quota : ByteArray := prog_10_method_19_code
def yX8_quota : MethodName := ⟨RX8, "quota", "(III)I"⟩
abbrev cX8_carrier : ByteArray := prog_10_method_20_code
def yX8_carrier : MethodName := ⟨RX8, "carrier", "(IZI)I"⟩
abbrev cX8_tariff : ByteArray := prog_10_method_21_code
def yX8_tariff : MethodName := ⟨RX8, "tariff", "(IIII)I"⟩
abbrev cX8_circuitOf : ByteArray := prog_10_method_22_code
def yX8_circuitOf : MethodName := ⟨RX8, "circuitOf", "(I)I"⟩
abbrev cX8_isFailed : ByteArray := prog_10_method_23_code
def yX8_isFailed : MethodName := ⟨RX8, "isFailed", "(I)Z"⟩
abbrev cX8_asked : ByteArray := prog_10_method_24_code
def yX8_asked : MethodName := ⟨RX8, "asked", "(I)I"⟩
abbrev cX8_inWindow : ByteArray := prog_10_method_25_code
def yX8_inWindow : MethodName := ⟨RX8, "inWindow", "(I)I"⟩
abbrev cX8_priceOf : ByteArray := prog_10_method_26_code
def yX8_priceOf : MethodName := ⟨RX8, "priceOf", "(IIIIIZ)I"⟩
abbrev cX8_quoted : ByteArray := prog_10_method_27_code
def yX8_quoted : MethodName := ⟨RX8, "quoted", "(II)I"⟩
abbrev cX8_quote : ByteArray := prog_10_method_28_code
def yX8_quote : MethodName := ⟨RX8, "quote", "(III)I"⟩
abbrev cX8_call : ByteArray := prog_10_method_29_code
def yX8_call : MethodName := ⟨RX8, "call", "()I"⟩
abbrev cX8_asksQuote : ByteArray := prog_10_method_30_code
def yX8_asksQuote : MethodName := ⟨RX8, "asksQuote", "(I)Z"⟩
abbrev cX8_price : ByteArray := prog_10_method_31_code
def yX8_price : MethodName := ⟨RX8, "price", "(I)I"⟩
abbrev cX8_fixed : ByteArray := prog_10_method_32_code
def yX8_fixed : MethodName := ⟨RX8, "fixed", "(I)I"⟩
abbrev cX8_leftOf : ByteArray := prog_10_method_33_code
def yX8_leftOf : MethodName := ⟨RX8, "leftOf", "(I)I"⟩
abbrev cX8_left : ByteArray := prog_10_method_34_code
def yX8_left : MethodName := ⟨RX8, "left", "(I)I"⟩
abbrev cX8_leftByLog : ByteArray := prog_10_method_35_code
def yX8_leftByLog : MethodName := ⟨RX8, "leftByLog", "(I)I"⟩
abbrev cX8_circuit : ByteArray := prog_10_method_36_code
def yX8_circuit : MethodName := ⟨RX8, "circuit", "(I)I"⟩
abbrev cX8_tries : ByteArray := prog_10_method_37_code
def yX8_tries : MethodName := ⟨RX8, "tries", "(I)I"⟩
abbrev cX8_calls : ByteArray := prog_10_method_38_code
def yX8_calls : MethodName := ⟨RX8, "calls", "()I"⟩
abbrev cX8_book : ByteArray := prog_10_method_39_code
def yX8_book : MethodName := ⟨RX8, "book", "(I)I"⟩
abbrev cX8_isParcel : ByteArray := prog_10_method_40_code
def yX8_isParcel : MethodName := ⟨RX8, "isParcel", "(I)Z"⟩
abbrev cX8_weigh : ByteArray := prog_10_method_41_code
def yX8_weigh : MethodName := ⟨RX8, "weigh", "(II)I"⟩
abbrev cX8_cancel : ByteArray := prog_10_method_42_code
def yX8_cancel : MethodName := ⟨RX8, "cancel", "(I)I"⟩
abbrev cX8_state : ByteArray := prog_10_method_43_code
def yX8_state : MethodName := ⟨RX8, "state", "(I)I"⟩
abbrev cX8_cost : ByteArray := prog_10_method_44_code
def yX8_cost : MethodName := ⟨RX8, "cost", "(I)I"⟩
abbrev cX8_isDue : ByteArray := prog_10_method_45_code
def yX8_isDue : MethodName := ⟨RX8, "isDue", "(II)Z"⟩
abbrev cX8_billOf : ByteArray := prog_10_method_46_code
def yX8_billOf : MethodName := ⟨RX8, "billOf", "(I)I"⟩
abbrev cX8_bill : ByteArray := prog_10_method_47_code
def yX8_bill : MethodName := ⟨RX8, "bill", "(I)I"⟩
abbrev cX8_close : ByteArray := prog_10_method_48_code
def yX8_close : MethodName := ⟨RX8, "close", "(I)I"⟩
abbrev cX8_billed : ByteArray := prog_10_method_49_code
def yX8_billed : MethodName := ⟨RX8, "billed", "(I)I"⟩
def RJx145de : String := "java/io/Serializable"
def TJx145de : u_T := fun k => match k with
  | _ => ("", "", "", false)
def tyJx145de : Nat → FieldType := fun k => match k with
  | _ => .int
abbrev wsJx145de0 : List Cond := u_ws RJx145de TJx145de 0
theorem nmJx145de : ∀ a, a < 0 → ∀ b, b < 0 → a ≠ b → (TJx145de a).2.1 ≠ (TJx145de b).2.1 := by decide +kernel
theorem tyJx145de_ok : ∀ k, k < 0 → parseFieldDescriptor (TJx145de k).2.2.1 = some (tyJx145de k) := by decide +kernel
def RJ5 : String := "java/lang/AbstractStringBuilder"
def TJ5 : u_T := fun k => match k with
  | _ => ("", "", "", false)
def tyJ5 : Nat → FieldType := fun k => match k with
  | _ => .int
abbrev wsJ50 : List Cond := u_ws RJ5 TJ5 0
theorem nmJ5 : ∀ a, a < 0 → ∀ b, b < 0 → a ≠ b → (TJ5 a).2.1 ≠ (TJ5 b).2.1 := by decide +kernel
theorem tyJ5_ok : ∀ k, k < 0 → parseFieldDescriptor (TJ5 k).2.2.1 = some (tyJ5 k) := by decide +kernel
abbrev cJ5_init_d00df : ByteArray := prog_12_method_2_code
def yJ5_init_d00df : MethodName := ⟨RJ5, "<init>", "(I)V"⟩
abbrev cJ5_length_8abf5 : ByteArray := prog_12_method_6_code
def yJ5_length_8abf5 : MethodName := ⟨RJ5, "length", "()I"⟩
abbrev cJ5_ensureCapacityInternal_d00df : ByteArray := prog_12_method_9_code
def yJ5_ensureCapacityInternal_d00df : MethodName := ⟨RJ5, "ensureCapacityInternal", "(I)V"⟩
abbrev cJ5_newCapacity_0f7a4 : ByteArray := prog_12_method_10_code
def yJ5_newCapacity_0f7a4 : MethodName := ⟨RJ5, "newCapacity", "(I)I"⟩
abbrev cJ5_inflate_da8c8 : ByteArray := prog_12_method_11_code
def yJ5_inflate_da8c8 : MethodName := ⟨RJ5, "inflate", "()V"⟩
abbrev cJ5_append_cf1ce : ByteArray := prog_12_method_22_code
def yJ5_append_cf1ce : MethodName := ⟨RJ5, "append", "(Ljava/lang/String;)Ljava/lang/AbstractStringBuilder;"⟩
abbrev cJ5_appendNull_278bc : ByteArray := prog_12_method_26_code
def yJ5_appendNull_278bc : MethodName := ⟨RJ5, "appendNull", "()Ljava/lang/AbstractStringBuilder;"⟩
abbrev cJ5_append_3fe6f : ByteArray := prog_12_method_31_code
def yJ5_append_3fe6f : MethodName := ⟨RJ5, "append", "(C)Ljava/lang/AbstractStringBuilder;"⟩
abbrev cJ5_append_c97b9 : ByteArray := prog_12_method_32_code
def yJ5_append_c97b9 : MethodName := ⟨RJ5, "append", "(I)Ljava/lang/AbstractStringBuilder;"⟩
abbrev cJ5_getValue_6d5f1 : ByteArray := prog_12_method_64_code
def yJ5_getValue_6d5f1 : MethodName := ⟨RJ5, "getValue", "()[B"⟩
abbrev cJ5_isLatin1_aae02 : ByteArray := prog_12_method_68_code
def yJ5_isLatin1_aae02 : MethodName := ⟨RJ5, "isLatin1", "()Z"⟩
abbrev cJ5_inflateIfNeededFor_a7421 : ByteArray := prog_12_method_71_code
def yJ5_inflateIfNeededFor_a7421 : MethodName := ⟨RJ5, "inflateIfNeededFor", "(Ljava/lang/String;)V"⟩
abbrev cJ5_putStringAt_47b60 : ByteArray := prog_12_method_73_code
def yJ5_putStringAt_47b60 : MethodName := ⟨RJ5, "putStringAt", "(ILjava/lang/String;)V"⟩
def RJx2cfe8 : String := "java/lang/Appendable"
def TJx2cfe8 : u_T := fun k => match k with
  | _ => ("", "", "", false)
def tyJx2cfe8 : Nat → FieldType := fun k => match k with
  | _ => .int
abbrev wsJx2cfe80 : List Cond := u_ws RJx2cfe8 TJx2cfe8 0
theorem nmJx2cfe8 : ∀ a, a < 0 → ∀ b, b < 0 → a ≠ b → (TJx2cfe8 a).2.1 ≠ (TJx2cfe8 b).2.1 := by decide +kernel
theorem tyJx2cfe8_ok : ∀ k, k < 0 → parseFieldDescriptor (TJx2cfe8 k).2.2.1 = some (tyJx2cfe8 k) := by decide +kernel
def RJx9f9b0 : String := "java/lang/CharSequence"
def TJx9f9b0 : u_T := fun k => match k with
  | _ => ("", "", "", false)
def tyJx9f9b0 : Nat → FieldType := fun k => match k with
  | _ => .int
abbrev wsJx9f9b00 : List Cond := u_ws RJx9f9b0 TJx9f9b0 0
theorem nmJx9f9b0 : ∀ a, a < 0 → ∀ b, b < 0 → a ≠ b → (TJx9f9b0 a).2.1 ≠ (TJx9f9b0 b).2.1 := by decide +kernel
theorem tyJx9f9b0_ok : ∀ k, k < 0 → parseFieldDescriptor (TJx9f9b0 k).2.2.1 = some (tyJx9f9b0 k) := by decide +kernel
def RJ11 : String := "java/lang/Character"
def TJ11 : u_T := fun k => match k with
  | _ => ("", "", "", false)
def tyJ11 : Nat → FieldType := fun k => match k with
  | _ => .int
abbrev wsJ110 : List Cond := u_ws RJ11 TJ11 0
theorem nmJ11 : ∀ a, a < 0 → ∀ b, b < 0 → a ≠ b → (TJ11 a).2.1 ≠ (TJ11 b).2.1 := by decide +kernel
theorem tyJ11_ok : ∀ k, k < 0 → parseFieldDescriptor (TJ11 k).2.2.1 = some (tyJ11 k) := by decide +kernel
abbrev cJ11_isValidCodePoint_9a6ad : ByteArray := prog_15_method_11_code
def yJ11_isValidCodePoint_9a6ad : MethodName := ⟨RJ11, "isValidCodePoint", "(I)Z"⟩
abbrev cJ11_highSurrogate_5068e : ByteArray := prog_15_method_28_code
def yJ11_highSurrogate_5068e : MethodName := ⟨RJ11, "highSurrogate", "(I)C"⟩
abbrev cJ11_lowSurrogate_5068e : ByteArray := prog_15_method_29_code
def yJ11_lowSurrogate_5068e : MethodName := ⟨RJ11, "lowSurrogate", "(I)C"⟩
def RJx8e188 : String := "java/lang/Cloneable"
def TJx8e188 : u_T := fun k => match k with
  | _ => ("", "", "", false)
def tyJx8e188 : Nat → FieldType := fun k => match k with
  | _ => .int
abbrev wsJx8e1880 : List Cond := u_ws RJx8e188 TJx8e188 0
theorem nmJx8e188 : ∀ a, a < 0 → ∀ b, b < 0 → a ≠ b → (TJx8e188 a).2.1 ≠ (TJx8e188 b).2.1 := by decide +kernel
theorem tyJx8e188_ok : ∀ k, k < 0 → parseFieldDescriptor (TJx8e188 k).2.2.1 = some (tyJx8e188 k) := by decide +kernel
def RJxb160c : String := "java/lang/Comparable"
def TJxb160c : u_T := fun k => match k with
  | _ => ("", "", "", false)
def tyJxb160c : Nat → FieldType := fun k => match k with
  | _ => .int
abbrev wsJxb160c0 : List Cond := u_ws RJxb160c TJxb160c 0
theorem nmJxb160c : ∀ a, a < 0 → ∀ b, b < 0 → a ≠ b → (TJxb160c a).2.1 ≠ (TJxb160c b).2.1 := by decide +kernel
theorem tyJxb160c_ok : ∀ k, k < 0 → parseFieldDescriptor (TJxb160c k).2.2.1 = some (tyJxb160c k) := by decide +kernel
def RJ6 : String := "java/lang/Integer"
def TJ6 : u_T := fun k => match k with
  | _ => ("", "", "", false)
def tyJ6 : Nat → FieldType := fun k => match k with
  | _ => .int
abbrev wsJ60 : List Cond := u_ws RJ6 TJ6 0
theorem nmJ6 : ∀ a, a < 0 → ∀ b, b < 0 → a ≠ b → (TJ6 a).2.1 ≠ (TJ6 b).2.1 := by decide +kernel
theorem tyJ6_ok : ∀ k, k < 0 → parseFieldDescriptor (TJ6 k).2.2.1 = some (tyJ6 k) := by decide +kernel
abbrev cJ6_getChars_ba4f3 : ByteArray := prog_22_method_12_code
def yJ6_getChars_ba4f3 : MethodName := ⟨RJ6, "getChars", "(II[B)I"⟩
abbrev cJ6_stringSize_0f7a4 : ByteArray := prog_22_method_13_code
def yJ6_stringSize_0f7a4 : MethodName := ⟨RJ6, "stringSize", "(I)I"⟩
def RJxab1ab : String := "java/lang/Iterable"
def TJxab1ab : u_T := fun k => match k with
  | _ => ("", "", "", false)
def tyJxab1ab : Nat → FieldType := fun k => match k with
  | _ => .int
abbrev wsJxab1ab0 : List Cond := u_ws RJxab1ab TJxab1ab 0
theorem nmJxab1ab : ∀ a, a < 0 → ∀ b, b < 0 → a ≠ b → (TJxab1ab a).2.1 ≠ (TJxab1ab b).2.1 := by decide +kernel
theorem tyJxab1ab_ok : ∀ k, k < 0 → parseFieldDescriptor (TJxab1ab k).2.2.1 = some (tyJxab1ab k) := by decide +kernel
def RJ9 : String := "java/lang/Math"
def TJ9 : u_T := fun k => match k with
  | _ => ("", "", "", false)
def tyJ9 : Nat → FieldType := fun k => match k with
  | _ => .int
abbrev wsJ90 : List Cond := u_ws RJ9 TJ9 0
theorem nmJ9 : ∀ a, a < 0 → ∀ b, b < 0 → a ≠ b → (TJ9 a).2.1 ≠ (TJ9 b).2.1 := by decide +kernel
theorem tyJ9_ok : ∀ k, k < 0 → parseFieldDescriptor (TJ9 k).2.2.1 = some (tyJ9 k) := by decide +kernel
abbrev cJ9_abs_0f7a4 : ByteArray := prog_24_method_59_code
def yJ9_abs_0f7a4 : MethodName := ⟨RJ9, "abs", "(I)I"⟩
abbrev cJ9_max_7cf53 : ByteArray := prog_24_method_65_code
def yJ9_max_7cf53 : MethodName := ⟨RJ9, "max", "(II)I"⟩
abbrev cJ9_min_7cf53 : ByteArray := prog_24_method_69_code
def yJ9_min_7cf53 : MethodName := ⟨RJ9, "min", "(II)I"⟩
def RJxd2413 : String := "java/lang/Number"
def TJxd2413 : u_T := fun k => match k with
  | _ => ("", "", "", false)
def tyJxd2413 : Nat → FieldType := fun k => match k with
  | _ => .int
abbrev wsJxd24130 : List Cond := u_ws RJxd2413 TJxd2413 0
theorem nmJxd2413 : ∀ a, a < 0 → ∀ b, b < 0 → a ≠ b → (TJxd2413 a).2.1 ≠ (TJxd2413 b).2.1 := by decide +kernel
theorem tyJxd2413_ok : ∀ k, k < 0 → parseFieldDescriptor (TJxd2413 k).2.2.1 = some (tyJxd2413 k) := by decide +kernel
def RJ0 : String := "java/lang/String"
def TJ0 : u_T := fun k => match k with
  | 0 => ("java/lang/String", "value", "[B", true)
  | 1 => ("java/lang/String", "coder", "B", true)
  | 2 => ("java/lang/String", "hash", "I", false)
  | _ => ("java/lang/String", "hashIsZero", "Z", false)
def tyJ0 : Nat → FieldType := fun k => match k with
  | 0 => .array .byte
  | 1 => .byte
  | 2 => .int
  | _ => .boolean
abbrev wsJ00 : List Cond := u_ws RJ0 TJ0 4
theorem nmJ0 : ∀ a, a < 4 → ∀ b, b < 4 → a ≠ b → (TJ0 a).2.1 ≠ (TJ0 b).2.1 := by decide +kernel
theorem tyJ0_ok : ∀ k, k < 4 → parseFieldDescriptor (TJ0 k).2.2.1 = some (tyJ0 k) := by decide +kernel
abbrev cJ0_init_81219 : ByteArray := prog_27_method_53_code
def yJ0_init_81219 : MethodName := ⟨RJ0, "<init>", "(Ljava/lang/StringBuilder;)V"⟩
abbrev cJ0_length_8abf5 : ByteArray := prog_27_method_54_code
def yJ0_length_8abf5 : MethodName := ⟨RJ0, "length", "()I"⟩
abbrev cJ0_isEmpty_aae02 : ByteArray := prog_27_method_55_code
def yJ0_isEmpty_aae02 : MethodName := ⟨RJ0, "isEmpty", "()Z"⟩
abbrev cJ0_charAt_5068e : ByteArray := prog_27_method_56_code
def yJ0_charAt_5068e : MethodName := ⟨RJ0, "charAt", "(I)C"⟩
abbrev cJ0_indexOf_0f7a4 : ByteArray := prog_27_method_79_code
def yJ0_indexOf_0f7a4 : MethodName := ⟨RJ0, "indexOf", "(I)I"⟩
abbrev cJ0_indexOf_7cf53 : ByteArray := prog_27_method_80_code
def yJ0_indexOf_7cf53 : MethodName := ⟨RJ0, "indexOf", "(II)I"⟩
abbrev cJ0_getBytes_840e7 : ByteArray := prog_27_method_147_code
def yJ0_getBytes_840e7 : MethodName := ⟨RJ0, "getBytes", "([BIB)V"⟩
abbrev cJ0_init_db425 : ByteArray := prog_27_method_150_code
def yJ0_init_db425 : MethodName := ⟨RJ0, "<init>", "(Ljava/lang/AbstractStringBuilder;Ljava/lang/Void;)V"⟩
abbrev cJ0_coder_7d493 : ByteArray := prog_27_method_152_code
def yJ0_coder_7d493 : MethodName := ⟨RJ0, "coder", "()B"⟩
abbrev cJ0_isLatin1_aae02 : ByteArray := prog_27_method_154_code
def yJ0_isLatin1_aae02 : MethodName := ⟨RJ0, "isLatin1", "()Z"⟩
abbrev cJ0_checkIndex_df160 : ByteArray := prog_27_method_155_code
def yJ0_checkIndex_df160 : MethodName := ⟨RJ0, "checkIndex", "(II)V"⟩
abbrev cJ0_checkBoundsOffCount_cabcc : ByteArray := prog_27_method_157_code
def yJ0_checkBoundsOffCount_cabcc : MethodName := ⟨RJ0, "checkBoundsOffCount", "(III)I"⟩
abbrev cJ0_checkBoundsBeginEnd_23922 : ByteArray := prog_27_method_158_code
def yJ0_checkBoundsBeginEnd_23922 : MethodName := ⟨RJ0, "checkBoundsBeginEnd", "(III)V"⟩
def RJ4 : String := "java/lang/StringBuilder"
def TJ4 : u_T := fun k => match k with
  | 0 => ("java/lang/AbstractStringBuilder", "value", "[B", false)
  | 1 => ("java/lang/AbstractStringBuilder", "coder", "B", false)
  | 2 => ("java/lang/AbstractStringBuilder", "maybeLatin1", "Z", false)
  | _ => ("java/lang/AbstractStringBuilder", "count", "I", false)
def tyJ4 : Nat → FieldType := fun k => match k with
  | 0 => .array .byte
  | 1 => .byte
  | 2 => .boolean
  | _ => .int
abbrev wsJ40 : List Cond := u_ws RJ4 TJ4 4
theorem nmJ4 : ∀ a, a < 4 → ∀ b, b < 4 → a ≠ b → (TJ4 a).2.1 ≠ (TJ4 b).2.1 := by decide +kernel
theorem tyJ4_ok : ∀ k, k < 4 → parseFieldDescriptor (TJ4 k).2.2.1 = some (tyJ4 k) := by decide +kernel
abbrev cJ4_init_da8c8 : ByteArray := prog_28_method_1_code
def yJ4_init_da8c8 : MethodName := ⟨RJ4, "<init>", "()V"⟩
abbrev cJ4_append_15ec4 : ByteArray := prog_28_method_7_code
def yJ4_append_15ec4 : MethodName := ⟨RJ4, "append", "(Ljava/lang/String;)Ljava/lang/StringBuilder;"⟩
abbrev cJ4_append_cf468 : ByteArray := prog_28_method_14_code
def yJ4_append_cf468 : MethodName := ⟨RJ4, "append", "(C)Ljava/lang/StringBuilder;"⟩
abbrev cJ4_append_bf812 : ByteArray := prog_28_method_15_code
def yJ4_append_bf812 : MethodName := ⟨RJ4, "append", "(I)Ljava/lang/StringBuilder;"⟩
abbrev cJ4_toString_0e30d : ByteArray := prog_28_method_42_code
def yJ4_toString_0e30d : MethodName := ⟨RJ4, "toString", "()Ljava/lang/String;"⟩
abbrev cJ4_length_8abf5 : ByteArray := prog_28_method_93_code
def yJ4_length_8abf5 : MethodName := ⟨RJ4, "length", "()I"⟩
def RJ1 : String := "java/lang/StringLatin1"
def TJ1 : u_T := fun k => match k with
  | _ => ("", "", "", false)
def tyJ1 : Nat → FieldType := fun k => match k with
  | _ => .int
abbrev wsJ10 : List Cond := u_ws RJ1 TJ1 0
theorem nmJ1 : ∀ a, a < 0 → ∀ b, b < 0 → a ≠ b → (TJ1 a).2.1 ≠ (TJ1 b).2.1 := by decide +kernel
theorem tyJ1_ok : ∀ k, k < 0 → parseFieldDescriptor (TJ1 k).2.2.1 = some (tyJ1 k) := by decide +kernel
abbrev cJ1_charAt_3b067 : ByteArray := prog_29_method_2_code
def yJ1_charAt_3b067 : MethodName := ⟨RJ1, "charAt", "([BI)C"⟩
abbrev cJ1_canEncode_fc78d : ByteArray := prog_29_method_3_code
def yJ1_canEncode_fc78d : MethodName := ⟨RJ1, "canEncode", "(C)Z"⟩
abbrev cJ1_canEncode_9a6ad : ByteArray := prog_29_method_4_code
def yJ1_canEncode_9a6ad : MethodName := ⟨RJ1, "canEncode", "(I)Z"⟩
abbrev cJ1_indexOf_4cfef : ByteArray := prog_29_method_22_code
def yJ1_indexOf_4cfef : MethodName := ⟨RJ1, "indexOf", "([BIII)I"⟩
abbrev cJ1_indexOfChar_4cfef : ByteArray := prog_29_method_23_code
def yJ1_indexOfChar_4cfef : MethodName := ⟨RJ1, "indexOfChar", "([BIII)I"⟩
abbrev cJ1_inflate_0e8fd : ByteArray := prog_29_method_50_code
def yJ1_inflate_0e8fd : MethodName := ⟨RJ1, "inflate", "([BI[BII)V"⟩
def RJ2 : String := "java/lang/StringUTF16"
def TJ2 : u_T := fun k => match k with
  | _ => ("", "", "", false)
def tyJ2 : Nat → FieldType := fun k => match k with
  | _ => .int
abbrev wsJ20 : List Cond := u_ws RJ2 TJ2 0
theorem nmJ2 : ∀ a, a < 0 → ∀ b, b < 0 → a ≠ b → (TJ2 a).2.1 ≠ (TJ2 b).2.1 := by decide +kernel
theorem tyJ2_ok : ∀ k, k < 0 → parseFieldDescriptor (TJ2 k).2.2.1 = some (tyJ2 k) := by decide +kernel
abbrev cJ2_newBytesFor_77867 : ByteArray := prog_30_method_2_code
def yJ2_newBytesFor_77867 : MethodName := ⟨RJ2, "newBytesFor", "(I)[B"⟩
abbrev cJ2_newBytesLength_0f7a4 : ByteArray := prog_30_method_3_code
def yJ2_newBytesLength_0f7a4 : MethodName := ⟨RJ2, "newBytesLength", "(I)I"⟩
abbrev cJ2_putChar_b72d1 : ByteArray := prog_30_method_4_code
def yJ2_putChar_b72d1 : MethodName := ⟨RJ2, "putChar", "([BII)V"⟩
abbrev cJ2_getChar_3b067 : ByteArray := prog_30_method_5_code
def yJ2_getChar_3b067 : MethodName := ⟨RJ2, "getChar", "([BI)C"⟩
abbrev cJ2_length_9d52b : ByteArray := prog_30_method_6_code
def yJ2_length_9d52b : MethodName := ⟨RJ2, "length", "([B)I"⟩
abbrev cJ2_coderFromArrayLen_85cad : ByteArray := prog_30_method_15_code
def yJ2_coderFromArrayLen_85cad : MethodName := ⟨RJ2, "coderFromArrayLen", "([BI)B"⟩
abbrev cJ2_compress_39247 : ByteArray := prog_30_method_17_code
def yJ2_compress_39247 : MethodName := ⟨RJ2, "compress", "([BII)[B"⟩
abbrev cJ2_compress_5af95 : ByteArray := prog_30_method_22_code
def yJ2_compress_5af95 : MethodName := ⟨RJ2, "compress", "([BI[BII)I"⟩
abbrev cJ2_indexOf_4cfef : ByteArray := prog_30_method_40_code
def yJ2_indexOf_4cfef : MethodName := ⟨RJ2, "indexOf", "([BIII)I"⟩
abbrev cJ2_indexOfChar_4cfef : ByteArray := prog_30_method_47_code
def yJ2_indexOfChar_4cfef : MethodName := ⟨RJ2, "indexOfChar", "([BIII)I"⟩
abbrev cJ2_indexOfCharUnsafe_4cfef : ByteArray := prog_30_method_48_code
def yJ2_indexOfCharUnsafe_4cfef : MethodName := ⟨RJ2, "indexOfCharUnsafe", "([BIII)I"⟩
abbrev cJ2_indexOfSupplementary_4cfef : ByteArray := prog_30_method_49_code
def yJ2_indexOfSupplementary_4cfef : MethodName := ⟨RJ2, "indexOfSupplementary", "([BIII)I"⟩
abbrev cJ2_putCharSB_b72d1 : ByteArray := prog_30_method_71_code
def yJ2_putCharSB_b72d1 : MethodName := ⟨RJ2, "putCharSB", "([BII)V"⟩
abbrev cJ2_getChars_46870 : ByteArray := prog_30_method_77_code
def yJ2_getChars_46870 : MethodName := ⟨RJ2, "getChars", "(III[B)I"⟩
abbrev cJ2_putCharsAt_cd4e5 : ByteArray := prog_30_method_81_code
def yJ2_putCharsAt_cd4e5 : MethodName := ⟨RJ2, "putCharsAt", "([BICCCC)I"⟩
abbrev cJ2_charAt_3b067 : ByteArray := prog_30_method_83_code
def yJ2_charAt_3b067 : MethodName := ⟨RJ2, "charAt", "([BI)C"⟩
abbrev cJ2_inflate_0e8fd : ByteArray := prog_30_method_86_code
def yJ2_inflate_0e8fd : MethodName := ⟨RJ2, "inflate", "([BI[BII)V"⟩
abbrev cJ2_getChars_ba4f3 : ByteArray := prog_30_method_89_code
def yJ2_getChars_ba4f3 : MethodName := ⟨RJ2, "getChars", "(II[B)I"⟩
abbrev cJ2_checkIndex_2214a : ByteArray := prog_30_method_91_code
def yJ2_checkIndex_2214a : MethodName := ⟨RJ2, "checkIndex", "(I[B)V"⟩
abbrev cJ2_checkBoundsBeginEnd_d044e : ByteArray := prog_30_method_93_code
def yJ2_checkBoundsBeginEnd_d044e : MethodName := ⟨RJ2, "checkBoundsBeginEnd", "(II[B)V"⟩
abbrev cJ2_checkBoundsOffCount_d044e : ByteArray := prog_30_method_94_code
def yJ2_checkBoundsOffCount_d044e : MethodName := ⟨RJ2, "checkBoundsOffCount", "(II[B)V"⟩
def RJ10 : String := "java/lang/System"
def TJ10 : u_T := fun k => match k with
  | _ => ("", "", "", false)
def tyJ10 : Nat → FieldType := fun k => match k with
  | _ => .int
abbrev wsJ100 : List Cond := u_ws RJ10 TJ10 0
theorem nmJ10 : ∀ a, a < 0 → ∀ b, b < 0 → a ≠ b → (TJ10 a).2.1 ≠ (TJ10 b).2.1 := by decide +kernel
theorem tyJ10_ok : ∀ k, k < 0 → parseFieldDescriptor (TJ10 k).2.2.1 = some (tyJ10 k) := by decide +kernel
def RJxfd54e : String := "java/lang/constant/Constable"
def TJxfd54e : u_T := fun k => match k with
  | _ => ("", "", "", false)
def tyJxfd54e : Nat → FieldType := fun k => match k with
  | _ => .int
abbrev wsJxfd54e0 : List Cond := u_ws RJxfd54e TJxfd54e 0
theorem nmJxfd54e : ∀ a, a < 0 → ∀ b, b < 0 → a ≠ b → (TJxfd54e a).2.1 ≠ (TJxfd54e b).2.1 := by decide +kernel
theorem tyJxfd54e_ok : ∀ k, k < 0 → parseFieldDescriptor (TJxfd54e k).2.2.1 = some (tyJxfd54e k) := by decide +kernel
def RJx3cf43 : String := "java/lang/constant/ConstantDesc"
def TJx3cf43 : u_T := fun k => match k with
  | _ => ("", "", "", false)
def tyJx3cf43 : Nat → FieldType := fun k => match k with
  | _ => .int
abbrev wsJx3cf430 : List Cond := u_ws RJx3cf43 TJx3cf43 0
theorem nmJx3cf43 : ∀ a, a < 0 → ∀ b, b < 0 → a ≠ b → (TJx3cf43 a).2.1 ≠ (TJx3cf43 b).2.1 := by decide +kernel
theorem tyJx3cf43_ok : ∀ k, k < 0 → parseFieldDescriptor (TJx3cf43 k).2.2.1 = some (tyJx3cf43 k) := by decide +kernel
def RJxa1e45 : String := "java/util/AbstractCollection"
def TJxa1e45 : u_T := fun k => match k with
  | _ => ("", "", "", false)
def tyJxa1e45 : Nat → FieldType := fun k => match k with
  | _ => .int
abbrev wsJxa1e450 : List Cond := u_ws RJxa1e45 TJxa1e45 0
theorem nmJxa1e45 : ∀ a, a < 0 → ∀ b, b < 0 → a ≠ b → (TJxa1e45 a).2.1 ≠ (TJxa1e45 b).2.1 := by decide +kernel
theorem tyJxa1e45_ok : ∀ k, k < 0 → parseFieldDescriptor (TJxa1e45 k).2.2.1 = some (tyJxa1e45 k) := by decide +kernel
abbrev cJxa1e45_init_da8c8 : ByteArray := prog_35_method_1_code
def yJxa1e45_init_da8c8 : MethodName := ⟨RJxa1e45, "<init>", "()V"⟩
def RJxc12de : String := "java/util/AbstractList"
def TJxc12de : u_T := fun k => match k with
  | _ => ("", "", "", false)
def tyJxc12de : Nat → FieldType := fun k => match k with
  | _ => .int
abbrev wsJxc12de0 : List Cond := u_ws RJxc12de TJxc12de 0
theorem nmJxc12de : ∀ a, a < 0 → ∀ b, b < 0 → a ≠ b → (TJxc12de a).2.1 ≠ (TJxc12de b).2.1 := by decide +kernel
theorem tyJxc12de_ok : ∀ k, k < 0 → parseFieldDescriptor (TJxc12de k).2.2.1 = some (tyJxc12de k) := by decide +kernel
abbrev cJxc12de_init_da8c8 : ByteArray := prog_36_method_1_code
def yJxc12de_init_da8c8 : MethodName := ⟨RJxc12de, "<init>", "()V"⟩
def RJx4a65c : String := "java/util/ArrayList"
def TJx4a65c : u_T := fun k => match k with
  | 0 => ("java/util/AbstractList", "modCount", "I", false)
  | 1 => ("java/util/ArrayList", "elementData", "[Ljava/lang/Object;", false)
  | _ => ("java/util/ArrayList", "size", "I", false)
def tyJx4a65c : Nat → FieldType := fun k => match k with
  | 0 => .int
  | 1 => .array (.object "java/lang/Object")
  | _ => .int
abbrev wsJx4a65c0 : List Cond := u_ws RJx4a65c TJx4a65c 3
theorem nmJx4a65c : ∀ a, a < 3 → ∀ b, b < 3 → a ≠ b → (TJx4a65c a).2.1 ≠ (TJx4a65c b).2.1 := by decide +kernel
theorem tyJx4a65c_ok : ∀ k, k < 3 → parseFieldDescriptor (TJx4a65c k).2.2.1 = some (tyJx4a65c k) := by decide +kernel
abbrev cJx4a65c_init_da8c8 : ByteArray := prog_37_method_2_code
def yJx4a65c_init_da8c8 : MethodName := ⟨RJx4a65c, "<init>", "()V"⟩
abbrev cJx4a65c_grow_92f84 : ByteArray := prog_37_method_6_code
def yJx4a65c_grow_92f84 : MethodName := ⟨RJx4a65c, "grow", "(I)[Ljava/lang/Object;"⟩
abbrev cJx4a65c_grow_d5877 : ByteArray := prog_37_method_7_code
def yJx4a65c_grow_d5877 : MethodName := ⟨RJx4a65c, "grow", "()[Ljava/lang/Object;"⟩
abbrev cJx4a65c_size_8abf5 : ByteArray := prog_37_method_8_code
def yJx4a65c_size_8abf5 : MethodName := ⟨RJx4a65c, "size", "()I"⟩
abbrev cJx4a65c_elementData_915e3 : ByteArray := prog_37_method_18_code
def yJx4a65c_elementData_915e3 : MethodName := ⟨RJx4a65c, "elementData", "(I)Ljava/lang/Object;"⟩
abbrev cJx4a65c_get_915e3 : ByteArray := prog_37_method_20_code
def yJx4a65c_get_915e3 : MethodName := ⟨RJx4a65c, "get", "(I)Ljava/lang/Object;"⟩
abbrev cJx4a65c_add_72be8 : ByteArray := prog_37_method_24_code
def yJx4a65c_add_72be8 : MethodName := ⟨RJx4a65c, "add", "(Ljava/lang/Object;[Ljava/lang/Object;I)V"⟩
abbrev cJx4a65c_add_9ea2d : ByteArray := prog_37_method_25_code
def yJx4a65c_add_9ea2d : MethodName := ⟨RJx4a65c, "add", "(Ljava/lang/Object;)Z"⟩
def RJ7 : String := "java/util/Arrays"
def TJ7 : u_T := fun k => match k with
  | _ => ("", "", "", false)
def tyJ7 : Nat → FieldType := fun k => match k with
  | _ => .int
abbrev wsJ70 : List Cond := u_ws RJ7 TJ7 0
theorem nmJ7 : ∀ a, a < 0 → ∀ b, b < 0 → a ≠ b → (TJ7 a).2.1 ≠ (TJ7 b).2.1 := by decide +kernel
theorem tyJ7_ok : ∀ k, k < 0 → parseFieldDescriptor (TJ7 k).2.2.1 = some (tyJ7 k) := by decide +kernel
abbrev cJ7_fill_53178 : ByteArray := prog_38_method_103_code
def yJ7_fill_53178 : MethodName := ⟨RJ7, "fill", "([II)V"⟩
abbrev cJ7_copyOf_1904c : ByteArray := prog_38_method_119_code
def yJ7_copyOf_1904c : MethodName := ⟨RJ7, "copyOf", "([Ljava/lang/Object;I)[Ljava/lang/Object;"⟩
abbrev cJ7_copyOf_6403c : ByteArray := prog_38_method_120_code
def yJ7_copyOf_6403c : MethodName := ⟨RJ7, "copyOf", "([Ljava/lang/Object;ILjava/lang/Class;)[Ljava/lang/Object;"⟩
abbrev cJ7_copyOf_9075b : ByteArray := prog_38_method_121_code
def yJ7_copyOf_9075b : MethodName := ⟨RJ7, "copyOf", "([BI)[B"⟩
abbrev cJ7_checkLength_df160 : ByteArray := prog_38_method_131_code
def yJ7_checkLength_df160 : MethodName := ⟨RJ7, "checkLength", "(II)V"⟩
abbrev cJ7_copyOfRange_39247 : ByteArray := prog_38_method_132_code
def yJ7_copyOfRange_39247 : MethodName := ⟨RJ7, "copyOfRange", "([BII)[B"⟩
abbrev cJ7_copyOfRangeByte_39247 : ByteArray := prog_38_method_133_code
def yJ7_copyOfRangeByte_39247 : MethodName := ⟨RJ7, "copyOfRangeByte", "([BII)[B"⟩
def RJx5ef63 : String := "java/util/Collection"
def TJx5ef63 : u_T := fun k => match k with
  | _ => ("", "", "", false)
def tyJx5ef63 : Nat → FieldType := fun k => match k with
  | _ => .int
abbrev wsJx5ef630 : List Cond := u_ws RJx5ef63 TJx5ef63 0
theorem nmJx5ef63 : ∀ a, a < 0 → ∀ b, b < 0 → a ≠ b → (TJx5ef63 a).2.1 ≠ (TJx5ef63 b).2.1 := by decide +kernel
theorem tyJx5ef63_ok : ∀ k, k < 0 → parseFieldDescriptor (TJx5ef63 k).2.2.1 = some (tyJx5ef63 k) := by decide +kernel
def RJxbd725 : String := "java/util/List"
def TJxbd725 : u_T := fun k => match k with
  | _ => ("", "", "", false)
def tyJxbd725 : Nat → FieldType := fun k => match k with
  | _ => .int
abbrev wsJxbd7250 : List Cond := u_ws RJxbd725 TJxbd725 0
theorem nmJxbd725 : ∀ a, a < 0 → ∀ b, b < 0 → a ≠ b → (TJxbd725 a).2.1 ≠ (TJxbd725 b).2.1 := by decide +kernel
theorem tyJxbd725_ok : ∀ k, k < 0 → parseFieldDescriptor (TJxbd725 k).2.2.1 = some (tyJxbd725 k) := by decide +kernel
def RJ15 : String := "java/util/Objects"
def TJ15 : u_T := fun k => match k with
  | _ => ("", "", "", false)
def tyJ15 : Nat → FieldType := fun k => match k with
  | _ => .int
abbrev wsJ150 : List Cond := u_ws RJ15 TJ15 0
theorem nmJ15 : ∀ a, a < 0 → ∀ b, b < 0 → a ≠ b → (TJ15 a).2.1 ≠ (TJ15 b).2.1 := by decide +kernel
theorem tyJ15_ok : ∀ k, k < 0 → parseFieldDescriptor (TJ15 k).2.2.1 = some (tyJ15 k) := by decide +kernel
abbrev cJ15_checkIndex_7cf53 : ByteArray := prog_41_method_17_code
def yJ15_checkIndex_7cf53 : MethodName := ⟨RJ15, "checkIndex", "(II)I"⟩
def RJxf0a74 : String := "java/util/RandomAccess"
def TJxf0a74 : u_T := fun k => match k with
  | _ => ("", "", "", false)
def tyJxf0a74 : Nat → FieldType := fun k => match k with
  | _ => .int
abbrev wsJxf0a740 : List Cond := u_ws RJxf0a74 TJxf0a74 0
theorem nmJxf0a74 : ∀ a, a < 0 → ∀ b, b < 0 → a ≠ b → (TJxf0a74 a).2.1 ≠ (TJxf0a74 b).2.1 := by decide +kernel
theorem tyJxf0a74_ok : ∀ k, k < 0 → parseFieldDescriptor (TJxf0a74 k).2.2.1 = some (tyJxf0a74 k) := by decide +kernel
def RJxa66e6 : String := "java/util/SequencedCollection"
def TJxa66e6 : u_T := fun k => match k with
  | _ => ("", "", "", false)
def tyJxa66e6 : Nat → FieldType := fun k => match k with
  | _ => .int
abbrev wsJxa66e60 : List Cond := u_ws RJxa66e6 TJxa66e6 0
theorem nmJxa66e6 : ∀ a, a < 0 → ∀ b, b < 0 → a ≠ b → (TJxa66e6 a).2.1 ≠ (TJxa66e6 b).2.1 := by decide +kernel
theorem tyJxa66e6_ok : ∀ k, k < 0 → parseFieldDescriptor (TJxa66e6 k).2.2.1 = some (tyJxa66e6 k) := by decide +kernel
def RJ8 : String := "jdk/internal/util/ArraysSupport"
def TJ8 : u_T := fun k => match k with
  | _ => ("", "", "", false)
def tyJ8 : Nat → FieldType := fun k => match k with
  | _ => .int
abbrev wsJ80 : List Cond := u_ws RJ8 TJ8 0
theorem nmJ8 : ∀ a, a < 0 → ∀ b, b < 0 → a ≠ b → (TJ8 a).2.1 ≠ (TJ8 b).2.1 := by decide +kernel
theorem tyJ8_ok : ∀ k, k < 0 → parseFieldDescriptor (TJ8 k).2.2.1 = some (tyJ8 k) := by decide +kernel
abbrev cJ8_newLength_cabcc : ByteArray := prog_44_method_27_code
def yJ8_newLength_cabcc : MethodName := ⟨RJ8, "newLength", "(III)I"⟩
abbrev cJ8_hugeLength_7cf53 : ByteArray := prog_44_method_28_code
def yJ8_hugeLength_7cf53 : MethodName := ⟨RJ8, "hugeLength", "(II)I"⟩
def RJ3 : String := "jdk/internal/util/Preconditions"
def TJ3 : u_T := fun k => match k with
  | _ => ("", "", "", false)
def tyJ3 : Nat → FieldType := fun k => match k with
  | _ => .int
abbrev wsJ30 : List Cond := u_ws RJ3 TJ3 0
theorem nmJ3 : ∀ a, a < 0 → ∀ b, b < 0 → a ≠ b → (TJ3 a).2.1 ≠ (TJ3 b).2.1 := by decide +kernel
theorem tyJ3_ok : ∀ k, k < 0 → parseFieldDescriptor (TJ3 k).2.2.1 = some (tyJ3 k) := by decide +kernel
abbrev cJ3_checkIndex_8e157 : ByteArray := prog_45_method_11_code
def yJ3_checkIndex_8e157 : MethodName := ⟨RJ3, "checkIndex", "(IILjava/util/function/BiFunction;)I"⟩
abbrev cJ3_checkFromToIndex_8c36e : ByteArray := prog_45_method_12_code
def yJ3_checkFromToIndex_8c36e : MethodName := ⟨RJ3, "checkFromToIndex", "(IIILjava/util/function/BiFunction;)I"⟩
abbrev cJ3_checkFromIndexSize_8c36e : ByteArray := prog_45_method_13_code
def yJ3_checkFromIndexSize_8c36e : MethodName := ⟨RJ3, "checkFromIndexSize", "(IIILjava/util/function/BiFunction;)I"⟩
def RL : String := "RateGateLaw"
abbrev cL_type : ByteArray := method_3_code
def yL_type : MethodName := ⟨RL, "type", "(LRateGate;C[J)I"⟩
abbrev cL_fault : ByteArray := method_4_code
def yL_fault : MethodName := ⟨RL, "fault", "(LRateGate;I[J)I"⟩
abbrev cL_pass : ByteArray := method_5_code
def yL_pass : MethodName := ⟨RL, "pass", "(LRateGate;I[J)I"⟩
abbrev cL_quota : ByteArray := method_6_code
def yL_quota : MethodName := ⟨RL, "quota", "(LRateGate;III[J)I"⟩
abbrev cL_carrier : ByteArray := method_7_code
def yL_carrier : MethodName := ⟨RL, "carrier", "(LRateGate;IZI[J)I"⟩
abbrev cL_tariff : ByteArray := method_8_code
def yL_tariff : MethodName := ⟨RL, "tariff", "(LRateGate;IIII[J)I"⟩
abbrev cL_call : ByteArray := method_9_code
def yL_call : MethodName := ⟨RL, "call", "(LRateGate;[J)I"⟩
abbrev cL_price : ByteArray := method_10_code
def yL_price : MethodName := ⟨RL, "price", "(LRateGate;I[J)I"⟩
abbrev cL_fixed : ByteArray := method_11_code
def yL_fixed : MethodName := ⟨RL, "fixed", "(LRateGate;I[J)I"⟩
abbrev cL_left : ByteArray := method_12_code
def yL_left : MethodName := ⟨RL, "left", "(LRateGate;I[J)I"⟩
abbrev cL_leftByLog : ByteArray := method_13_code
def yL_leftByLog : MethodName := ⟨RL, "leftByLog", "(LRateGate;I[J)I"⟩
abbrev cL_circuit : ByteArray := method_14_code
def yL_circuit : MethodName := ⟨RL, "circuit", "(LRateGate;I[J)I"⟩
abbrev cL_tries : ByteArray := method_15_code
def yL_tries : MethodName := ⟨RL, "tries", "(LRateGate;I[J)I"⟩
abbrev cL_book : ByteArray := method_16_code
def yL_book : MethodName := ⟨RL, "book", "(LRateGate;I[J)I"⟩
abbrev cL_weigh : ByteArray := method_17_code
def yL_weigh : MethodName := ⟨RL, "weigh", "(LRateGate;II[J)I"⟩
abbrev cL_cancel : ByteArray := method_18_code
def yL_cancel : MethodName := ⟨RL, "cancel", "(LRateGate;I[J)I"⟩
abbrev cL_state : ByteArray := method_19_code
def yL_state : MethodName := ⟨RL, "state", "(LRateGate;I[J)I"⟩
abbrev cL_cost : ByteArray := method_20_code
def yL_cost : MethodName := ⟨RL, "cost", "(LRateGate;I[J)I"⟩
abbrev cL_bill : ByteArray := method_21_code
def yL_bill : MethodName := ⟨RL, "bill", "(LRateGate;I[J)I"⟩
abbrev cL_close : ByteArray := method_22_code
def yL_close : MethodName := ⟨RL, "close", "(LRateGate;I[J)I"⟩
abbrev cL_billed : ByteArray := method_23_code
def yL_billed : MethodName := ⟨RL, "billed", "(LRateGate;I[J)I"⟩
abbrev cL_law : ByteArray := code
def yL_law : MethodName := ⟨RL, "law", "([I)Z"⟩
abbrev vwCl : List vw_C := [(RJ0, TJ0, 4), (RJ4, TJ4, 4), (RJx4a65c, TJx4a65c, 3), (RX0, TX0, 6), (RX1, TX1, 7), (RX2, TX2, 4), (RX3, TX3, 8), (RX4, TX4, 5), (RX5, TX5, 7), (RX6, TX6, 3), (RX7, TX7, 7), (RX8, TX8, 47)]

