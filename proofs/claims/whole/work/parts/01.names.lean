def RX0 : String := "SproutCoins$Market"
def TX0 : u_T := fun k => match k with
  | 0 => ("SproutCoins$Market", "kindOf", "[I", true)
  | 1 => ("SproutCoins$Market", "ownerOf", "[I", true)
  | 2 => ("SproutCoins$Market", "sizeOf", "[I", true)
  | 3 => ("SproutCoins$Market", "stateOf", "[I", true)
  | 4 => ("SproutCoins$Market", "soilOf", "[I", true)
  | 5 => ("SproutCoins$Market", "priceOf", "[I", true)
  | 6 => ("SproutCoins$Market", "debtorOf", "[I", true)
  | 7 => ("SproutCoins$Market", "lenderOf", "[I", true)
  | 8 => ("SproutCoins$Market", "owedOf", "[I", true)
  | 9 => ("SproutCoins$Market", "dueOf", "[I", true)
  | 10 => ("SproutCoins$Market", "paidOf", "[I", true)
  | 11 => ("SproutCoins$Market", "value", "[I", true)
  | 12 => ("SproutCoins$Market", "reach", "[I", true)
  | 13 => ("SproutCoins$Market", "coins", "I", false)
  | 14 => ("SproutCoins$Market", "loans", "I", false)
  | 15 => ("SproutCoins$Market", "month", "I", false)
  | _ => ("SproutCoins$Market", "lacked", "I", false)
def tyX0 : Nat → FieldType := fun k => match k with
  | 0 => .array .int
  | 1 => .array .int
  | 2 => .array .int
  | 3 => .array .int
  | 4 => .array .int
  | 5 => .array .int
  | 6 => .array .int
  | 7 => .array .int
  | 8 => .array .int
  | 9 => .array .int
  | 10 => .array .int
  | 11 => .array .int
  | 12 => .array .int
  | 13 => .int
  | 14 => .int
  | 15 => .int
  | _ => .int
theorem nmX0 : ∀ a, a < 17 → ∀ b, b < 17 → a ≠ b → (TX0 a).2.1 ≠ (TX0 b).2.1 := by decide +kernel
theorem tyX0_ok : ∀ k, k < 17 → parseFieldDescriptor (TX0 k).2.2.1 = some (tyX0 k) := by decide +kernel
abbrev cX0_init : ByteArray := prog_2_method_1_code
def yX0_init : MethodName := ⟨RX0, "<init>", "()V"⟩
abbrev cX0_become : ByteArray := prog_2_method_2_code
def yX0_become : MethodName := ⟨RX0, "become", "(LSproutCoins$Market;)V"⟩
abbrev cX0_isUnder : ByteArray := prog_2_method_3_code
def yX0_isUnder : MethodName := ⟨RX0, "isUnder", "(II)Z"⟩
abbrev cX0_shrinks : ByteArray := prog_2_method_4_code
def yX0_shrinks : MethodName := ⟨RX0, "shrinks", "(II)I"⟩
abbrev cX0_yields : ByteArray := prog_2_method_5_code
def yX0_yields : MethodName := ⟨RX0, "yields", "(II)I"⟩
abbrev cX0_turns : ByteArray := prog_2_method_6_code
def yX0_turns : MethodName := ⟨RX0, "turns", "(I)Z"⟩
abbrev cX0_addCoin : ByteArray := prog_2_method_7_code
def yX0_addCoin : MethodName := ⟨RX0, "addCoin", "(IIII)I"⟩
abbrev cX0_exchange : ByteArray := prog_2_method_8_code
def yX0_exchange : MethodName := ⟨RX0, "exchange", "(II)V"⟩
abbrev cX0_exchangeIn : ByteArray := prog_2_method_9_code
def yX0_exchangeIn : MethodName := ⟨RX0, "exchangeIn", "([III)V"⟩
abbrev cX0_plantSet : ByteArray := prog_2_method_10_code
def yX0_plantSet : MethodName := ⟨RX0, "plantSet", "(I)V"⟩
abbrev cX0_season : ByteArray := prog_2_method_11_code
def yX0_season : MethodName := ⟨RX0, "season", "()I"⟩
abbrev cX0_isPlantingTime : ByteArray := prog_2_method_12_code
def yX0_isPlantingTime : MethodName := ⟨RX0, "isPlantingTime", "()Z"⟩
abbrev cX0_yieldOf : ByteArray := prog_2_method_13_code
def yX0_yieldOf : MethodName := ⟨RX0, "yieldOf", "(I)I"⟩
abbrev cX0_worthOf : ByteArray := prog_2_method_14_code
def yX0_worthOf : MethodName := ⟨RX0, "worthOf", "(I)I"⟩
abbrev cX0_howMany : ByteArray := prog_2_method_15_code
def yX0_howMany : MethodName := ⟨RX0, "howMany", "(I)I"⟩
abbrev cX0_sizeOfAll : ByteArray := prog_2_method_16_code
def yX0_sizeOfAll : MethodName := ⟨RX0, "sizeOfAll", "()I"⟩
abbrev cX0_isSoundOf : ByteArray := prog_2_method_17_code
def yX0_isSoundOf : MethodName := ⟨RX0, "isSoundOf", "(II)Z"⟩
abbrev cX0_soundOf : ByteArray := prog_2_method_18_code
def yX0_soundOf : MethodName := ⟨RX0, "soundOf", "(I)I"⟩
abbrev cX0_worthOfSet : ByteArray := prog_2_method_19_code
def yX0_worthOfSet : MethodName := ⟨RX0, "worthOfSet", "(I)I"⟩
abbrev cX0_purseOf : ByteArray := prog_2_method_20_code
def yX0_purseOf : MethodName := ⟨RX0, "purseOf", "(I)I"⟩
abbrev cX0_worthOfAll : ByteArray := prog_2_method_21_code
def yX0_worthOfAll : MethodName := ⟨RX0, "worthOfAll", "()I"⟩
abbrev cX0_richest : ByteArray := prog_2_method_22_code
def yX0_richest : MethodName := ⟨RX0, "richest", "()I"⟩
abbrev cX0_ownerOfMostBlue : ByteArray := prog_2_method_23_code
def yX0_ownerOfMostBlue : MethodName := ⟨RX0, "ownerOfMostBlue", "()I"⟩
abbrev cX0_boilGreatest : ByteArray := prog_2_method_24_code
def yX0_boilGreatest : MethodName := ⟨RX0, "boilGreatest", "()I"⟩
abbrev cX0_greatestOf : ByteArray := prog_2_method_25_code
def yX0_greatestOf : MethodName := ⟨RX0, "greatestOf", "(I)I"⟩
abbrev cX0_handOver : ByteArray := prog_2_method_26_code
def yX0_handOver : MethodName := ⟨RX0, "handOver", "(III)I"⟩
abbrev cX0_coinsFor : ByteArray := prog_2_method_27_code
def yX0_coinsFor : MethodName := ⟨RX0, "coinsFor", "(II)I"⟩
abbrev cX0_cheapest : ByteArray := prog_2_method_28_code
def yX0_cheapest : MethodName := ⟨RX0, "cheapest", "([I[IIIII)I"⟩
abbrev cX0_addLoan : ByteArray := prog_2_method_29_code
def yX0_addLoan : MethodName := ⟨RX0, "addLoan", "(IIII)I"⟩
abbrev cX0_unpaid : ByteArray := prog_2_method_30_code
def yX0_unpaid : MethodName := ⟨RX0, "unpaid", "()I"⟩
abbrev cX0_payDue : ByteArray := prog_2_method_31_code
def yX0_payDue : MethodName := ⟨RX0, "payDue", "()V"⟩
abbrev cX0_goOn : ByteArray := prog_2_method_32_code
def yX0_goOn : MethodName := ⟨RX0, "goOn", "(I)V"⟩
abbrev cX0_age : ByteArray := prog_2_method_33_code
def yX0_age : MethodName := ⟨RX0, "age", "(I)V"⟩
abbrev cX0_ageOnce : ByteArray := prog_2_method_34_code
def yX0_ageOnce : MethodName := ⟨RX0, "ageOnce", "()V"⟩
abbrev cX0_rottenSet : ByteArray := prog_2_method_35_code
def yX0_rottenSet : MethodName := ⟨RX0, "rottenSet", "()I"⟩
abbrev cX0_shrinkOne : ByteArray := prog_2_method_36_code
def yX0_shrinkOne : MethodName := ⟨RX0, "shrinkOne", "(IIZ)V"⟩
abbrev cX0_harvestOne : ByteArray := prog_2_method_37_code
def yX0_harvestOne : MethodName := ⟨RX0, "harvestOne", "(I)V"⟩
def RX1 : String := "SproutCoins$Sheet"
def TX1 : u_T := fun k => match k with
  | 0 => ("SproutCoins$Sheet", "numbers", "[J", true)
  | 1 => ("SproutCoins$Sheet", "bits", "I", false)
  | _ => ("SproutCoins$Sheet", "length", "I", false)
def tyX1 : Nat → FieldType := fun k => match k with
  | 0 => .array .long
  | 1 => .int
  | _ => .int
theorem nmX1 : ∀ a, a < 3 → ∀ b, b < 3 → a ≠ b → (TX1 a).2.1 ≠ (TX1 b).2.1 := by decide +kernel
theorem tyX1_ok : ∀ k, k < 3 → parseFieldDescriptor (TX1 k).2.2.1 = some (tyX1 k) := by decide +kernel
abbrev cX1_init : ByteArray := prog_3_method_1_code
def yX1_init : MethodName := ⟨RX1, "<init>", "()V"⟩
abbrev cX1_isMissing : ByteArray := prog_3_method_2_code
def yX1_isMissing : MethodName := ⟨RX1, "isMissing", "()Z"⟩
abbrev cX1_begin : ByteArray := prog_3_method_3_code
def yX1_begin : MethodName := ⟨RX1, "begin", "(II)I"⟩
abbrev cX1_put : ByteArray := prog_3_method_4_code
def yX1_put : MethodName := ⟨RX1, "put", "(IJ)V"⟩
abbrev cX1_lowestBits : ByteArray := prog_3_method_5_code
def yX1_lowestBits : MethodName := ⟨RX1, "lowestBits", "(J)J"⟩
abbrev cX1_hasRun : ByteArray := prog_3_method_6_code
def yX1_hasRun : MethodName := ⟨RX1, "hasRun", "(II)Z"⟩
def RX2 : String := "SproutCoins$Tape"
def TX2 : u_T := fun k => match k with
  | 0 => ("SproutCoins$Tape", "bytes", "[I", true)
  | 1 => ("SproutCoins$Tape", "length", "I", false)
  | 2 => ("SproutCoins$Tape", "token", "I", false)
  | 3 => ("SproutCoins$Tape", "start", "I", false)
  | 4 => ("SproutCoins$Tape", "end", "I", false)
  | _ => ("SproutCoins$Tape", "amount", "I", false)
def tyX2 : Nat → FieldType := fun k => match k with
  | 0 => .array .int
  | 1 => .int
  | 2 => .int
  | 3 => .int
  | 4 => .int
  | _ => .int
theorem nmX2 : ∀ a, a < 6 → ∀ b, b < 6 → a ≠ b → (TX2 a).2.1 ≠ (TX2 b).2.1 := by decide +kernel
theorem tyX2_ok : ∀ k, k < 6 → parseFieldDescriptor (TX2 k).2.2.1 = some (tyX2 k) := by decide +kernel
abbrev cX2_init : ByteArray := prog_4_method_1_code
def yX2_init : MethodName := ⟨RX2, "<init>", "()V"⟩
abbrev cX2_append : ByteArray := prog_4_method_2_code
def yX2_append : MethodName := ⟨RX2, "append", "(I)V"⟩
abbrev cX2_tellItems : ByteArray := prog_4_method_3_code
def yX2_tellItems : MethodName := ⟨RX2, "tellItems", "(LSproutCoins$Market;)I"⟩
abbrev cX2_tellItem : ByteArray := prog_4_method_4_code
def yX2_tellItem : MethodName := ⟨RX2, "tellItem", "(LSproutCoins$Market;)Z"⟩
abbrev cX2_tellCoin : ByteArray := prog_4_method_5_code
def yX2_tellCoin : MethodName := ⟨RX2, "tellCoin", "(LSproutCoins$Market;I)Z"⟩
abbrev cX2_tellSoil : ByteArray := prog_4_method_6_code
def yX2_tellSoil : MethodName := ⟨RX2, "tellSoil", "(LSproutCoins$Market;)Z"⟩
abbrev cX2_tellPrice : ByteArray := prog_4_method_7_code
def yX2_tellPrice : MethodName := ⟨RX2, "tellPrice", "(LSproutCoins$Market;)Z"⟩
abbrev cX2_tellLoan : ByteArray := prog_4_method_8_code
def yX2_tellLoan : MethodName := ⟨RX2, "tellLoan", "(LSproutCoins$Market;)Z"⟩
abbrev cX2_kindNamed : ByteArray := prog_4_method_9_code
def yX2_kindNamed : MethodName := ⟨RX2, "kindNamed", "()I"⟩
abbrev cX2_nameOf : ByteArray := prog_4_method_10_code
def yX2_nameOf : MethodName := ⟨RX2, "nameOf", "(I)Ljava/lang/String;"⟩
abbrev cX2_takeWord : ByteArray := prog_4_method_11_code
def yX2_takeWord : MethodName := ⟨RX2, "takeWord", "(Ljava/lang/String;)Z"⟩
abbrev cX2_takeNumber : ByteArray := prog_4_method_12_code
def yX2_takeNumber : MethodName := ⟨RX2, "takeNumber", "(II)I"⟩
abbrev cX2_isWord : ByteArray := prog_4_method_13_code
def yX2_isWord : MethodName := ⟨RX2, "isWord", "(Ljava/lang/String;)Z"⟩
abbrev cX2_goAhead : ByteArray := prog_4_method_14_code
def yX2_goAhead : MethodName := ⟨RX2, "goAhead", "()V"⟩
abbrev cX2_endWord : ByteArray := prog_4_method_15_code
def yX2_endWord : MethodName := ⟨RX2, "endWord", "()V"⟩
abbrev cX2_endNumber : ByteArray := prog_4_method_16_code
def yX2_endNumber : MethodName := ⟨RX2, "endNumber", "()V"⟩
abbrev cX2_isLetter : ByteArray := prog_4_method_17_code
def yX2_isLetter : MethodName := ⟨RX2, "isLetter", "(I)Z"⟩
abbrev cX2_isDigit : ByteArray := prog_4_method_18_code
def yX2_isDigit : MethodName := ⟨RX2, "isDigit", "(I)Z"⟩
abbrev cX2_byteAt : ByteArray := prog_4_method_19_code
def yX2_byteAt : MethodName := ⟨RX2, "byteAt", "(I)I"⟩
def RX3 : String := "SproutCoins"
def TX3 : u_T := fun k => match k with
  | 0 => ("SproutCoins", "here", "LSproutCoins$Market;", true)
  | 1 => ("SproutCoins", "kept", "LSproutCoins$Market;", true)
  | 2 => ("SproutCoins", "trial", "LSproutCoins$Market;", true)
  | 3 => ("SproutCoins", "branch", "LSproutCoins$Market;", true)
  | 4 => ("SproutCoins", "tape", "LSproutCoins$Tape;", true)
  | 5 => ("SproutCoins", "sheets", "[LSproutCoins$Sheet;", true)
  | 6 => ("SproutCoins", "told", "[I", true)
  | _ => ("SproutCoins", "isKept", "Z", false)
def tyX3 : Nat → FieldType := fun k => match k with
  | 0 => .object "SproutCoins$Market"
  | 1 => .object "SproutCoins$Market"
  | 2 => .object "SproutCoins$Market"
  | 3 => .object "SproutCoins$Market"
  | 4 => .object "SproutCoins$Tape"
  | 5 => .array (.object "SproutCoins$Sheet")
  | 6 => .array .int
  | _ => .boolean
theorem nmX3 : ∀ a, a < 8 → ∀ b, b < 8 → a ≠ b → (TX3 a).2.1 ≠ (TX3 b).2.1 := by decide +kernel
theorem tyX3_ok : ∀ k, k < 8 → parseFieldDescriptor (TX3 k).2.2.1 = some (tyX3 k) := by decide +kernel
abbrev cX3_init : ByteArray := prog_1_method_1_code
def yX3_init : MethodName := ⟨RX3, "<init>", "()V"⟩
abbrev cX3_soil : ByteArray := prog_1_method_2_code
def yX3_soil : MethodName := ⟨RX3, "soil", "(II)I"⟩
abbrev cX3_price : ByteArray := prog_1_method_3_code
def yX3_price : MethodName := ⟨RX3, "price", "(II)I"⟩
abbrev cX3_coin : ByteArray := prog_1_method_4_code
def yX3_coin : MethodName := ⟨RX3, "coin", "(III)I"⟩
abbrev cX3_of : ByteArray := prog_1_method_5_code
def yX3_of : MethodName := ⟨RX3, "of", "(II)I"⟩
abbrev cX3_set : ByteArray := prog_1_method_6_code
def yX3_set : MethodName := ⟨RX3, "set", "(III)I"⟩
abbrev cX3_turn : ByteArray := prog_1_method_7_code
def yX3_turn : MethodName := ⟨RX3, "turn", "(II)I"⟩
abbrev cX3_as : ByteArray := prog_1_method_8_code
def yX3_as : MethodName := ⟨RX3, "as", "(II)I"⟩
abbrev cX3_swap : ByteArray := prog_1_method_9_code
def yX3_swap : MethodName := ⟨RX3, "swap", "(II)I"⟩
abbrev cX3_plant : ByteArray := prog_1_method_10_code
def yX3_plant : MethodName := ⟨RX3, "plant", "(I)I"⟩
abbrev cX3_purse : ByteArray := prog_1_method_11_code
def yX3_purse : MethodName := ⟨RX3, "purse", "(I)I"⟩
abbrev cX3_pay : ByteArray := prog_1_method_12_code
def yX3_pay : MethodName := ⟨RX3, "pay", "(III)I"⟩
abbrev cX3_which : ByteArray := prog_1_method_13_code
def yX3_which : MethodName := ⟨RX3, "which", "(II)I"⟩
abbrev cX3_over : ByteArray := prog_1_method_14_code
def yX3_over : MethodName := ⟨RX3, "over", "(II)I"⟩
abbrev cX3_loan : ByteArray := prog_1_method_15_code
def yX3_loan : MethodName := ⟨RX3, "loan", "(IIII)I"⟩
abbrev cX3_loanOf : ByteArray := prog_1_method_16_code
def yX3_loanOf : MethodName := ⟨RX3, "loanOf", "(II)I"⟩
abbrev cX3_tax : ByteArray := prog_1_method_17_code
def yX3_tax : MethodName := ⟨RX3, "tax", "()I"⟩
abbrev cX3_months : ByteArray := prog_1_method_18_code
def yX3_months : MethodName := ⟨RX3, "months", "(I)I"⟩
abbrev cX3_now : ByteArray := prog_1_method_19_code
def yX3_now : MethodName := ⟨RX3, "now", "(I)I"⟩
abbrev cX3_on : ByteArray := prog_1_method_20_code
def yX3_on : MethodName := ⟨RX3, "on", "(II)I"⟩
abbrev cX3_purseOn : ByteArray := prog_1_method_21_code
def yX3_purseOn : MethodName := ⟨RX3, "purseOn", "(II)I"⟩
abbrev cX3_rich : ByteArray := prog_1_method_22_code
def yX3_rich : MethodName := ⟨RX3, "rich", "(I)I"⟩
abbrev cX3_rots : ByteArray := prog_1_method_23_code
def yX3_rots : MethodName := ⟨RX3, "rots", "(I)I"⟩
abbrev cX3_when : ByteArray := prog_1_method_24_code
def yX3_when : MethodName := ⟨RX3, "when", "(I)I"⟩
abbrev cX3_lacks : ByteArray := prog_1_method_25_code
def yX3_lacks : MethodName := ⟨RX3, "lacks", "(I)I"⟩
abbrev cX3_best : ByteArray := prog_1_method_26_code
def yX3_best : MethodName := ⟨RX3, "best", "(II)I"⟩
abbrev cX3_kind : ByteArray := prog_1_method_27_code
def yX3_kind : MethodName := ⟨RX3, "kind", "(II)I"⟩
abbrev cX3_cellar : ByteArray := prog_1_method_28_code
def yX3_cellar : MethodName := ⟨RX3, "cellar", "(I)I"⟩
abbrev cX3_field : ByteArray := prog_1_method_29_code
def yX3_field : MethodName := ⟨RX3, "field", "(II)I"⟩
abbrev cX3_priceFor : ByteArray := prog_1_method_30_code
def yX3_priceFor : MethodName := ⟨RX3, "priceFor", "(II)I"⟩
abbrev cX3_taxMonth : ByteArray := prog_1_method_31_code
def yX3_taxMonth : MethodName := ⟨RX3, "taxMonth", "()I"⟩
abbrev cX3_bank : ByteArray := prog_1_method_32_code
def yX3_bank : MethodName := ⟨RX3, "bank", "()I"⟩
abbrev cX3_feed : ByteArray := prog_1_method_33_code
def yX3_feed : MethodName := ⟨RX3, "feed", "(II)I"⟩
abbrev cX3_wipe : ByteArray := prog_1_method_34_code
def yX3_wipe : MethodName := ⟨RX3, "wipe", "()I"⟩
abbrev cX3_market : ByteArray := prog_1_method_35_code
def yX3_market : MethodName := ⟨RX3, "market", "()I"⟩
abbrev cX3_sheet : ByteArray := prog_1_method_36_code
def yX3_sheet : MethodName := ⟨RX3, "sheet", "(III)I"⟩
abbrev cX3_write : ByteArray := prog_1_method_37_code
def yX3_write : MethodName := ⟨RX3, "write", "(IIJ)J"⟩
abbrev cX3_copy : ByteArray := prog_1_method_38_code
def yX3_copy : MethodName := ⟨RX3, "copy", "(IIIII)I"⟩
abbrev cX3_lays : ByteArray := prog_1_method_39_code
def yX3_lays : MethodName := ⟨RX3, "lays", "(I)I"⟩
abbrev cX3_book : ByteArray := prog_1_method_40_code
def yX3_book : MethodName := ⟨RX3, "book", "(II)I"⟩
abbrev cX3_read : ByteArray := prog_1_method_41_code
def yX3_read : MethodName := ⟨RX3, "read", "(II)I"⟩
abbrev cX3_image : ByteArray := prog_1_method_42_code
def yX3_image : MethodName := ⟨RX3, "image", "()I"⟩
abbrev cX3_undo : ByteArray := prog_1_method_43_code
def yX3_undo : MethodName := ⟨RX3, "undo", "()I"⟩
abbrev cX3_tear : ByteArray := prog_1_method_44_code
def yX3_tear : MethodName := ⟨RX3, "tear", "()I"⟩
abbrev cX3_count : ByteArray := prog_1_method_45_code
def yX3_count : MethodName := ⟨RX3, "count", "(I)I"⟩
abbrev cX3_status : ByteArray := prog_1_method_46_code
def yX3_status : MethodName := ⟨RX3, "status", "(I)I"⟩
abbrev cX3_finding : ByteArray := prog_1_method_47_code
def yX3_finding : MethodName := ⟨RX3, "finding", "(I)I"⟩
abbrev cX3_isWithin : ByteArray := prog_1_method_48_code
def yX3_isWithin : MethodName := ⟨RX3, "isWithin", "(III)Z"⟩
abbrev cX3_isOwner : ByteArray := prog_1_method_49_code
def yX3_isOwner : MethodName := ⟨RX3, "isOwner", "(I)Z"⟩
abbrev cX3_areTwoOwners : ByteArray := prog_1_method_50_code
def yX3_areTwoOwners : MethodName := ⟨RX3, "areTwoOwners", "(II)Z"⟩
abbrev cX3_isOwed : ByteArray := prog_1_method_51_code
def yX3_isOwed : MethodName := ⟨RX3, "isOwed", "(I)Z"⟩
abbrev cX3_isKind : ByteArray := prog_1_method_52_code
def yX3_isKind : MethodName := ⟨RX3, "isKind", "(I)Z"⟩
abbrev cX3_isSheet : ByteArray := prog_1_method_53_code
def yX3_isSheet : MethodName := ⟨RX3, "isSheet", "(I)Z"⟩
abbrev cX3_isCoin : ByteArray := prog_1_method_54_code
def yX3_isCoin : MethodName := ⟨RX3, "isCoin", "(I)Z"⟩
abbrev cX3_isPastTheEnd : ByteArray := prog_1_method_55_code
def yX3_isPastTheEnd : MethodName := ⟨RX3, "isPastTheEnd", "(I)Z"⟩
abbrev cX3_worthWith : ByteArray := prog_1_method_56_code
def yX3_worthWith : MethodName := ⟨RX3, "worthWith", "(III)I"⟩
abbrev cX3_rottenWith : ByteArray := prog_1_method_57_code
def yX3_rottenWith : MethodName := ⟨RX3, "rottenWith", "(IIII)I"⟩
abbrev cX3_purseWith : ByteArray := prog_1_method_58_code
def yX3_purseWith : MethodName := ⟨RX3, "purseWith", "(III)I"⟩
def RX4 : String := "SproutCoinsModel"
def TX4 : u_T := fun k => match k with
  | 0 => ("SproutCoinsModel", "s", "[I", true)
  | 1 => ("SproutCoinsModel", "kept", "[I", true)
  | 2 => ("SproutCoinsModel", "close", "[I", true)
  | 3 => ("SproutCoinsModel", "isKept", "Z", false)
  | 4 => ("SproutCoinsModel", "findings", "[I", true)
  | 5 => ("SproutCoinsModel", "tape", "[I", true)
  | 6 => ("SproutCoinsModel", "taped", "I", false)
  | 7 => ("SproutCoinsModel", "bitsOf", "[I", true)
  | 8 => ("SproutCoinsModel", "sizes", "[I", true)
  | 9 => ("SproutCoinsModel", "numbers", "[J", true)
  | 10 => ("SproutCoinsModel", "sums", "[I", true)
  | 11 => ("SproutCoinsModel", "rotten", "[Z", true)
  | 12 => ("SproutCoinsModel", "token", "I", false)
  | 13 => ("SproutCoinsModel", "from", "I", false)
  | 14 => ("SproutCoinsModel", "to", "I", false)
  | _ => ("SproutCoinsModel", "value", "I", false)
def tyX4 : Nat → FieldType := fun k => match k with
  | 0 => .array .int
  | 1 => .array .int
  | 2 => .array .int
  | 3 => .boolean
  | 4 => .array .int
  | 5 => .array .int
  | 6 => .int
  | 7 => .array .int
  | 8 => .array .int
  | 9 => .array .long
  | 10 => .array .int
  | 11 => .array .boolean
  | 12 => .int
  | 13 => .int
  | 14 => .int
  | _ => .int
theorem nmX4 : ∀ a, a < 16 → ∀ b, b < 16 → a ≠ b → (TX4 a).2.1 ≠ (TX4 b).2.1 := by decide +kernel
theorem tyX4_ok : ∀ k, k < 16 → parseFieldDescriptor (TX4 k).2.2.1 = some (tyX4 k) := by decide +kernel
abbrev cX4_init : ByteArray := prog_6_method_1_code
def yX4_init : MethodName := ⟨RX4, "<init>", "()V"⟩
abbrev cX4_isIn : ByteArray := prog_6_method_2_code
def yX4_isIn : MethodName := ⟨RX4, "isIn", "(JJJ)Z"⟩
abbrev cX4_finds : ByteArray := prog_6_method_3_code
def yX4_finds : MethodName := ⟨RX4, "finds", "(I)I"⟩
abbrev cX4_becomes : ByteArray := prog_6_method_4_code
def yX4_becomes : MethodName := ⟨RX4, "becomes", "(II)I"⟩
abbrev cX4_is : ByteArray := prog_6_method_5_code
def yX4_is : MethodName := ⟨RX4, "is", "(II)I"⟩
abbrev cX4_puts : ByteArray := prog_6_method_6_code
def yX4_puts : MethodName := ⟨RX4, "puts", "(III)V"⟩
abbrev cX4_isCoin : ByteArray := prog_6_method_7_code
def yX4_isCoin : MethodName := ⟨RX4, "isCoin", "(I)Z"⟩
abbrev cX4_isOwner : ByteArray := prog_6_method_8_code
def yX4_isOwner : MethodName := ⟨RX4, "isOwner", "(I)Z"⟩
abbrev cX4_season : ByteArray := prog_6_method_9_code
def yX4_season : MethodName := ⟨RX4, "season", "()I"⟩
abbrev cX4_isFar : ByteArray := prog_6_method_10_code
def yX4_isFar : MethodName := ⟨RX4, "isFar", "(I)Z"⟩
abbrev cX4_copyRow : ByteArray := prog_6_method_11_code
def yX4_copyRow : MethodName := ⟨RX4, "copyRow", "([I[I)V"⟩
abbrev cX4_soil : ByteArray := prog_6_method_12_code
def yX4_soil : MethodName := ⟨RX4, "soil", "(II)I"⟩
abbrev cX4_price : ByteArray := prog_6_method_13_code
def yX4_price : MethodName := ⟨RX4, "price", "(II)I"⟩
abbrev cX4_comes : ByteArray := prog_6_method_14_code
def yX4_comes : MethodName := ⟨RX4, "comes", "(III)I"⟩
abbrev cX4_coin : ByteArray := prog_6_method_15_code
def yX4_coin : MethodName := ⟨RX4, "coin", "(III)I"⟩
abbrev cX4_isBlue : ByteArray := prog_6_method_16_code
def yX4_isBlue : MethodName := ⟨RX4, "isBlue", "(I)Z"⟩
abbrev cX4_shrinks : ByteArray := prog_6_method_17_code
def yX4_shrinks : MethodName := ⟨RX4, "shrinks", "(I)I"⟩
abbrev cX4_yields : ByteArray := prog_6_method_18_code
def yX4_yields : MethodName := ⟨RX4, "yields", "(I)I"⟩
abbrev cX4_worth : ByteArray := prog_6_method_19_code
def yX4_worth : MethodName := ⟨RX4, "worth", "(I)I"⟩
abbrev cX4_of : ByteArray := prog_6_method_20_code
def yX4_of : MethodName := ⟨RX4, "of", "(II)I"⟩
abbrev cX4_set : ByteArray := prog_6_method_21_code
def yX4_set : MethodName := ⟨RX4, "set", "(III)I"⟩
abbrev cX4_turn : ByteArray := prog_6_method_22_code
def yX4_turn : MethodName := ⟨RX4, "turn", "(II)I"⟩
abbrev cX4_isUnder : ByteArray := prog_6_method_23_code
def yX4_isUnder : MethodName := ⟨RX4, "isUnder", "(II)Z"⟩
abbrev cX4_as : ByteArray := prog_6_method_24_code
def yX4_as : MethodName := ⟨RX4, "as", "(II)I"⟩
abbrev cX4_swaps : ByteArray := prog_6_method_25_code
def yX4_swaps : MethodName := ⟨RX4, "swaps", "(II)V"⟩
abbrev cX4_swap : ByteArray := prog_6_method_26_code
def yX4_swap : MethodName := ⟨RX4, "swap", "(II)I"⟩
abbrev cX4_isSpring : ByteArray := prog_6_method_27_code
def yX4_isSpring : MethodName := ⟨RX4, "isSpring", "()Z"⟩
abbrev cX4_plant : ByteArray := prog_6_method_28_code
def yX4_plant : MethodName := ⟨RX4, "plant", "(I)I"⟩
abbrev cX4_purseOf : ByteArray := prog_6_method_29_code
def yX4_purseOf : MethodName := ⟨RX4, "purseOf", "(I)I"⟩
abbrev cX4_purse : ByteArray := prog_6_method_30_code
def yX4_purse : MethodName := ⟨RX4, "purse", "(I)I"⟩
abbrev cX4_soundOf : ByteArray := prog_6_method_31_code
def yX4_soundOf : MethodName := ⟨RX4, "soundOf", "(I)I"⟩
abbrev cX4_lowest : ByteArray := prog_6_method_32_code
def yX4_lowest : MethodName := ⟨RX4, "lowest", "(I)I"⟩
abbrev cX4_which : ByteArray := prog_6_method_33_code
def yX4_which : MethodName := ⟨RX4, "which", "(II)I"⟩
abbrev cX4_findSet : ByteArray := prog_6_method_34_code
def yX4_findSet : MethodName := ⟨RX4, "findSet", "(II)I"⟩
abbrev cX4_over : ByteArray := prog_6_method_35_code
def yX4_over : MethodName := ⟨RX4, "over", "(II)I"⟩
abbrev cX4_pays : ByteArray := prog_6_method_36_code
def yX4_pays : MethodName := ⟨RX4, "pays", "(III)I"⟩
abbrev cX4_pay : ByteArray := prog_6_method_37_code
def yX4_pay : MethodName := ⟨RX4, "pay", "(III)I"⟩
abbrev cX4_lends : ByteArray := prog_6_method_38_code
def yX4_lends : MethodName := ⟨RX4, "lends", "(IIII)I"⟩
abbrev cX4_loan : ByteArray := prog_6_method_39_code
def yX4_loan : MethodName := ⟨RX4, "loan", "(IIII)I"⟩
abbrev cX4_loanOf : ByteArray := prog_6_method_40_code
def yX4_loanOf : MethodName := ⟨RX4, "loanOf", "(II)I"⟩
abbrev cX4_tax : ByteArray := prog_6_method_41_code
def yX4_tax : MethodName := ⟨RX4, "tax", "()I"⟩
abbrev cX4_manyThat : ByteArray := prog_6_method_42_code
def yX4_manyThat : MethodName := ⟨RX4, "manyThat", "(I)I"⟩
abbrev cX4_goesOn : ByteArray := prog_6_method_43_code
def yX4_goesOn : MethodName := ⟨RX4, "goesOn", "()V"⟩
abbrev cX4_goesOnMany : ByteArray := prog_6_method_44_code
def yX4_goesOnMany : MethodName := ⟨RX4, "goesOnMany", "(I)V"⟩
abbrev cX4_months : ByteArray := prog_6_method_45_code
def yX4_months : MethodName := ⟨RX4, "months", "(I)I"⟩
abbrev cX4_now : ByteArray := prog_6_method_46_code
def yX4_now : MethodName := ⟨RX4, "now", "(I)I"⟩
abbrev cX4_laysBy : ByteArray := prog_6_method_47_code
def yX4_laysBy : MethodName := ⟨RX4, "laysBy", "()V"⟩
abbrev cX4_laysBack : ByteArray := prog_6_method_48_code
def yX4_laysBack : MethodName := ⟨RX4, "laysBack", "()V"⟩
abbrev cX4_on : ByteArray := prog_6_method_49_code
def yX4_on : MethodName := ⟨RX4, "on", "(II)I"⟩
abbrev cX4_purseOn : ByteArray := prog_6_method_50_code
def yX4_purseOn : MethodName := ⟨RX4, "purseOn", "(II)I"⟩
abbrev cX4_rich : ByteArray := prog_6_method_51_code
def yX4_rich : MethodName := ⟨RX4, "rich", "(I)I"⟩
abbrev cX4_rots : ByteArray := prog_6_method_52_code
def yX4_rots : MethodName := ⟨RX4, "rots", "(I)I"⟩
abbrev cX4_when : ByteArray := prog_6_method_53_code
def yX4_when : MethodName := ⟨RX4, "when", "(I)I"⟩
abbrev cX4_lacks : ByteArray := prog_6_method_54_code
def yX4_lacks : MethodName := ⟨RX4, "lacks", "(I)I"⟩
abbrev cX4_worthOn : ByteArray := prog_6_method_55_code
def yX4_worthOn : MethodName := ⟨RX4, "worthOn", "(II)I"⟩
abbrev cX4_best : ByteArray := prog_6_method_56_code
def yX4_best : MethodName := ⟨RX4, "best", "(II)I"⟩
abbrev cX4_kind : ByteArray := prog_6_method_57_code
def yX4_kind : MethodName := ⟨RX4, "kind", "(II)I"⟩
abbrev cX4_goodBy : ByteArray := prog_6_method_58_code
def yX4_goodBy : MethodName := ⟨RX4, "goodBy", "(III)I"⟩
abbrev cX4_cellar : ByteArray := prog_6_method_59_code
def yX4_cellar : MethodName := ⟨RX4, "cellar", "(I)I"⟩
abbrev cX4_manyIn : ByteArray := prog_6_method_60_code
def yX4_manyIn : MethodName := ⟨RX4, "manyIn", "(I)I"⟩
abbrev cX4_purseBy : ByteArray := prog_6_method_61_code
def yX4_purseBy : MethodName := ⟨RX4, "purseBy", "(III)I"⟩
abbrev cX4_field : ByteArray := prog_6_method_62_code
def yX4_field : MethodName := ⟨RX4, "field", "(II)I"⟩
abbrev cX4_priceFor : ByteArray := prog_6_method_63_code
def yX4_priceFor : MethodName := ⟨RX4, "priceFor", "(II)I"⟩
abbrev cX4_taxMonth : ByteArray := prog_6_method_64_code
def yX4_taxMonth : MethodName := ⟨RX4, "taxMonth", "()I"⟩
abbrev cX4_bluesOf : ByteArray := prog_6_method_65_code
def yX4_bluesOf : MethodName := ⟨RX4, "bluesOf", "(I)I"⟩
abbrev cX4_bank : ByteArray := prog_6_method_66_code
def yX4_bank : MethodName := ⟨RX4, "bank", "()I"⟩
abbrev cX4_feed : ByteArray := prog_6_method_67_code
def yX4_feed : MethodName := ⟨RX4, "feed", "(II)I"⟩
abbrev cX4_wipe : ByteArray := prog_6_method_68_code
def yX4_wipe : MethodName := ⟨RX4, "wipe", "()I"⟩
abbrev cX4_isLetter : ByteArray := prog_6_method_69_code
def yX4_isLetter : MethodName := ⟨RX4, "isLetter", "(I)Z"⟩
abbrev cX4_isDigit : ByteArray := prog_6_method_70_code
def yX4_isDigit : MethodName := ⟨RX4, "isDigit", "(I)Z"⟩
abbrev cX4_byteAt : ByteArray := prog_6_method_71_code
def yX4_byteAt : MethodName := ⟨RX4, "byteAt", "(I)I"⟩
abbrev cX4_nextToken : ByteArray := prog_6_method_72_code
def yX4_nextToken : MethodName := ⟨RX4, "nextToken", "()V"⟩
abbrev cX4_has3 : ByteArray := prog_6_method_73_code
def yX4_has3 : MethodName := ⟨RX4, "has3", "(IIII)Z"⟩
abbrev cX4_isWord : ByteArray := prog_6_method_74_code
def yX4_isWord : MethodName := ⟨RX4, "isWord", "(I)Z"⟩
abbrev cX4_isWord4 : ByteArray := prog_6_method_75_code
def yX4_isWord4 : MethodName := ⟨RX4, "isWord4", "(IIII)Z"⟩
abbrev cX4_kindNamed : ByteArray := prog_6_method_76_code
def yX4_kindNamed : MethodName := ⟨RX4, "kindNamed", "()I"⟩
abbrev cX4_isWord2 : ByteArray := prog_6_method_77_code
def yX4_isWord2 : MethodName := ⟨RX4, "isWord2", "(II)Z"⟩
abbrev cX4_isNumber : ByteArray := prog_6_method_78_code
def yX4_isNumber : MethodName := ⟨RX4, "isNumber", "(II)Z"⟩
abbrev cX4_goesNumber : ByteArray := prog_6_method_79_code
def yX4_goesNumber : MethodName := ⟨RX4, "goesNumber", "(II)Z"⟩
abbrev cX4_goesCoin : ByteArray := prog_6_method_80_code
def yX4_goesCoin : MethodName := ⟨RX4, "goesCoin", "(I)Z"⟩
abbrev cX4_goesTwo : ByteArray := prog_6_method_81_code
def yX4_goesTwo : MethodName := ⟨RX4, "goesTwo", "(III)Z"⟩
abbrev cX4_goesLoan : ByteArray := prog_6_method_82_code
def yX4_goesLoan : MethodName := ⟨RX4, "goesLoan", "()Z"⟩
abbrev cX4_goesItem : ByteArray := prog_6_method_83_code
def yX4_goesItem : MethodName := ⟨RX4, "goesItem", "()Z"⟩
abbrev cX4_market : ByteArray := prog_6_method_84_code
def yX4_market : MethodName := ⟨RX4, "market", "()I"⟩
abbrev cX4_isSheet : ByteArray := prog_6_method_85_code
def yX4_isSheet : MethodName := ⟨RX4, "isSheet", "(I)Z"⟩
abbrev cX4_narrow : ByteArray := prog_6_method_86_code
def yX4_narrow : MethodName := ⟨RX4, "narrow", "(IJ)J"⟩
abbrev cX4_sheet : ByteArray := prog_6_method_87_code
def yX4_sheet : MethodName := ⟨RX4, "sheet", "(III)I"⟩
abbrev cX4_write : ByteArray := prog_6_method_88_code
def yX4_write : MethodName := ⟨RX4, "write", "(IIJ)J"⟩
abbrev cX4_copy : ByteArray := prog_6_method_89_code
def yX4_copy : MethodName := ⟨RX4, "copy", "(IIIII)I"⟩
abbrev cX4_wants : ByteArray := prog_6_method_90_code
def yX4_wants : MethodName := ⟨RX4, "wants", "(I)I"⟩
abbrev cX4_lays : ByteArray := prog_6_method_91_code
def yX4_lays : MethodName := ⟨RX4, "lays", "(I)I"⟩
abbrev cX4_book : ByteArray := prog_6_method_92_code
def yX4_book : MethodName := ⟨RX4, "book", "(II)I"⟩
abbrev cX4_read : ByteArray := prog_6_method_93_code
def yX4_read : MethodName := ⟨RX4, "read", "(II)I"⟩
abbrev cX4_image : ByteArray := prog_6_method_94_code
def yX4_image : MethodName := ⟨RX4, "image", "()I"⟩
abbrev cX4_undo : ByteArray := prog_6_method_95_code
def yX4_undo : MethodName := ⟨RX4, "undo", "()I"⟩
abbrev cX4_tear : ByteArray := prog_6_method_96_code
def yX4_tear : MethodName := ⟨RX4, "tear", "()I"⟩
abbrev cX4_count : ByteArray := prog_6_method_97_code
def yX4_count : MethodName := ⟨RX4, "count", "(I)I"⟩
abbrev cX4_status : ByteArray := prog_6_method_98_code
def yX4_status : MethodName := ⟨RX4, "status", "(I)I"⟩
def RJ6 : String := "java/lang/Integer"
def TJ6 : u_T := fun k => match k with
  | _ => ("", "", "", false)
def tyJ6 : Nat → FieldType := fun k => match k with
  | _ => .int
theorem nmJ6 : ∀ a, a < 0 → ∀ b, b < 0 → a ≠ b → (TJ6 a).2.1 ≠ (TJ6 b).2.1 := by decide +kernel
theorem tyJ6_ok : ∀ k, k < 0 → parseFieldDescriptor (TJ6 k).2.2.1 = some (tyJ6 k) := by decide +kernel
abbrev cJ6_bitCount_0f7a4 : ByteArray := prog_7_method_49_code
def yJ6_bitCount_0f7a4 : MethodName := ⟨RJ6, "bitCount", "(I)I"⟩
def RJ9 : String := "java/lang/Math"
def TJ9 : u_T := fun k => match k with
  | _ => ("", "", "", false)
def tyJ9 : Nat → FieldType := fun k => match k with
  | _ => .int
theorem nmJ9 : ∀ a, a < 0 → ∀ b, b < 0 → a ≠ b → (TJ9 a).2.1 ≠ (TJ9 b).2.1 := by decide +kernel
theorem tyJ9_ok : ∀ k, k < 0 → parseFieldDescriptor (TJ9 k).2.2.1 = some (tyJ9 k) := by decide +kernel
abbrev cJ9_max_7cf53 : ByteArray := prog_8_method_65_code
def yJ9_max_7cf53 : MethodName := ⟨RJ9, "max", "(II)I"⟩
abbrev cJ9_min_7cf53 : ByteArray := prog_8_method_69_code
def yJ9_min_7cf53 : MethodName := ⟨RJ9, "min", "(II)I"⟩
def RJ0 : String := "java/lang/String"
def TJ0 : u_T := fun k => match k with
  | _ => ("", "", "", false)
def tyJ0 : Nat → FieldType := fun k => match k with
  | _ => .int
theorem nmJ0 : ∀ a, a < 0 → ∀ b, b < 0 → a ≠ b → (TJ0 a).2.1 ≠ (TJ0 b).2.1 := by decide +kernel
theorem tyJ0_ok : ∀ k, k < 0 → parseFieldDescriptor (TJ0 k).2.2.1 = some (tyJ0 k) := by decide +kernel
abbrev cJ0_length_8abf5 : ByteArray := prog_9_method_54_code
def yJ0_length_8abf5 : MethodName := ⟨RJ0, "length", "()I"⟩
abbrev cJ0_charAt_5068e : ByteArray := prog_9_method_56_code
def yJ0_charAt_5068e : MethodName := ⟨RJ0, "charAt", "(I)C"⟩
abbrev cJ0_coder_7d493 : ByteArray := prog_9_method_152_code
def yJ0_coder_7d493 : MethodName := ⟨RJ0, "coder", "()B"⟩
abbrev cJ0_isLatin1_aae02 : ByteArray := prog_9_method_154_code
def yJ0_isLatin1_aae02 : MethodName := ⟨RJ0, "isLatin1", "()Z"⟩
abbrev cJ0_checkIndex_df160 : ByteArray := prog_9_method_155_code
def yJ0_checkIndex_df160 : MethodName := ⟨RJ0, "checkIndex", "(II)V"⟩
def RJ1 : String := "java/lang/StringLatin1"
def TJ1 : u_T := fun k => match k with
  | _ => ("", "", "", false)
def tyJ1 : Nat → FieldType := fun k => match k with
  | _ => .int
theorem nmJ1 : ∀ a, a < 0 → ∀ b, b < 0 → a ≠ b → (TJ1 a).2.1 ≠ (TJ1 b).2.1 := by decide +kernel
theorem tyJ1_ok : ∀ k, k < 0 → parseFieldDescriptor (TJ1 k).2.2.1 = some (tyJ1 k) := by decide +kernel
abbrev cJ1_charAt_3b067 : ByteArray := prog_10_method_2_code
def yJ1_charAt_3b067 : MethodName := ⟨RJ1, "charAt", "([BI)C"⟩
def RJ2 : String := "java/lang/StringUTF16"
def TJ2 : u_T := fun k => match k with
  | _ => ("", "", "", false)
def tyJ2 : Nat → FieldType := fun k => match k with
  | _ => .int
theorem nmJ2 : ∀ a, a < 0 → ∀ b, b < 0 → a ≠ b → (TJ2 a).2.1 ≠ (TJ2 b).2.1 := by decide +kernel
theorem tyJ2_ok : ∀ k, k < 0 → parseFieldDescriptor (TJ2 k).2.2.1 = some (tyJ2 k) := by decide +kernel
abbrev cJ2_getChar_3b067 : ByteArray := prog_11_method_5_code
def yJ2_getChar_3b067 : MethodName := ⟨RJ2, "getChar", "([BI)C"⟩
abbrev cJ2_length_9d52b : ByteArray := prog_11_method_6_code
def yJ2_length_9d52b : MethodName := ⟨RJ2, "length", "([B)I"⟩
abbrev cJ2_charAt_3b067 : ByteArray := prog_11_method_83_code
def yJ2_charAt_3b067 : MethodName := ⟨RJ2, "charAt", "([BI)C"⟩
abbrev cJ2_checkIndex_2214a : ByteArray := prog_11_method_91_code
def yJ2_checkIndex_2214a : MethodName := ⟨RJ2, "checkIndex", "(I[B)V"⟩
def RJ10 : String := "java/lang/System"
def TJ10 : u_T := fun k => match k with
  | _ => ("", "", "", false)
def tyJ10 : Nat → FieldType := fun k => match k with
  | _ => .int
theorem nmJ10 : ∀ a, a < 0 → ∀ b, b < 0 → a ≠ b → (TJ10 a).2.1 ≠ (TJ10 b).2.1 := by decide +kernel
theorem tyJ10_ok : ∀ k, k < 0 → parseFieldDescriptor (TJ10 k).2.2.1 = some (tyJ10 k) := by decide +kernel
def RJ3 : String := "jdk/internal/util/Preconditions"
def TJ3 : u_T := fun k => match k with
  | _ => ("", "", "", false)
def tyJ3 : Nat → FieldType := fun k => match k with
  | _ => .int
theorem nmJ3 : ∀ a, a < 0 → ∀ b, b < 0 → a ≠ b → (TJ3 a).2.1 ≠ (TJ3 b).2.1 := by decide +kernel
theorem tyJ3_ok : ∀ k, k < 0 → parseFieldDescriptor (TJ3 k).2.2.1 = some (tyJ3 k) := by decide +kernel
abbrev cJ3_checkIndex_8e157 : ByteArray := prog_13_method_11_code
def yJ3_checkIndex_8e157 : MethodName := ⟨RJ3, "checkIndex", "(IILjava/util/function/BiFunction;)I"⟩
def RL : String := "SproutCoinsLaw"
abbrev cL_law : ByteArray := code
def yL_law : MethodName := ⟨RL, "law", "([I)Z"⟩
abbrev vwCl : List vw_C := [(RX0, TX0, 17), (RX1, TX1, 3), (RX2, TX2, 6), (RX3, TX3, 8), (RX4, TX4, 16)]
/-- the objects of SproutCoins$Market, kind 0: what each holds, by its address -/
structure wK_O_Market where
  f_kindOf : Nat → Option Nat
  f_ownerOf : Nat → Option Nat
  f_sizeOf : Nat → Option Nat
  f_stateOf : Nat → Option Nat
  f_soilOf : Nat → Option Nat
  f_priceOf : Nat → Option Nat
  f_debtorOf : Nat → Option Nat
  f_lenderOf : Nat → Option Nat
  f_owedOf : Nat → Option Nat
  f_dueOf : Nat → Option Nat
  f_paidOf : Nat → Option Nat
  f_value : Nat → Option Nat
  f_reach : Nat → Option Nat
  f_coins : Nat → Int32
  f_loans : Nat → Int32
  f_month : Nat → Int32
  f_lacked : Nat → Int32
/-- the objects of SproutCoins$Sheet, kind 1: what each holds, by its address -/
structure wK_O_Sheet where
  f_numbers : Nat → Option Nat
  f_bits : Nat → Int32
  f_length : Nat → Int32
/-- the objects of SproutCoins$Tape, kind 2: what each holds, by its address -/
structure wK_O_Tape where
  f_bytes : Nat → Option Nat
  f_length : Nat → Int32
  f_token : Nat → Int32
  f_start : Nat → Int32
  f_end : Nat → Int32
  f_amount : Nat → Int32
/-- the objects of SproutCoins, kind 3: what each holds, by its address -/
structure wK_O_SproutCoins where
  f_here : Nat → Option Nat
  f_kept : Nat → Option Nat
  f_trial : Nat → Option Nat
  f_branch : Nat → Option Nat
  f_tape : Nat → Option Nat
  f_sheets : Nat → Option Nat
  f_told : Nat → Option Nat
  f_isKept : Nat → Int32
/-- the objects of SproutCoinsModel, kind 4: what each holds, by its address -/
structure wK_O_SproutCoinsModel where
  f_s : Nat → Option Nat
  f_kept : Nat → Option Nat
  f_close : Nat → Option Nat
  f_isKept : Nat → Int32
  f_findings : Nat → Option Nat
  f_tape : Nat → Option Nat
  f_taped : Nat → Int32
  f_bitsOf : Nat → Option Nat
  f_sizes : Nat → Option Nat
  f_numbers : Nat → Option Nat
  f_sums : Nat → Option Nat
  f_rotten : Nat → Option Nat
  f_token : Nat → Int32
  f_from : Nat → Int32
  f_to : Nat → Int32
  f_value : Nat → Int32
/-- the arrays of kind 5: what each holds, by its address -/
structure wK_R_I where
  len : Nat → Nat
  row : Nat → Nat → Int32
/-- the arrays of kind 6: what each holds, by its address -/
structure wK_R_J where
  len : Nat → Nat
  row : Nat → Nat → Int64
/-- the arrays of kind 7: what each holds, by its address -/
structure wK_R_Z where
  len : Nat → Nat
  row : Nat → Nat → Int32
/-- the arrays of kind 8: what each holds, by its address -/
structure wK_R_Sheet where
  len : Nat → Nat
  row : Nat → Nat → Option Nat
/-- the pool: the addresses, the kind of each, and the kinds -/
structure wPS where
  L : List Nat
  K : Nat → Nat
  O_Market : wK_O_Market
  O_Sheet : wK_O_Sheet
  O_Tape : wK_O_Tape
  O_SproutCoins : wK_O_SproutCoins
  O_SproutCoinsModel : wK_O_SproutCoinsModel
  R_I : wK_R_I
  R_J : wK_R_J
  R_Z : wK_R_Z
  R_Sheet : wK_R_Sheet
/-- the empty pool -/
