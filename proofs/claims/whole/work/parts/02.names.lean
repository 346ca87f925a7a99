/-! ===== BEGIN printed: names, fields, word lists, decode rows ===== -/
def RX0 : String := "CastDesk$BoxOffice"
def TX0 : u_T := fun k => match k with
  | 0 => ("CastDesk$BoxOffice", "shows", "[I", true)
  | 1 => ("CastDesk$BoxOffice", "promises", "[I", true)
  | 2 => ("CastDesk$BoxOffice", "parts", "[I", true)
  | 3 => ("CastDesk$BoxOffice", "stars", "[I", true)
  | 4 => ("CastDesk$BoxOffice", "refunds", "[I", true)
  | 5 => ("CastDesk$BoxOffice", "prices", "[I", true)
  | 6 => ("CastDesk$BoxOffice", "count", "I", false)
  | _ => ("CastDesk$BoxOffice", "money", "I", false)
def tyX0 : Nat → FieldType := fun k => match k with
  | 0 => .array .int
  | 1 => .array .int
  | 2 => .array .int
  | 3 => .array .int
  | 4 => .array .int
  | 5 => .array .int
  | 6 => .int
  | _ => .int
abbrev wsX00 : List Cond := u_ws RX0 TX0 8
theorem nmX0 : ∀ a, a < 8 → ∀ b, b < 8 → a ≠ b → (TX0 a).2.1 ≠ (TX0 b).2.1 := by decide +kernel
theorem tyX0_ok : ∀ k, k < 8 → parseFieldDescriptor (TX0 k).2.2.1 = some (tyX0 k) := by decide +kernel
abbrev cX0_init : ByteArray := prog_2_method_1_code
def yX0_init : MethodName := ⟨RX0, "<init>", "()V"⟩
abbrev cX0_add : ByteArray := prog_2_method_2_code
def yX0_add : MethodName := ⟨RX0, "add", "(IIIII)I"⟩
abbrev cX0_giveBack : ByteArray := prog_2_method_3_code
def yX0_giveBack : MethodName := ⟨RX0, "giveBack", "(II)I"⟩
def RX1 : String := "CastDesk$Casting"
def TX1 : u_T := fun k => match k with
  | 0 => ("CastDesk$Casting", "actors", "[I", true)
  | 1 => ("CastDesk$Casting", "keys", "[I", true)
  | 2 => ("CastDesk$Casting", "leastOfSet", "[I", true)
  | _ => ("CastDesk$Casting", "setsBound", "I", false)
def tyX1 : Nat → FieldType := fun k => match k with
  | 0 => .array .int
  | 1 => .array .int
  | 2 => .array .int
  | _ => .int
abbrev wsX10 : List Cond := u_ws RX1 TX1 4
theorem nmX1 : ∀ a, a < 4 → ∀ b, b < 4 → a ≠ b → (TX1 a).2.1 ≠ (TX1 b).2.1 := by decide +kernel
theorem tyX1_ok : ∀ k, k < 4 → parseFieldDescriptor (TX1 k).2.2.1 = some (tyX1 k) := by decide +kernel
abbrev cX1_init : ByteArray := prog_3_method_1_code
def yX1_init : MethodName := ⟨RX1, "<init>", "()V"⟩
abbrev cX1_strainOf : ByteArray := prog_3_method_2_code
def yX1_strainOf : MethodName := ⟨RX1, "strainOf", "(I)I"⟩
abbrev cX1_workOf : ByteArray := prog_3_method_3_code
def yX1_workOf : MethodName := ⟨RX1, "workOf", "(I)I"⟩
abbrev cX1_rankOf : ByteArray := prog_3_method_4_code
def yX1_rankOf : MethodName := ⟨RX1, "rankOf", "(II)I"⟩
abbrev cX1_rankShift : ByteArray := prog_3_method_5_code
def yX1_rankShift : MethodName := ⟨RX1, "rankShift", "(I)I"⟩
abbrev cX1_clear : ByteArray := prog_3_method_6_code
def yX1_clear : MethodName := ⟨RX1, "clear", "()V"⟩
abbrev cX1_offer : ByteArray := prog_3_method_7_code
def yX1_offer : MethodName := ⟨RX1, "offer", "(IIII)V"⟩
abbrev cX1_leastKey : ByteArray := prog_3_method_8_code
def yX1_leastKey : MethodName := ⟨RX1, "leastKey", "(I)I"⟩
abbrev cX1_castPart : ByteArray := prog_3_method_9_code
def yX1_castPart : MethodName := ⟨RX1, "castPart", "(III)V"⟩
abbrev cX1_leastStrain : ByteArray := prog_3_method_10_code
def yX1_leastStrain : MethodName := ⟨RX1, "leastStrain", "(I)I"⟩
abbrev cX1_leastFrom : ByteArray := prog_3_method_11_code
def yX1_leastFrom : MethodName := ⟨RX1, "leastFrom", "([IIII)I"⟩
def RX2 : String := "CastDesk$Programme"
def TX2 : u_T := fun k => match k with
  | 0 => ("CastDesk$Programme", "states", "[I", true)
  | 1 => ("CastDesk$Programme", "casts", "[I", true)
  | 2 => ("CastDesk$Programme", "days", "[I", true)
  | _ => ("CastDesk$Programme", "count", "I", false)
def tyX2 : Nat → FieldType := fun k => match k with
  | 0 => .array .int
  | 1 => .array .int
  | 2 => .array .int
  | _ => .int
abbrev wsX20 : List Cond := u_ws RX2 TX2 4
theorem nmX2 : ∀ a, a < 4 → ∀ b, b < 4 → a ≠ b → (TX2 a).2.1 ≠ (TX2 b).2.1 := by decide +kernel
theorem tyX2_ok : ∀ k, k < 4 → parseFieldDescriptor (TX2 k).2.2.1 = some (tyX2 k) := by decide +kernel
abbrev cX2_init : ByteArray := prog_4_method_1_code
def yX2_init : MethodName := ⟨RX2, "<init>", "()V"⟩
abbrev cX2_showOn : ByteArray := prog_4_method_2_code
def yX2_showOn : MethodName := ⟨RX2, "showOn", "(I)I"⟩
abbrev cX2_add : ByteArray := prog_4_method_3_code
def yX2_add : MethodName := ⟨RX2, "add", "(I)I"⟩
def RX3 : String := "CastDesk$Rows"
def TX3 : u_T := fun k => match k with
  | 0 => ("CastDesk$Rows", "actors", "[I", true)
  | _ => ("CastDesk$Rows", "lengths", "[I", true)
def tyX3 : Nat → FieldType := fun k => match k with
  | 0 => .array .int
  | _ => .array .int
abbrev wsX30 : List Cond := u_ws RX3 TX3 2
theorem nmX3 : ∀ a, a < 2 → ∀ b, b < 2 → a ≠ b → (TX3 a).2.1 ≠ (TX3 b).2.1 := by decide +kernel
theorem tyX3_ok : ∀ k, k < 2 → parseFieldDescriptor (TX3 k).2.2.1 = some (tyX3 k) := by decide +kernel
abbrev cX3_init : ByteArray := prog_5_method_1_code
def yX3_init : MethodName := ⟨RX3, "<init>", "()V"⟩
abbrev cX3_actorAt : ByteArray := prog_5_method_2_code
def yX3_actorAt : MethodName := ⟨RX3, "actorAt", "(II)I"⟩
abbrev cX3_rankIn : ByteArray := prog_5_method_3_code
def yX3_rankIn : MethodName := ⟨RX3, "rankIn", "(II)I"⟩
abbrev cX3_isFull : ByteArray := prog_5_method_4_code
def yX3_isFull : MethodName := ⟨RX3, "isFull", "(I)Z"⟩
abbrev cX3_append : ByteArray := prog_5_method_5_code
def yX3_append : MethodName := ⟨RX3, "append", "(II)I"⟩
abbrev cX3_remove : ByteArray := prog_5_method_6_code
def yX3_remove : MethodName := ⟨RX3, "remove", "(II)V"⟩
def RX4 : String := "CastDesk$Troupe"
def TX4 : u_T := fun k => match k with
  | 0 => ("CastDesk$Troupe", "sizes", "[I", true)
  | 1 => ("CastDesk$Troupe", "known", "[I", true)
  | _ => ("CastDesk$Troupe", "ill", "[I", true)
def tyX4 : Nat → FieldType := fun k => match k with
  | 0 => .array .int
  | 1 => .array .int
  | _ => .array .int
abbrev wsX40 : List Cond := u_ws RX4 TX4 3
theorem nmX4 : ∀ a, a < 3 → ∀ b, b < 3 → a ≠ b → (TX4 a).2.1 ≠ (TX4 b).2.1 := by decide +kernel
theorem tyX4_ok : ∀ k, k < 3 → parseFieldDescriptor (TX4 k).2.2.1 = some (tyX4 k) := by decide +kernel
abbrev cX4_init : ByteArray := prog_6_method_1_code
def yX4_init : MethodName := ⟨RX4, "<init>", "()V"⟩
abbrev cX4_fallIll : ByteArray := prog_6_method_2_code
def yX4_fallIll : MethodName := ⟨RX4, "fallIll", "(III)I"⟩
def RX5 : String := "CastDesk$Wardrobe"
def TX5 : u_T := fun k => match k with
  | 0 => ("CastDesk$Wardrobe", "sizes", "[I", true)
  | 1 => ("CastDesk$Wardrobe", "parts", "[I", true)
  | 2 => ("CastDesk$Wardrobe", "isLetOut", "[Z", true)
  | _ => ("CastDesk$Wardrobe", "count", "I", false)
def tyX5 : Nat → FieldType := fun k => match k with
  | 0 => .array .int
  | 1 => .array .int
  | 2 => .array .boolean
  | _ => .int
abbrev wsX50 : List Cond := u_ws RX5 TX5 4
theorem nmX5 : ∀ a, a < 4 → ∀ b, b < 4 → a ≠ b → (TX5 a).2.1 ≠ (TX5 b).2.1 := by decide +kernel
theorem tyX5_ok : ∀ k, k < 4 → parseFieldDescriptor (TX5 k).2.2.1 = some (tyX5 k) := by decide +kernel
abbrev cX5_init : ByteArray := prog_7_method_1_code
def yX5_init : MethodName := ⟨RX5, "<init>", "()V"⟩
abbrev cX5_add : ByteArray := prog_7_method_2_code
def yX5_add : MethodName := ⟨RX5, "add", "(II)I"⟩
abbrev cX5_lowestFitting : ByteArray := prog_7_method_3_code
def yX5_lowestFitting : MethodName := ⟨RX5, "lowestFitting", "(II)I"⟩
abbrev cX5_lowestToLetOut : ByteArray := prog_7_method_4_code
def yX5_lowestToLetOut : MethodName := ⟨RX5, "lowestToLetOut", "(II)I"⟩
abbrev cX5_letOut : ByteArray := prog_7_method_5_code
def yX5_letOut : MethodName := ⟨RX5, "letOut", "(I)V"⟩
def RX6 : String := "CastDesk"
def TX6 : u_T := fun k => match k with
  | 0 => ("CastDesk", "troupe", "LCastDesk$Troupe;", true)
  | 1 => ("CastDesk", "rows", "LCastDesk$Rows;", true)
  | 2 => ("CastDesk", "wardrobe", "LCastDesk$Wardrobe;", true)
  | 3 => ("CastDesk", "casting", "LCastDesk$Casting;", true)
  | 4 => ("CastDesk", "programme", "LCastDesk$Programme;", true)
  | 5 => ("CastDesk", "office", "LCastDesk$BoxOffice;", true)
  | 6 => ("CastDesk", "partCount", "I", false)
  | _ => ("CastDesk", "today", "I", false)
def tyX6 : Nat → FieldType := fun k => match k with
  | 0 => .object "CastDesk$Troupe"
  | 1 => .object "CastDesk$Rows"
  | 2 => .object "CastDesk$Wardrobe"
  | 3 => .object "CastDesk$Casting"
  | 4 => .object "CastDesk$Programme"
  | 5 => .object "CastDesk$BoxOffice"
  | 6 => .int
  | _ => .int
abbrev wsX60 : List Cond := u_ws RX6 TX6 8
theorem nmX6 : ∀ a, a < 8 → ∀ b, b < 8 → a ≠ b → (TX6 a).2.1 ≠ (TX6 b).2.1 := by decide +kernel
theorem tyX6_ok : ∀ k, k < 8 → parseFieldDescriptor (TX6 k).2.2.1 = some (tyX6 k) := by decide +kernel
abbrev cX6_init : ByteArray := prog_1_method_1_code
def yX6_init : MethodName := ⟨RX6, "<init>", "()V"⟩
abbrev cX6_setParts : ByteArray := prog_1_method_2_code
def yX6_setParts : MethodName := ⟨RX6, "setParts", "(I)I"⟩
abbrev cX6_setSize : ByteArray := prog_1_method_3_code
def yX6_setSize : MethodName := ⟨RX6, "setSize", "(II)I"⟩
abbrev cX6_learn : ByteArray := prog_1_method_4_code
def yX6_learn : MethodName := ⟨RX6, "learn", "(IIZ)I"⟩
abbrev cX6_put : ByteArray := prog_1_method_5_code
def yX6_put : MethodName := ⟨RX6, "put", "(II)I"⟩
abbrev cX6_take : ByteArray := prog_1_method_6_code
def yX6_take : MethodName := ⟨RX6, "take", "(II)I"⟩
abbrev cX6_costume : ByteArray := prog_1_method_7_code
def yX6_costume : MethodName := ⟨RX6, "costume", "(II)I"⟩
abbrev cX6_sizeOf : ByteArray := prog_1_method_8_code
def yX6_sizeOf : MethodName := ⟨RX6, "sizeOf", "(I)I"⟩
abbrev cX6_cold : ByteArray := prog_1_method_9_code
def yX6_cold : MethodName := ⟨RX6, "cold", "(III)I"⟩
abbrev cX6_isIll : ByteArray := prog_1_method_10_code
def yX6_isIll : MethodName := ⟨RX6, "isIll", "(II)Z"⟩
abbrev cX6_canPlay : ByteArray := prog_1_method_11_code
def yX6_canPlay : MethodName := ⟨RX6, "canPlay", "(III)Z"⟩
abbrev cX6_strain : ByteArray := prog_1_method_12_code
def yX6_strain : MethodName := ⟨RX6, "strain", "(I)I"⟩
abbrev cX6_strainByAll : ByteArray := prog_1_method_13_code
def yX6_strainByAll : MethodName := ⟨RX6, "strainByAll", "(I)I"⟩
abbrev cX6_work : ByteArray := prog_1_method_14_code
def yX6_work : MethodName := ⟨RX6, "work", "(I)I"⟩
abbrev cX6_actorFor : ByteArray := prog_1_method_15_code
def yX6_actorFor : MethodName := ⟨RX6, "actorFor", "(II)I"⟩
abbrev cX6_chain : ByteArray := prog_1_method_16_code
def yX6_chain : MethodName := ⟨RX6, "chain", "(II)I"⟩
abbrev cX6_show : ByteArray := prog_1_method_17_code
def yX6_show : MethodName := ⟨RX6, "show", "(I)I"⟩
abbrev cX6_sell : ByteArray := prog_1_method_18_code
def yX6_sell : MethodName := ⟨RX6, "sell", "(IIII)I"⟩
abbrev cX6_play : ByteArray := prog_1_method_19_code
def yX6_play : MethodName := ⟨RX6, "play", "()I"⟩
abbrev cX6_day : ByteArray := prog_1_method_20_code
def yX6_day : MethodName := ⟨RX6, "day", "()I"⟩
abbrev cX6_stateOf : ByteArray := prog_1_method_21_code
def yX6_stateOf : MethodName := ⟨RX6, "stateOf", "(I)I"⟩
abbrev cX6_played : ByteArray := prog_1_method_22_code
def yX6_played : MethodName := ⟨RX6, "played", "(II)I"⟩
abbrev cX6_refund : ByteArray := prog_1_method_23_code
def yX6_refund : MethodName := ⟨RX6, "refund", "(I)I"⟩
abbrev cX6_takings : ByteArray := prog_1_method_24_code
def yX6_takings : MethodName := ⟨RX6, "takings", "()I"⟩
abbrev cX6_needActor : ByteArray := prog_1_method_25_code
def yX6_needActor : MethodName := ⟨RX6, "needActor", "(I)V"⟩
abbrev cX6_needPart : ByteArray := prog_1_method_26_code
def yX6_needPart : MethodName := ⟨RX6, "needPart", "(I)V"⟩
abbrev cX6_needOneOf : ByteArray := prog_1_method_27_code
def yX6_needOneOf : MethodName := ⟨RX6, "needOneOf", "(II)V"⟩
abbrev cX6_needSize : ByteArray := prog_1_method_28_code
def yX6_needSize : MethodName := ⟨RX6, "needSize", "(I)V"⟩
abbrev cX6_needDay : ByteArray := prog_1_method_29_code
def yX6_needDay : MethodName := ⟨RX6, "needDay", "(II)V"⟩
abbrev cX6_has : ByteArray := prog_1_method_30_code
def yX6_has : MethodName := ⟨RX6, "has", "(II)Z"⟩
abbrev cX6_with : ByteArray := prog_1_method_31_code
def yX6_with : MethodName := ⟨RX6, "with", "(II)I"⟩
abbrev cX6_without : ByteArray := prog_1_method_32_code
def yX6_without : MethodName := ⟨RX6, "without", "(II)I"⟩
abbrev cX6_isReady : ByteArray := prog_1_method_33_code
def yX6_isReady : MethodName := ⟨RX6, "isReady", "(III)Z"⟩
abbrev cX6_offerActors : ByteArray := prog_1_method_34_code
def yX6_offerActors : MethodName := ⟨RX6, "offerActors", "(I)V"⟩
abbrev cX6_bestCast : ByteArray := prog_1_method_35_code
def yX6_bestCast : MethodName := ⟨RX6, "bestCast", "(I)I"⟩
abbrev cX6_actorIn : ByteArray := prog_1_method_36_code
def yX6_actorIn : MethodName := ⟨RX6, "actorIn", "(II)I"⟩
abbrev cX6_countOthers : ByteArray := prog_1_method_37_code
def yX6_countOthers : MethodName := ⟨RX6, "countOthers", "(II)I"⟩
abbrev cX6_perform : ByteArray := prog_1_method_38_code
def yX6_perform : MethodName := ⟨RX6, "perform", "(I)I"⟩
abbrev cX6_dress : ByteArray := prog_1_method_39_code
def yX6_dress : MethodName := ⟨RX6, "dress", "(II)V"⟩
abbrev cX6_refundSeats : ByteArray := prog_1_method_40_code
def yX6_refundSeats : MethodName := ⟨RX6, "refundSeats", "(II)I"⟩
abbrev cX6_shareBack : ByteArray := prog_1_method_41_code
def yX6_shareBack : MethodName := ⟨RX6, "shareBack", "(II)I"⟩
def RX7 : String := "CastDeskModel"
def TX7 : u_T := fun k => match k with
  | 0 => ("CastDeskModel", "parts", "I", false)
  | 1 => ("CastDeskModel", "sizes", "[I", true)
  | 2 => ("CastDeskModel", "known", "[I", true)
  | 3 => ("CastDeskModel", "rows", "[I", true)
  | 4 => ("CastDeskModel", "lengths", "[I", true)
  | 5 => ("CastDeskModel", "costumePart", "[I", true)
  | 6 => ("CastDeskModel", "costumeSize", "[I", true)
  | 7 => ("CastDeskModel", "letOut", "[I", true)
  | 8 => ("CastDeskModel", "costumes", "I", false)
  | 9 => ("CastDeskModel", "ill", "[I", true)
  | 10 => ("CastDeskModel", "showDay", "[I", true)
  | 11 => ("CastDeskModel", "showState", "[I", true)
  | 12 => ("CastDeskModel", "showCast", "[I", true)
  | 13 => ("CastDeskModel", "shows", "I", false)
  | 14 => ("CastDeskModel", "seatShow", "[I", true)
  | 15 => ("CastDeskModel", "seatPrice", "[I", true)
  | 16 => ("CastDeskModel", "seatPromise", "[I", true)
  | 17 => ("CastDeskModel", "seatPart", "[I", true)
  | 18 => ("CastDeskModel", "seatStar", "[I", true)
  | 19 => ("CastDeskModel", "seatRefund", "[I", true)
  | 20 => ("CastDeskModel", "seats", "I", false)
  | 21 => ("CastDeskModel", "today", "I", false)
  | 22 => ("CastDeskModel", "taken", "I", false)
  | 23 => ("CastDeskModel", "able", "[I", true)
  | 24 => ("CastDeskModel", "cast", "[I", true)
  | 25 => ("CastDeskModel", "before", "[I", true)
  | 26 => ("CastDeskModel", "leastStrain", "I", false)
  | 27 => ("CastDeskModel", "leastWork", "I", false)
  | _ => ("CastDeskModel", "thrown", "I", false)
def tyX7 : Nat → FieldType := fun k => match k with
  | 0 => .int
  | 1 => .array .int
  | 2 => .array .int
  | 3 => .array .int
  | 4 => .array .int
  | 5 => .array .int
  | 6 => .array .int
  | 7 => .array .int
  | 8 => .int
  | 9 => .array .int
  | 10 => .array .int
  | 11 => .array .int
  | 12 => .array .int
  | 13 => .int
  | 14 => .array .int
  | 15 => .array .int
  | 16 => .array .int
  | 17 => .array .int
  | 18 => .array .int
  | 19 => .array .int
  | 20 => .int
  | 21 => .int
  | 22 => .int
  | 23 => .array .int
  | 24 => .array .int
  | 25 => .array .int
  | 26 => .int
  | 27 => .int
  | _ => .int
abbrev wsX70 : List Cond := u_ws RX7 TX7 29
theorem nmX7 : ∀ a, a < 29 → ∀ b, b < 29 → a ≠ b → (TX7 a).2.1 ≠ (TX7 b).2.1 := by decide +kernel
theorem tyX7_ok : ∀ k, k < 29 → parseFieldDescriptor (TX7 k).2.2.1 = some (tyX7 k) := by decide +kernel
abbrev cX7_init : ByteArray := prog_9_method_1_code
def yX7_init : MethodName := ⟨RX7, "<init>", "()V"⟩
abbrev cX7_thrown : ByteArray := prog_9_method_2_code
def yX7_thrown : MethodName := ⟨RX7, "thrown", "()I"⟩
abbrev cX7_fails : ByteArray := prog_9_method_3_code
def yX7_fails : MethodName := ⟨RX7, "fails", "(I)I"⟩
abbrev cX7_in : ByteArray := prog_9_method_4_code
def yX7_in : MethodName := ⟨RX7, "in", "(III)Z"⟩
abbrev cX7_isActor : ByteArray := prog_9_method_5_code
def yX7_isActor : MethodName := ⟨RX7, "isActor", "(I)Z"⟩
abbrev cX7_isPart : ByteArray := prog_9_method_6_code
def yX7_isPart : MethodName := ⟨RX7, "isPart", "(I)Z"⟩
abbrev cX7_isDay : ByteArray := prog_9_method_7_code
def yX7_isDay : MethodName := ⟨RX7, "isDay", "(I)Z"⟩
abbrev cX7_setParts : ByteArray := prog_9_method_8_code
def yX7_setParts : MethodName := ⟨RX7, "setParts", "(I)I"⟩
abbrev cX7_setSize : ByteArray := prog_9_method_9_code
def yX7_setSize : MethodName := ⟨RX7, "setSize", "(II)I"⟩
abbrev cX7_knownBy : ByteArray := prog_9_method_10_code
def yX7_knownBy : MethodName := ⟨RX7, "knownBy", "(I)I"⟩
abbrev cX7_knows : ByteArray := prog_9_method_11_code
def yX7_knows : MethodName := ⟨RX7, "knows", "(II)Z"⟩
abbrev cX7_learn : ByteArray := prog_9_method_12_code
def yX7_learn : MethodName := ⟨RX7, "learn", "(IIZ)I"⟩
abbrev cX7_rankOf : ByteArray := prog_9_method_13_code
def yX7_rankOf : MethodName := ⟨RX7, "rankOf", "(II)I"⟩
abbrev cX7_put : ByteArray := prog_9_method_14_code
def yX7_put : MethodName := ⟨RX7, "put", "(II)I"⟩
abbrev cX7_take : ByteArray := prog_9_method_15_code
def yX7_take : MethodName := ⟨RX7, "take", "(II)I"⟩
abbrev cX7_costume : ByteArray := prog_9_method_16_code
def yX7_costume : MethodName := ⟨RX7, "costume", "(II)I"⟩
abbrev cX7_sizeOf : ByteArray := prog_9_method_17_code
def yX7_sizeOf : MethodName := ⟨RX7, "sizeOf", "(I)I"⟩
abbrev cX7_cold : ByteArray := prog_9_method_18_code
def yX7_cold : MethodName := ⟨RX7, "cold", "(III)I"⟩
abbrev cX7_isIll : ByteArray := prog_9_method_19_code
def yX7_isIll : MethodName := ⟨RX7, "isIll", "(II)Z"⟩
abbrev cX7_fits : ByteArray := prog_9_method_20_code
def yX7_fits : MethodName := ⟨RX7, "fits", "(II)Z"⟩
abbrev cX7_toLetOut : ByteArray := prog_9_method_21_code
def yX7_toLetOut : MethodName := ⟨RX7, "toLetOut", "(II)I"⟩
abbrev cX7_can : ByteArray := prog_9_method_22_code
def yX7_can : MethodName := ⟨RX7, "can", "(III)Z"⟩
abbrev cX7_canPlay : ByteArray := prog_9_method_23_code
def yX7_canPlay : MethodName := ⟨RX7, "canPlay", "(III)Z"⟩
abbrev cX7_layAble : ByteArray := prog_9_method_24_code
def yX7_layAble : MethodName := ⟨RX7, "layAble", "(II)V"⟩
abbrev cX7_firstBad : ByteArray := prog_9_method_25_code
def yX7_firstBad : MethodName := ⟨RX7, "firstBad", "(I)I"⟩
abbrev cX7_keep : ByteArray := prog_9_method_26_code
def yX7_keep : MethodName := ⟨RX7, "keep", "(I)V"⟩
abbrev cX7_lay : ByteArray := prog_9_method_27_code
def yX7_lay : MethodName := ⟨RX7, "lay", "(II)Z"⟩
abbrev cX7_strain : ByteArray := prog_9_method_28_code
def yX7_strain : MethodName := ⟨RX7, "strain", "(I)I"⟩
abbrev cX7_strainByAll : ByteArray := prog_9_method_29_code
def yX7_strainByAll : MethodName := ⟨RX7, "strainByAll", "(I)I"⟩
abbrev cX7_work : ByteArray := prog_9_method_30_code
def yX7_work : MethodName := ⟨RX7, "work", "(I)I"⟩
abbrev cX7_actorFor : ByteArray := prog_9_method_31_code
def yX7_actorFor : MethodName := ⟨RX7, "actorFor", "(II)I"⟩
abbrev cX7_chain : ByteArray := prog_9_method_32_code
def yX7_chain : MethodName := ⟨RX7, "chain", "(II)I"⟩
abbrev cX7_showOn : ByteArray := prog_9_method_33_code
def yX7_showOn : MethodName := ⟨RX7, "showOn", "(I)I"⟩
abbrev cX7_show : ByteArray := prog_9_method_34_code
def yX7_show : MethodName := ⟨RX7, "show", "(I)I"⟩
abbrev cX7_sell : ByteArray := prog_9_method_35_code
def yX7_sell : MethodName := ⟨RX7, "sell", "(IIII)I"⟩
abbrev cX7_refundOf : ByteArray := prog_9_method_36_code
def yX7_refundOf : MethodName := ⟨RX7, "refundOf", "(I)I"⟩
abbrev cX7_refundAll : ByteArray := prog_9_method_37_code
def yX7_refundAll : MethodName := ⟨RX7, "refundAll", "(IZ)I"⟩
abbrev cX7_perform : ByteArray := prog_9_method_38_code
def yX7_perform : MethodName := ⟨RX7, "perform", "(I)V"⟩
abbrev cX7_play : ByteArray := prog_9_method_39_code
def yX7_play : MethodName := ⟨RX7, "play", "()I"⟩
abbrev cX7_day : ByteArray := prog_9_method_40_code
def yX7_day : MethodName := ⟨RX7, "day", "()I"⟩
abbrev cX7_stateOf : ByteArray := prog_9_method_41_code
def yX7_stateOf : MethodName := ⟨RX7, "stateOf", "(I)I"⟩
abbrev cX7_played : ByteArray := prog_9_method_42_code
def yX7_played : MethodName := ⟨RX7, "played", "(II)I"⟩
abbrev cX7_refund : ByteArray := prog_9_method_43_code
def yX7_refund : MethodName := ⟨RX7, "refund", "(I)I"⟩
abbrev cX7_takings : ByteArray := prog_9_method_44_code
def yX7_takings : MethodName := ⟨RX7, "takings", "()I"⟩
def RJ6 : String := "java/lang/Integer"
def TJ6 : u_T := fun k => match k with
  | _ => ("", "", "", false)
def tyJ6 : Nat → FieldType := fun k => match k with
  | _ => .int
abbrev wsJ60 : List Cond := u_ws RJ6 TJ6 0
theorem nmJ6 : ∀ a, a < 0 → ∀ b, b < 0 → a ≠ b → (TJ6 a).2.1 ≠ (TJ6 b).2.1 := by decide +kernel
theorem tyJ6_ok : ∀ k, k < 0 → parseFieldDescriptor (TJ6 k).2.2.1 = some (tyJ6 k) := by decide +kernel
abbrev cJ6_bitCount_0f7a4 : ByteArray := prog_14_method_49_code
def yJ6_bitCount_0f7a4 : MethodName := ⟨RJ6, "bitCount", "(I)I"⟩
def RJ9 : String := "java/lang/Math"
def TJ9 : u_T := fun k => match k with
  | _ => ("", "", "", false)
def tyJ9 : Nat → FieldType := fun k => match k with
  | _ => .int
abbrev wsJ90 : List Cond := u_ws RJ9 TJ9 0
theorem nmJ9 : ∀ a, a < 0 → ∀ b, b < 0 → a ≠ b → (TJ9 a).2.1 ≠ (TJ9 b).2.1 := by decide +kernel
theorem tyJ9_ok : ∀ k, k < 0 → parseFieldDescriptor (TJ9 k).2.2.1 = some (tyJ9 k) := by decide +kernel
abbrev cJ9_max_7cf53 : ByteArray := prog_15_method_65_code
def yJ9_max_7cf53 : MethodName := ⟨RJ9, "max", "(II)I"⟩
def RJ0 : String := "java/lang/String"
def TJ0 : u_T := fun k => match k with
  | _ => ("", "", "", false)
def tyJ0 : Nat → FieldType := fun k => match k with
  | _ => .int
abbrev wsJ00 : List Cond := u_ws RJ0 TJ0 0
theorem nmJ0 : ∀ a, a < 0 → ∀ b, b < 0 → a ≠ b → (TJ0 a).2.1 ≠ (TJ0 b).2.1 := by decide +kernel
theorem tyJ0_ok : ∀ k, k < 0 → parseFieldDescriptor (TJ0 k).2.2.1 = some (tyJ0 k) := by decide +kernel
def RL : String := "CastDeskLaw"
abbrev cL_setParts : ByteArray := method_3_code
def yL_setParts : MethodName := ⟨RL, "setParts", "(LCastDesk;I[J)I"⟩
abbrev cL_setSize : ByteArray := method_4_code
def yL_setSize : MethodName := ⟨RL, "setSize", "(LCastDesk;II[J)I"⟩
abbrev cL_learn : ByteArray := method_5_code
def yL_learn : MethodName := ⟨RL, "learn", "(LCastDesk;IIZ[J)I"⟩
abbrev cL_put : ByteArray := method_6_code
def yL_put : MethodName := ⟨RL, "put", "(LCastDesk;II[J)I"⟩
abbrev cL_take : ByteArray := method_7_code
def yL_take : MethodName := ⟨RL, "take", "(LCastDesk;II[J)I"⟩
abbrev cL_costume : ByteArray := method_8_code
def yL_costume : MethodName := ⟨RL, "costume", "(LCastDesk;II[J)I"⟩
abbrev cL_sizeOf : ByteArray := method_9_code
def yL_sizeOf : MethodName := ⟨RL, "sizeOf", "(LCastDesk;I[J)I"⟩
abbrev cL_cold : ByteArray := method_10_code
def yL_cold : MethodName := ⟨RL, "cold", "(LCastDesk;III[J)I"⟩
abbrev cL_isIll : ByteArray := method_11_code
def yL_isIll : MethodName := ⟨RL, "isIll", "(LCastDesk;II[J)I"⟩
abbrev cL_canPlay : ByteArray := method_12_code
def yL_canPlay : MethodName := ⟨RL, "canPlay", "(LCastDesk;III[J)I"⟩
abbrev cL_strain : ByteArray := method_13_code
def yL_strain : MethodName := ⟨RL, "strain", "(LCastDesk;I[J)I"⟩
abbrev cL_strainByAll : ByteArray := method_14_code
def yL_strainByAll : MethodName := ⟨RL, "strainByAll", "(LCastDesk;I[J)I"⟩
abbrev cL_work : ByteArray := method_15_code
def yL_work : MethodName := ⟨RL, "work", "(LCastDesk;I[J)I"⟩
abbrev cL_actorFor : ByteArray := method_16_code
def yL_actorFor : MethodName := ⟨RL, "actorFor", "(LCastDesk;II[J)I"⟩
abbrev cL_chain : ByteArray := method_17_code
def yL_chain : MethodName := ⟨RL, "chain", "(LCastDesk;II[J)I"⟩
abbrev cL_show : ByteArray := method_18_code
def yL_show : MethodName := ⟨RL, "show", "(LCastDesk;I[J)I"⟩
abbrev cL_sell : ByteArray := method_19_code
def yL_sell : MethodName := ⟨RL, "sell", "(LCastDesk;IIII[J)I"⟩
abbrev cL_play : ByteArray := method_20_code
def yL_play : MethodName := ⟨RL, "play", "(LCastDesk;[J)I"⟩
abbrev cL_stateOf : ByteArray := method_21_code
def yL_stateOf : MethodName := ⟨RL, "stateOf", "(LCastDesk;I[J)I"⟩
abbrev cL_played : ByteArray := method_22_code
def yL_played : MethodName := ⟨RL, "played", "(LCastDesk;II[J)I"⟩
abbrev cL_refund : ByteArray := method_23_code
def yL_refund : MethodName := ⟨RL, "refund", "(LCastDesk;I[J)I"⟩
abbrev cL_law : ByteArray := code
def yL_law : MethodName := ⟨RL, "law", "([I)Z"⟩
def wsX0_init : List Cond := .code yX0_init cX0_init 1 none :: ([.methodLink RX0 3 objectInit, .instanceMethod objectInit, .code objectInit ⟨#[0xb1]⟩ 1 none, .arrayClass .int, .fieldLink RX0 9 "CastDesk$BoxOffice" "shows" "[I", .fieldLink RX0 15 "CastDesk$BoxOffice" "promises" "[I", .fieldLink RX0 18 "CastDesk$BoxOffice" "parts" "[I", .fieldLink RX0 21 "CastDesk$BoxOffice" "stars" "[I", .fieldLink RX0 24 "CastDesk$BoxOffice" "refunds" "[I", .fieldLink RX0 27 "CastDesk$BoxOffice" "prices" "[I"] ++ wsX00)
def wsX0_add : List Cond := .code yX0_add cX0_add 6 (some .int) :: ([.fieldLink RX0 9 "CastDesk$BoxOffice" "shows" "[I", .fieldLink RX0 30 "CastDesk$BoxOffice" "count" "I", .fieldLink RX0 27 "CastDesk$BoxOffice" "prices" "[I", .fieldLink RX0 15 "CastDesk$BoxOffice" "promises" "[I", .fieldLink RX0 18 "CastDesk$BoxOffice" "parts" "[I", .fieldLink RX0 21 "CastDesk$BoxOffice" "stars" "[I", .fieldLink RX0 34 "CastDesk$BoxOffice" "money" "I"] ++ wsX00)
def wsX0_giveBack : List Cond := .code yX0_giveBack cX0_giveBack 4 (some .int) :: ([.fieldLink RX0 27 "CastDesk$BoxOffice" "prices" "[I", .fieldLink RX0 24 "CastDesk$BoxOffice" "refunds" "[I", .fieldLink RX0 34 "CastDesk$BoxOffice" "money" "I"] ++ wsX00)
def wsX1_init : List Cond := .code yX1_init cX1_init 2 none :: ([.methodLink RX1 5 objectInit, .instanceMethod objectInit, .code objectInit ⟨#[0xb1]⟩ 1 none, .arrayClass .int, .fieldLink RX1 11 "CastDesk$Casting" "actors" "[I", .fieldLink RX1 15 "CastDesk$Casting" "keys" "[I", .fieldLink RX1 18 "CastDesk$Casting" "leastOfSet" "[I"] ++ wsX10)
def wsX1_strainOf : List Cond := .code yX1_strainOf cX1_strainOf 1 (some .int) :: ([])
def wsX1_workOf : List Cond := .code yX1_workOf cX1_workOf 1 (some .int) :: ([])
def wsX1_rankShift : List Cond := .code yX1_rankShift cX1_rankShift 1 (some .int) :: ([])
def wsX1_rankOf : List Cond := .code yX1_rankOf cX1_rankOf 2 (some .int) :: ([.methodLink RX1 21 yX1_rankShift, .static yX1_rankShift, .initialized RX1, .code yX1_rankShift cX1_rankShift 1 (some .int)])
def wsX1_clear : List Cond := .code yX1_clear cX1_clear 2 none :: ([.fieldLink RX1 11 "CastDesk$Casting" "actors" "[I", .fieldLink RX1 25 "CastDesk$Casting" "setsBound" "I"] ++ wsX10)
def wsX1_offer : List Cond := .code yX1_offer cX1_offer 6 none :: ([.fieldLink RX1 11 "CastDesk$Casting" "actors" "[I", .fieldLink RX1 15 "CastDesk$Casting" "keys" "[I", .fieldLink RX1 25 "CastDesk$Casting" "setsBound" "I", .methodLink RX1 29 Lib.Math.max.name, .static Lib.Math.max.name, .initialized "java/lang/Math", .code Lib.Math.max.name Lib.Math.max.code 2 (some .int), .methodLink RX1 21 yX1_rankShift, .static yX1_rankShift, .initialized RX1, .code yX1_rankShift cX1_rankShift 1 (some .int)] ++ wsX10)
def wsJ6_bitCount_0f7a4 : List Cond := .code yJ6_bitCount_0f7a4 cJ6_bitCount_0f7a4 1 (some .int) :: ([.constant RJ6 265 (1431655765), .constant RJ6 266 (858993459), .constant RJ6 267 (252645135)])
def wsX6_has : List Cond := .code yX6_has cX6_has 2 (some .boolean) :: ([])
def wsX6_with : List Cond := .code yX6_with cX6_with 2 (some .int) :: ([])
def wsX1_castPart : List Cond := .code yX1_castPart cX1_castPart 9 none :: ([.fieldLink RX1 11 "CastDesk$Casting" "actors" "[I", .fieldLink RX1 15 "CastDesk$Casting" "keys" "[I", .fieldLink RX1 18 "CastDesk$Casting" "leastOfSet" "[I", .static yX6_has, .initialized RX6, .code yX6_has cX6_has 2 (some .boolean), .static yX6_with, .code yX6_with cX6_with 2 (some .int)] ++ wsX10)
def wsX1_leastKey : List Cond := .code yX1_leastKey cX1_leastKey 6 (some .int) :: ([.fieldLink RX1 18 "CastDesk$Casting" "leastOfSet" "[I", .fieldLink RX1 25 "CastDesk$Casting" "setsBound" "I", .methodLink RX1 35 yJ6_bitCount_0f7a4, .static yJ6_bitCount_0f7a4, .initialized RJ6, .code yJ6_bitCount_0f7a4 cJ6_bitCount_0f7a4 1 (some .int), .constant RJ6 265 (1431655765), .constant RJ6 266 (858993459), .constant RJ6 267 (252645135), .methodLink RX1 40 yX1_castPart, .instanceMethod yX1_castPart, .selects RX1 yX1_castPart yX1_castPart, .initialized RX1, .code yX1_castPart cX1_castPart 9 none, .fieldLink RX1 11 "CastDesk$Casting" "actors" "[I", .fieldLink RX1 15 "CastDesk$Casting" "keys" "[I", .static yX6_has, .initialized RX6, .code yX6_has cX6_has 2 (some .boolean), .static yX6_with, .code yX6_with cX6_with 2 (some .int)] ++ wsX10)
def wsX1_leastFrom : List Cond := .code yX1_leastFrom cX1_leastFrom 8 (some .int) :: ([.static yX6_has, .initialized RX6, .code yX6_has cX6_has 2 (some .boolean), .static yX6_with, .code yX6_with cX6_with 2 (some .int), .methodLink RX1 51 yX1_leastFrom, .static yX1_leastFrom, .initialized RX1])
def wsX1_leastStrain : List Cond := .code yX1_leastStrain cX1_leastStrain 2 (some .int) :: ([.fieldLink RX1 11 "CastDesk$Casting" "actors" "[I", .methodLink RX1 51 yX1_leastFrom, .static yX1_leastFrom, .initialized RX1, .code yX1_leastFrom cX1_leastFrom 8 (some .int), .static yX6_has, .initialized RX6, .code yX6_has cX6_has 2 (some .boolean), .static yX6_with, .code yX6_with cX6_with 2 (some .int)] ++ wsX10)
def wsX2_init : List Cond := .code yX2_init cX2_init 2 none :: ([.methodLink RX2 3 objectInit, .instanceMethod objectInit, .code objectInit ⟨#[0xb1]⟩ 1 none, .arrayClass .int, .fieldLink RX2 9 "CastDesk$Programme" "states" "[I", .fieldLink RX2 15 "CastDesk$Programme" "casts" "[I", .fieldLink RX2 18 "CastDesk$Programme" "days" "[I"] ++ wsX20)
def wsX2_showOn : List Cond := .code yX2_showOn cX2_showOn 3 (some .int) :: ([.fieldLink RX2 21 "CastDesk$Programme" "count" "I", .fieldLink RX2 18 "CastDesk$Programme" "days" "[I"] ++ wsX20)
def wsX2_add : List Cond := .code yX2_add cX2_add 2 (some .int) :: ([.fieldLink RX2 18 "CastDesk$Programme" "days" "[I", .fieldLink RX2 21 "CastDesk$Programme" "count" "I", .fieldLink RX2 9 "CastDesk$Programme" "states" "[I"] ++ wsX20)
def wsX3_init : List Cond := .code yX3_init cX3_init 1 none :: ([.methodLink RX3 3 objectInit, .instanceMethod objectInit, .code objectInit ⟨#[0xb1]⟩ 1 none, .arrayClass .int, .fieldLink RX3 9 "CastDesk$Rows" "actors" "[I", .fieldLink RX3 15 "CastDesk$Rows" "lengths" "[I"] ++ wsX30)
def wsX3_actorAt : List Cond := .code yX3_actorAt cX3_actorAt 3 (some .int) :: ([.fieldLink RX3 15 "CastDesk$Rows" "lengths" "[I", .fieldLink RX3 9 "CastDesk$Rows" "actors" "[I"] ++ wsX30)
def wsX3_rankIn : List Cond := .code yX3_rankIn cX3_rankIn 4 (some .int) :: ([.fieldLink RX3 15 "CastDesk$Rows" "lengths" "[I", .fieldLink RX3 9 "CastDesk$Rows" "actors" "[I"] ++ wsX30)
def wsX3_isFull : List Cond := .code yX3_isFull cX3_isFull 2 (some .boolean) :: ([.fieldLink RX3 15 "CastDesk$Rows" "lengths" "[I"] ++ wsX30)
def wsX3_append : List Cond := .code yX3_append cX3_append 4 (some .int) :: ([.fieldLink RX3 15 "CastDesk$Rows" "lengths" "[I", .fieldLink RX3 9 "CastDesk$Rows" "actors" "[I"] ++ wsX30)
def wsX3_remove : List Cond := .code yX3_remove cX3_remove 4 none :: ([.fieldLink RX3 15 "CastDesk$Rows" "lengths" "[I", .fieldLink RX3 9 "CastDesk$Rows" "actors" "[I"] ++ wsX30)
def wsX4_init : List Cond := .code yX4_init cX4_init 2 none :: ([.methodLink RX4 3 objectInit, .instanceMethod objectInit, .code objectInit ⟨#[0xb1]⟩ 1 none, .arrayClass .int, .fieldLink RX4 9 "CastDesk$Troupe" "sizes" "[I", .fieldLink RX4 15 "CastDesk$Troupe" "known" "[I", .fieldLink RX4 18 "CastDesk$Troupe" "ill" "[I"] ++ wsX40)
def wsX4_fallIll : List Cond := .code yX4_fallIll cX4_fallIll 6 (some .int) :: ([.fieldLink RX4 18 "CastDesk$Troupe" "ill" "[I", .static yX6_has, .initialized RX6, .code yX6_has cX6_has 2 (some .boolean), .static yX6_with, .code yX6_with cX6_with 2 (some .int)] ++ wsX40)
def wsX5_init : List Cond := .code yX5_init cX5_init 1 none :: ([.methodLink RX5 3 objectInit, .instanceMethod objectInit, .code objectInit ⟨#[0xb1]⟩ 1 none, .arrayClass .int, .fieldLink RX5 9 "CastDesk$Wardrobe" "sizes" "[I", .fieldLink RX5 15 "CastDesk$Wardrobe" "parts" "[I", .arrayClass .boolean, .fieldLink RX5 18 "CastDesk$Wardrobe" "isLetOut" "[Z"] ++ wsX50)
def wsX5_add : List Cond := .code yX5_add cX5_add 3 (some .int) :: ([.fieldLink RX5 15 "CastDesk$Wardrobe" "parts" "[I", .fieldLink RX5 22 "CastDesk$Wardrobe" "count" "I", .fieldLink RX5 9 "CastDesk$Wardrobe" "sizes" "[I"] ++ wsX50)
def wsX5_lowestFitting : List Cond := .code yX5_lowestFitting cX5_lowestFitting 4 (some .int) :: ([.fieldLink RX5 22 "CastDesk$Wardrobe" "count" "I", .fieldLink RX5 15 "CastDesk$Wardrobe" "parts" "[I", .fieldLink RX5 9 "CastDesk$Wardrobe" "sizes" "[I"] ++ wsX50)
def wsX5_lowestToLetOut : List Cond := .code yX5_lowestToLetOut cX5_lowestToLetOut 4 (some .int) :: ([.fieldLink RX5 22 "CastDesk$Wardrobe" "count" "I", .fieldLink RX5 15 "CastDesk$Wardrobe" "parts" "[I", .fieldLink RX5 9 "CastDesk$Wardrobe" "sizes" "[I", .fieldLink RX5 18 "CastDesk$Wardrobe" "isLetOut" "[Z"] ++ wsX50)
def wsX5_letOut : List Cond := .code yX5_letOut cX5_letOut 2 none :: ([.fieldLink RX5 9 "CastDesk$Wardrobe" "sizes" "[I", .fieldLink RX5 18 "CastDesk$Wardrobe" "isLetOut" "[Z"] ++ wsX50)
def wsX6_init_r1 : List Cond := [Cond.methodLink RX6 1 objectInit, Cond.instanceMethod objectInit, Cond.code objectInit ⟨#[0xb1]⟩ 1 none, Cond.classLink RX6 7 RX4, Cond.instantiable RX4 3, Cond.initialized RX4, Cond.fieldLink RX6 10 "CastDesk" "troupe" "LCastDesk$Troupe;", Cond.classLink RX6 16 RX3, Cond.instantiable RX3 2, Cond.initialized RX3, Cond.fieldLink RX6 19 "CastDesk" "rows" "LCastDesk$Rows;", Cond.classLink RX6 23 RX5, Cond.instantiable RX5 4, Cond.initialized RX5, Cond.fieldLink RX6 26 "CastDesk" "wardrobe" "LCastDesk$Wardrobe;", Cond.classLink RX6 30 RX1, Cond.instantiable RX1 4, Cond.initialized RX1, Cond.fieldLink RX6 33 "CastDesk" "casting" "LCastDesk$Casting;", Cond.classLink RX6 37 RX2, Cond.instantiable RX2 4, Cond.initialized RX2, Cond.fieldLink RX6 40 "CastDesk" "programme" "LCastDesk$Programme;", Cond.classLink RX6 44 RX0]
def wsX6_init_r2 : List Cond := [Cond.instantiable RX0 8, Cond.initialized RX0, Cond.fieldLink RX6 47 "CastDesk" "office" "LCastDesk$BoxOffice;", Cond.fieldLink RX6 51 "CastDesk" "partCount" "I", Cond.fieldLink RX6 55 "CastDesk" "today" "I", Cond.methodLink RX6 9 yX4_init, Cond.instanceMethod yX4_init, Cond.code yX4_init cX4_init 2 none, Cond.methodLink RX4 3 objectInit, Cond.arrayClass .int, Cond.fieldLink RX4 9 "CastDesk$Troupe" "sizes" "[I", Cond.fieldLink RX4 15 "CastDesk$Troupe" "known" "[I", Cond.fieldLink RX4 18 "CastDesk$Troupe" "ill" "[I", Cond.instanceMethod yX3_init, Cond.code yX3_init cX3_init 1 none, Cond.methodLink RX3 3 objectInit, Cond.fieldLink RX3 9 "CastDesk$Rows" "actors" "[I", Cond.fieldLink RX3 15 "CastDesk$Rows" "lengths" "[I", Cond.instanceMethod yX5_init, Cond.code yX5_init cX5_init 1 none, Cond.methodLink RX5 3 objectInit, Cond.fieldLink RX5 9 "CastDesk$Wardrobe" "sizes" "[I", Cond.fieldLink RX5 15 "CastDesk$Wardrobe" "parts" "[I", Cond.arrayClass .boolean]
def wsX6_init_r3 : List Cond := [Cond.fieldLink RX5 18 "CastDesk$Wardrobe" "isLetOut" "[Z", Cond.methodLink RX6 32 yX1_init, Cond.instanceMethod yX1_init, Cond.code yX1_init cX1_init 2 none, Cond.methodLink RX1 5 objectInit, Cond.fieldLink RX1 11 "CastDesk$Casting" "actors" "[I", Cond.fieldLink RX1 15 "CastDesk$Casting" "keys" "[I", Cond.fieldLink RX1 18 "CastDesk$Casting" "leastOfSet" "[I", Cond.methodLink RX6 39 yX2_init, Cond.instanceMethod yX2_init, Cond.code yX2_init cX2_init 2 none, Cond.methodLink RX2 3 objectInit, Cond.fieldLink RX2 9 "CastDesk$Programme" "states" "[I", Cond.fieldLink RX2 15 "CastDesk$Programme" "casts" "[I", Cond.fieldLink RX2 18 "CastDesk$Programme" "days" "[I", Cond.instanceMethod yX0_init, Cond.code yX0_init cX0_init 1 none, Cond.methodLink RX0 3 objectInit, Cond.fieldLink RX0 9 "CastDesk$BoxOffice" "shows" "[I", Cond.fieldLink RX0 15 "CastDesk$BoxOffice" "promises" "[I", Cond.fieldLink RX0 18 "CastDesk$BoxOffice" "parts" "[I", Cond.fieldLink RX0 21 "CastDesk$BoxOffice" "stars" "[I", Cond.fieldLink RX0 24 "CastDesk$BoxOffice" "refunds" "[I", Cond.fieldLink RX0 27 "CastDesk$BoxOffice" "prices" "[I"]
def wsX6_init : List Cond := .code yX6_init cX6_init 1 none :: ((wsX6_init_r1 ++ (wsX6_init_r2 ++ wsX6_init_r3)) ++ wsX40 ++ wsX60 ++ wsX30 ++ wsX50 ++ wsX10 ++ wsX20 ++ wsX00)
def wsX6_setParts : List Cond := .code yX6_setParts cX6_setParts 3 (some .int) :: ([.classLink RX6 58 "java/lang/IllegalArgumentException", .initialized "java/lang/IllegalArgumentException", .fieldLink RX6 51 "CastDesk" "partCount" "I"] ++ wsX60 ++ (vx_atS RX6 62 "java/lang/IllegalArgumentException" ["java/lang/RuntimeException", "java/lang/Exception"]).filter goodWord)
def wsX6_needActor : List Cond := .code yX6_needActor cX6_needActor 1 none :: ([.classLink RX6 215 "java/lang/IndexOutOfBoundsException", .initialized "java/lang/IndexOutOfBoundsException"] ++ (vx_atS RX6 219 "java/lang/IndexOutOfBoundsException" ["java/lang/RuntimeException", "java/lang/Exception"]).filter goodWord)
def wsX6_needSize : List Cond := .code yX6_needSize cX6_needSize 1 none :: ([.classLink RX6 58 "java/lang/IllegalArgumentException", .initialized "java/lang/IllegalArgumentException"] ++ (vx_atS RX6 62 "java/lang/IllegalArgumentException" ["java/lang/RuntimeException", "java/lang/Exception"]).filter goodWord)
def wsX6_setSize : List Cond := .code yX6_setSize cX6_setSize 4 (some .int) :: ([.fieldLink RX6 10 "CastDesk" "troupe" "LCastDesk$Troupe;", .fieldLink RX6 72 "CastDesk$Troupe" "sizes" "[I", .methodLink RX6 65 yX6_needActor, .static yX6_needActor, .initialized RX6, .code yX6_needActor cX6_needActor 1 none, .classLink RX6 215 "java/lang/IndexOutOfBoundsException", .initialized "java/lang/IndexOutOfBoundsException", .methodLink RX6 69 yX6_needSize, .static yX6_needSize, .code yX6_needSize cX6_needSize 1 none, .classLink RX6 58 "java/lang/IllegalArgumentException", .initialized "java/lang/IllegalArgumentException"] ++ wsX60 ++ wsX40 ++ (vx_atS RX6 219 "java/lang/IndexOutOfBoundsException" ["java/lang/RuntimeException", "java/lang/Exception"]).filter goodWord ++ (vx_atS RX6 62 "java/lang/IllegalArgumentException" ["java/lang/RuntimeException", "java/lang/Exception"]).filter goodWord)
def wsX6_needPart : List Cond := .code yX6_needPart cX6_needPart 1 none :: ([.classLink RX6 215 "java/lang/IndexOutOfBoundsException", .initialized "java/lang/IndexOutOfBoundsException"] ++ (vx_atS RX6 219 "java/lang/IndexOutOfBoundsException" ["java/lang/RuntimeException", "java/lang/Exception"]).filter goodWord)
def wsX6_without : List Cond := .code yX6_without cX6_without 2 (some .int) :: ([])
def wsX6_learn_r1 : List Cond := [Cond.classLink RX6 95 "java/lang/IllegalStateException", Cond.initialized "java/lang/IllegalStateException", Cond.fieldLink RX6 10 "CastDesk" "troupe" "LCastDesk$Troupe;", Cond.fieldLink RX6 79 "CastDesk$Troupe" "known" "[I", Cond.methodLink RX6 65 yX6_needActor, Cond.static yX6_needActor, Cond.initialized RX6, Cond.code yX6_needActor cX6_needActor 1 none, Cond.classLink RX6 215 "java/lang/IndexOutOfBoundsException", Cond.initialized "java/lang/IndexOutOfBoundsException", Cond.methodLink RX6 76 yX6_needPart, Cond.static yX6_needPart, Cond.code yX6_needPart cX6_needPart 1 none, Cond.methodLink RX6 82 yX6_with, Cond.static yX6_with, Cond.code yX6_with cX6_with 2 (some .int), Cond.methodLink RX6 86 yX6_without, Cond.static yX6_without, Cond.code yX6_without cX6_without 2 (some .int), Cond.methodLink RX6 89 yJ6_bitCount_0f7a4, Cond.static yJ6_bitCount_0f7a4, Cond.initialized RJ6, Cond.code yJ6_bitCount_0f7a4 cJ6_bitCount_0f7a4 1 (some .int), Cond.constant RJ6 265 (1431655765)]
def wsX6_learn_r2 : List Cond := [Cond.constant RJ6 266 (858993459), Cond.constant RJ6 267 (252645135)]
def wsX6_learn : List Cond := .code yX6_learn cX6_learn 6 (some .int) :: ((wsX6_learn_r1 ++ wsX6_learn_r2) ++ wsX60 ++ wsX40 ++ (vx_atS RX6 99 "java/lang/IllegalStateException" ["java/lang/RuntimeException", "java/lang/Exception"]).filter goodWord ++ (vx_atS RX6 219 "java/lang/IndexOutOfBoundsException" ["java/lang/RuntimeException", "java/lang/Exception"]).filter goodWord)
def wsX6_put_r1 : List Cond := [Cond.classLink RX6 95 "java/lang/IllegalStateException", Cond.initialized "java/lang/IllegalStateException", Cond.fieldLink RX6 19 "CastDesk" "rows" "LCastDesk$Rows;", Cond.methodLink RX6 76 yX6_needPart, Cond.static yX6_needPart, Cond.initialized RX6, Cond.code yX6_needPart cX6_needPart 1 none, Cond.classLink RX6 215 "java/lang/IndexOutOfBoundsException", Cond.initialized "java/lang/IndexOutOfBoundsException", Cond.methodLink RX6 65 yX6_needActor, Cond.static yX6_needActor, Cond.code yX6_needActor cX6_needActor 1 none, Cond.methodLink RX6 100 yX3_rankIn, Cond.instanceMethod yX3_rankIn, Cond.selects RX3 yX3_rankIn yX3_rankIn, Cond.initialized RX3, Cond.code yX3_rankIn cX3_rankIn 4 (some .int), Cond.fieldLink RX3 15 "CastDesk$Rows" "lengths" "[I", Cond.fieldLink RX3 9 "CastDesk$Rows" "actors" "[I", Cond.methodLink RX6 105 yX3_isFull, Cond.instanceMethod yX3_isFull, Cond.selects RX3 yX3_isFull yX3_isFull, Cond.code yX3_isFull cX3_isFull 2 (some .boolean), Cond.methodLink RX6 111 yX3_append]
def wsX6_put_r2 : List Cond := [Cond.instanceMethod yX3_append, Cond.selects RX3 yX3_append yX3_append, Cond.code yX3_append cX3_append 4 (some .int)]
def wsX6_put : List Cond := .code yX6_put cX6_put 3 (some .int) :: ((wsX6_put_r1 ++ wsX6_put_r2) ++ wsX60 ++ wsX30 ++ (vx_atS RX6 99 "java/lang/IllegalStateException" ["java/lang/RuntimeException", "java/lang/Exception"]).filter goodWord ++ (vx_atS RX6 219 "java/lang/IndexOutOfBoundsException" ["java/lang/RuntimeException", "java/lang/Exception"]).filter goodWord)
def wsX6_take : List Cond := .code yX6_take cX6_take 4 (some .int) :: ([.classLink RX6 95 "java/lang/IllegalStateException", .initialized "java/lang/IllegalStateException", .fieldLink RX6 19 "CastDesk" "rows" "LCastDesk$Rows;", .methodLink RX6 76 yX6_needPart, .static yX6_needPart, .initialized RX6, .code yX6_needPart cX6_needPart 1 none, .classLink RX6 215 "java/lang/IndexOutOfBoundsException", .initialized "java/lang/IndexOutOfBoundsException", .methodLink RX6 65 yX6_needActor, .static yX6_needActor, .code yX6_needActor cX6_needActor 1 none, .methodLink RX6 100 yX3_rankIn, .instanceMethod yX3_rankIn, .selects RX3 yX3_rankIn yX3_rankIn, .initialized RX3, .code yX3_rankIn cX3_rankIn 4 (some .int), .fieldLink RX3 15 "CastDesk$Rows" "lengths" "[I", .fieldLink RX3 9 "CastDesk$Rows" "actors" "[I", .methodLink RX6 116 yX3_remove, .instanceMethod yX3_remove, .selects RX3 yX3_remove yX3_remove, .code yX3_remove cX3_remove 4 none] ++ wsX60 ++ wsX30 ++ (vx_atS RX6 99 "java/lang/IllegalStateException" ["java/lang/RuntimeException", "java/lang/Exception"]).filter goodWord ++ (vx_atS RX6 219 "java/lang/IndexOutOfBoundsException" ["java/lang/RuntimeException", "java/lang/Exception"]).filter goodWord)
def wsX6_costume : List Cond := .code yX6_costume cX6_costume 3 (some .int) :: ([.classLink RX6 95 "java/lang/IllegalStateException", .initialized "java/lang/IllegalStateException", .fieldLink RX6 26 "CastDesk" "wardrobe" "LCastDesk$Wardrobe;", .fieldLink RX6 120 "CastDesk$Wardrobe" "count" "I", .methodLink RX6 76 yX6_needPart, .static yX6_needPart, .initialized RX6, .code yX6_needPart cX6_needPart 1 none, .classLink RX6 215 "java/lang/IndexOutOfBoundsException", .initialized "java/lang/IndexOutOfBoundsException", .methodLink RX6 69 yX6_needSize, .static yX6_needSize, .code yX6_needSize cX6_needSize 1 none, .classLink RX6 58 "java/lang/IllegalArgumentException", .initialized "java/lang/IllegalArgumentException", .methodLink RX6 125 yX5_add, .instanceMethod yX5_add, .selects RX5 yX5_add yX5_add, .initialized RX5, .code yX5_add cX5_add 3 (some .int), .fieldLink RX5 15 "CastDesk$Wardrobe" "parts" "[I", .fieldLink RX5 22 "CastDesk$Wardrobe" "count" "I", .fieldLink RX5 9 "CastDesk$Wardrobe" "sizes" "[I"] ++ wsX60 ++ wsX50 ++ (vx_atS RX6 99 "java/lang/IllegalStateException" ["java/lang/RuntimeException", "java/lang/Exception"]).filter goodWord ++ (vx_atS RX6 219 "java/lang/IndexOutOfBoundsException" ["java/lang/RuntimeException", "java/lang/Exception"]).filter goodWord ++ (vx_atS RX6 62 "java/lang/IllegalArgumentException" ["java/lang/RuntimeException", "java/lang/Exception"]).filter goodWord)
def wsX6_needOneOf : List Cond := .code yX6_needOneOf cX6_needOneOf 2 none :: ([.classLink RX6 215 "java/lang/IndexOutOfBoundsException", .initialized "java/lang/IndexOutOfBoundsException"] ++ (vx_atS RX6 219 "java/lang/IndexOutOfBoundsException" ["java/lang/RuntimeException", "java/lang/Exception"]).filter goodWord)
def wsX6_sizeOf : List Cond := .code yX6_sizeOf cX6_sizeOf 2 (some .int) :: ([.fieldLink RX6 26 "CastDesk" "wardrobe" "LCastDesk$Wardrobe;", .fieldLink RX6 120 "CastDesk$Wardrobe" "count" "I", .fieldLink RX6 131 "CastDesk$Wardrobe" "sizes" "[I", .methodLink RX6 128 yX6_needOneOf, .static yX6_needOneOf, .initialized RX6, .code yX6_needOneOf cX6_needOneOf 2 none, .classLink RX6 215 "java/lang/IndexOutOfBoundsException", .initialized "java/lang/IndexOutOfBoundsException"] ++ wsX60 ++ wsX50 ++ (vx_atS RX6 219 "java/lang/IndexOutOfBoundsException" ["java/lang/RuntimeException", "java/lang/Exception"]).filter goodWord)
def wsX6_needDay : List Cond := .code yX6_needDay cX6_needDay 2 none :: ([.classLink RX6 58 "java/lang/IllegalArgumentException", .initialized "java/lang/IllegalArgumentException"] ++ (vx_atS RX6 62 "java/lang/IllegalArgumentException" ["java/lang/RuntimeException", "java/lang/Exception"]).filter goodWord)
def wsX6_cold : List Cond := .code yX6_cold cX6_cold 4 (some .int) :: ([.fieldLink RX6 55 "CastDesk" "today" "I", .fieldLink RX6 10 "CastDesk" "troupe" "LCastDesk$Troupe;", .methodLink RX6 65 yX6_needActor, .static yX6_needActor, .initialized RX6, .code yX6_needActor cX6_needActor 1 none, .classLink RX6 215 "java/lang/IndexOutOfBoundsException", .initialized "java/lang/IndexOutOfBoundsException", .methodLink RX6 132 yX6_needDay, .static yX6_needDay, .code yX6_needDay cX6_needDay 2 none, .classLink RX6 58 "java/lang/IllegalArgumentException", .initialized "java/lang/IllegalArgumentException", .methodLink RX6 135 yX4_fallIll, .instanceMethod yX4_fallIll, .selects RX4 yX4_fallIll yX4_fallIll, .initialized RX4, .code yX4_fallIll cX4_fallIll 6 (some .int), .fieldLink RX4 18 "CastDesk$Troupe" "ill" "[I", .static yX6_has, .code yX6_has cX6_has 2 (some .boolean), .static yX6_with, .code yX6_with cX6_with 2 (some .int)] ++ wsX60 ++ wsX40 ++ (vx_atS RX6 219 "java/lang/IndexOutOfBoundsException" ["java/lang/RuntimeException", "java/lang/Exception"]).filter goodWord ++ (vx_atS RX6 62 "java/lang/IllegalArgumentException" ["java/lang/RuntimeException", "java/lang/Exception"]).filter goodWord)
def wsX6_isIll : List Cond := .code yX6_isIll cX6_isIll 3 (some .boolean) :: ([.fieldLink RX6 10 "CastDesk" "troupe" "LCastDesk$Troupe;", .fieldLink RX6 139 "CastDesk$Troupe" "ill" "[I", .methodLink RX6 65 yX6_needActor, .static yX6_needActor, .initialized RX6, .code yX6_needActor cX6_needActor 1 none, .classLink RX6 215 "java/lang/IndexOutOfBoundsException", .initialized "java/lang/IndexOutOfBoundsException", .methodLink RX6 132 yX6_needDay, .static yX6_needDay, .code yX6_needDay cX6_needDay 2 none, .classLink RX6 58 "java/lang/IllegalArgumentException", .initialized "java/lang/IllegalArgumentException", .methodLink RX6 142 yX6_has, .static yX6_has, .code yX6_has cX6_has 2 (some .boolean)] ++ wsX60 ++ wsX40 ++ (vx_atS RX6 219 "java/lang/IndexOutOfBoundsException" ["java/lang/RuntimeException", "java/lang/Exception"]).filter goodWord ++ (vx_atS RX6 62 "java/lang/IllegalArgumentException" ["java/lang/RuntimeException", "java/lang/Exception"]).filter goodWord)
def wsX6_isReady : List Cond := .code yX6_isReady cX6_isReady 5 (some .boolean) :: ([.fieldLink RX6 10 "CastDesk" "troupe" "LCastDesk$Troupe;", .fieldLink RX6 72 "CastDesk$Troupe" "sizes" "[I", .fieldLink RX6 79 "CastDesk$Troupe" "known" "[I", .fieldLink RX6 26 "CastDesk" "wardrobe" "LCastDesk$Wardrobe;", .methodLink RX6 142 yX6_has, .static yX6_has, .initialized RX6, .code yX6_has cX6_has 2 (some .boolean), .methodLink RX6 228 yX5_lowestFitting, .instanceMethod yX5_lowestFitting, .selects RX5 yX5_lowestFitting yX5_lowestFitting, .initialized RX5, .code yX5_lowestFitting cX5_lowestFitting 4 (some .int), .fieldLink RX5 22 "CastDesk$Wardrobe" "count" "I", .fieldLink RX5 15 "CastDesk$Wardrobe" "parts" "[I", .fieldLink RX5 9 "CastDesk$Wardrobe" "sizes" "[I", .methodLink RX6 231 yX5_lowestToLetOut, .instanceMethod yX5_lowestToLetOut, .selects RX5 yX5_lowestToLetOut yX5_lowestToLetOut, .code yX5_lowestToLetOut cX5_lowestToLetOut 4 (some .int), .fieldLink RX5 18 "CastDesk$Wardrobe" "isLetOut" "[Z"] ++ wsX60 ++ wsX40 ++ wsX50)
def wsX6_canPlay_r1 : List Cond := [Cond.fieldLink RX6 19 "CastDesk" "rows" "LCastDesk$Rows;", Cond.fieldLink RX6 10 "CastDesk" "troupe" "LCastDesk$Troupe;", Cond.fieldLink RX6 139 "CastDesk$Troupe" "ill" "[I", Cond.methodLink RX6 65 yX6_needActor, Cond.static yX6_needActor, Cond.initialized RX6, Cond.code yX6_needActor cX6_needActor 1 none, Cond.classLink RX6 215 "java/lang/IndexOutOfBoundsException", Cond.initialized "java/lang/IndexOutOfBoundsException", Cond.methodLink RX6 76 yX6_needPart, Cond.static yX6_needPart, Cond.code yX6_needPart cX6_needPart 1 none, Cond.methodLink RX6 132 yX6_needDay, Cond.static yX6_needDay, Cond.code yX6_needDay cX6_needDay 2 none, Cond.classLink RX6 58 "java/lang/IllegalArgumentException", Cond.initialized "java/lang/IllegalArgumentException", Cond.methodLink RX6 100 yX3_rankIn, Cond.instanceMethod yX3_rankIn, Cond.selects RX3 yX3_rankIn yX3_rankIn, Cond.initialized RX3, Cond.code yX3_rankIn cX3_rankIn 4 (some .int), Cond.fieldLink RX3 15 "CastDesk$Rows" "lengths" "[I", Cond.fieldLink RX3 9 "CastDesk$Rows" "actors" "[I"]
def wsX6_canPlay_r2 : List Cond := [Cond.methodLink RX6 146 yX6_isReady, Cond.instanceMethod yX6_isReady, Cond.selects RX6 yX6_isReady yX6_isReady, Cond.code yX6_isReady cX6_isReady 5 (some .boolean), Cond.fieldLink RX6 72 "CastDesk$Troupe" "sizes" "[I", Cond.fieldLink RX6 79 "CastDesk$Troupe" "known" "[I", Cond.fieldLink RX6 26 "CastDesk" "wardrobe" "LCastDesk$Wardrobe;", Cond.methodLink RX6 142 yX6_has, Cond.static yX6_has, Cond.code yX6_has cX6_has 2 (some .boolean), Cond.methodLink RX6 228 yX5_lowestFitting, Cond.instanceMethod yX5_lowestFitting, Cond.selects RX5 yX5_lowestFitting yX5_lowestFitting, Cond.initialized RX5, Cond.code yX5_lowestFitting cX5_lowestFitting 4 (some .int), Cond.fieldLink RX5 22 "CastDesk$Wardrobe" "count" "I", Cond.fieldLink RX5 15 "CastDesk$Wardrobe" "parts" "[I", Cond.fieldLink RX5 9 "CastDesk$Wardrobe" "sizes" "[I", Cond.methodLink RX6 231 yX5_lowestToLetOut, Cond.instanceMethod yX5_lowestToLetOut, Cond.selects RX5 yX5_lowestToLetOut yX5_lowestToLetOut, Cond.code yX5_lowestToLetOut cX5_lowestToLetOut 4 (some .int), Cond.fieldLink RX5 18 "CastDesk$Wardrobe" "isLetOut" "[Z"]
def wsX6_canPlay : List Cond := .code yX6_canPlay cX6_canPlay 4 (some .boolean) :: ((wsX6_canPlay_r1 ++ wsX6_canPlay_r2) ++ wsX60 ++ wsX40 ++ wsX30 ++ wsX50 ++ (vx_atS RX6 219 "java/lang/IndexOutOfBoundsException" ["java/lang/RuntimeException", "java/lang/Exception"]).filter goodWord ++ (vx_atS RX6 62 "java/lang/IllegalArgumentException" ["java/lang/RuntimeException", "java/lang/Exception"]).filter goodWord)
def wsX6_offerActors_r1 : List Cond := [Cond.fieldLink RX6 33 "CastDesk" "casting" "LCastDesk$Casting;", Cond.fieldLink RX6 51 "CastDesk" "partCount" "I", Cond.fieldLink RX6 19 "CastDesk" "rows" "LCastDesk$Rows;", Cond.fieldLink RX6 26 "CastDesk" "wardrobe" "LCastDesk$Wardrobe;", Cond.fieldLink RX6 10 "CastDesk" "troupe" "LCastDesk$Troupe;", Cond.fieldLink RX6 72 "CastDesk$Troupe" "sizes" "[I", Cond.methodLink RX6 234 yX1_clear, Cond.instanceMethod yX1_clear, Cond.selects RX1 yX1_clear yX1_clear, Cond.initialized RX1, Cond.code yX1_clear cX1_clear 2 none, Cond.fieldLink RX1 11 "CastDesk$Casting" "actors" "[I", Cond.fieldLink RX1 25 "CastDesk$Casting" "setsBound" "I", Cond.methodLink RX6 193 yX3_actorAt, Cond.instanceMethod yX3_actorAt, Cond.selects RX3 yX3_actorAt yX3_actorAt, Cond.initialized RX3, Cond.code yX3_actorAt cX3_actorAt 3 (some .int), Cond.fieldLink RX3 15 "CastDesk$Rows" "lengths" "[I", Cond.fieldLink RX3 9 "CastDesk$Rows" "actors" "[I", Cond.methodLink RX6 146 yX6_isReady, Cond.instanceMethod yX6_isReady, Cond.selects RX6 yX6_isReady yX6_isReady, Cond.initialized RX6]
def wsX6_offerActors_r2 : List Cond := [Cond.code yX6_isReady cX6_isReady 5 (some .boolean), Cond.fieldLink RX6 79 "CastDesk$Troupe" "known" "[I", Cond.methodLink RX6 142 yX6_has, Cond.static yX6_has, Cond.code yX6_has cX6_has 2 (some .boolean), Cond.methodLink RX6 228 yX5_lowestFitting, Cond.instanceMethod yX5_lowestFitting, Cond.selects RX5 yX5_lowestFitting yX5_lowestFitting, Cond.initialized RX5, Cond.code yX5_lowestFitting cX5_lowestFitting 4 (some .int), Cond.fieldLink RX5 22 "CastDesk$Wardrobe" "count" "I", Cond.fieldLink RX5 15 "CastDesk$Wardrobe" "parts" "[I", Cond.fieldLink RX5 9 "CastDesk$Wardrobe" "sizes" "[I", Cond.methodLink RX6 231 yX5_lowestToLetOut, Cond.instanceMethod yX5_lowestToLetOut, Cond.selects RX5 yX5_lowestToLetOut yX5_lowestToLetOut, Cond.code yX5_lowestToLetOut cX5_lowestToLetOut 4 (some .int), Cond.fieldLink RX5 18 "CastDesk$Wardrobe" "isLetOut" "[Z", Cond.methodLink RX6 237 yX1_offer, Cond.instanceMethod yX1_offer, Cond.selects RX1 yX1_offer yX1_offer, Cond.code yX1_offer cX1_offer 6 none, Cond.fieldLink RX1 15 "CastDesk$Casting" "keys" "[I", Cond.methodLink RX1 29 Lib.Math.max.name]
def wsX6_offerActors_r3 : List Cond := [Cond.static Lib.Math.max.name, Cond.initialized "java/lang/Math", Cond.code Lib.Math.max.name Lib.Math.max.code 2 (some .int), Cond.methodLink RX1 21 yX1_rankShift, Cond.static yX1_rankShift, Cond.code yX1_rankShift cX1_rankShift 1 (some .int)]
def wsX6_offerActors : List Cond := .code yX6_offerActors cX6_offerActors 6 none :: ((wsX6_offerActors_r1 ++ (wsX6_offerActors_r2 ++ wsX6_offerActors_r3)) ++ wsX60 ++ wsX40 ++ wsX10 ++ wsX30 ++ wsX50)
def wsX6_bestCast_r1 : List Cond := [Cond.fieldLink RX6 33 "CastDesk" "casting" "LCastDesk$Casting;", Cond.fieldLink RX6 51 "CastDesk" "partCount" "I", Cond.methodLink RX6 156 yX6_offerActors, Cond.instanceMethod yX6_offerActors, Cond.selects RX6 yX6_offerActors yX6_offerActors, Cond.initialized RX6, Cond.code yX6_offerActors cX6_offerActors 6 none, Cond.fieldLink RX6 19 "CastDesk" "rows" "LCastDesk$Rows;", Cond.fieldLink RX6 26 "CastDesk" "wardrobe" "LCastDesk$Wardrobe;", Cond.fieldLink RX6 10 "CastDesk" "troupe" "LCastDesk$Troupe;", Cond.fieldLink RX6 72 "CastDesk$Troupe" "sizes" "[I", Cond.methodLink RX6 234 yX1_clear, Cond.instanceMethod yX1_clear, Cond.selects RX1 yX1_clear yX1_clear, Cond.initialized RX1, Cond.code yX1_clear cX1_clear 2 none, Cond.fieldLink RX1 11 "CastDesk$Casting" "actors" "[I", Cond.fieldLink RX1 25 "CastDesk$Casting" "setsBound" "I", Cond.methodLink RX6 193 yX3_actorAt, Cond.instanceMethod yX3_actorAt, Cond.selects RX3 yX3_actorAt yX3_actorAt, Cond.initialized RX3, Cond.code yX3_actorAt cX3_actorAt 3 (some .int), Cond.fieldLink RX3 15 "CastDesk$Rows" "lengths" "[I"]
def wsX6_bestCast_r2 : List Cond := [Cond.fieldLink RX3 9 "CastDesk$Rows" "actors" "[I", Cond.methodLink RX6 146 yX6_isReady, Cond.instanceMethod yX6_isReady, Cond.selects RX6 yX6_isReady yX6_isReady, Cond.code yX6_isReady cX6_isReady 5 (some .boolean), Cond.fieldLink RX6 79 "CastDesk$Troupe" "known" "[I", Cond.methodLink RX6 142 yX6_has, Cond.static yX6_has, Cond.code yX6_has cX6_has 2 (some .boolean), Cond.methodLink RX6 228 yX5_lowestFitting, Cond.instanceMethod yX5_lowestFitting, Cond.selects RX5 yX5_lowestFitting yX5_lowestFitting, Cond.initialized RX5, Cond.code yX5_lowestFitting cX5_lowestFitting 4 (some .int), Cond.fieldLink RX5 22 "CastDesk$Wardrobe" "count" "I", Cond.fieldLink RX5 15 "CastDesk$Wardrobe" "parts" "[I", Cond.fieldLink RX5 9 "CastDesk$Wardrobe" "sizes" "[I", Cond.methodLink RX6 231 yX5_lowestToLetOut, Cond.instanceMethod yX5_lowestToLetOut, Cond.selects RX5 yX5_lowestToLetOut yX5_lowestToLetOut, Cond.code yX5_lowestToLetOut cX5_lowestToLetOut 4 (some .int), Cond.fieldLink RX5 18 "CastDesk$Wardrobe" "isLetOut" "[Z", Cond.methodLink RX6 237 yX1_offer, Cond.instanceMethod yX1_offer]
def wsX6_bestCast_r3 : List Cond := [Cond.selects RX1 yX1_offer yX1_offer, Cond.code yX1_offer cX1_offer 6 none, Cond.fieldLink RX1 15 "CastDesk$Casting" "keys" "[I", Cond.methodLink RX1 29 Lib.Math.max.name, Cond.static Lib.Math.max.name, Cond.initialized "java/lang/Math", Cond.code Lib.Math.max.name Lib.Math.max.code 2 (some .int), Cond.methodLink RX1 21 yX1_rankShift, Cond.static yX1_rankShift, Cond.code yX1_rankShift cX1_rankShift 1 (some .int), Cond.methodLink RX6 241 yX1_leastKey, Cond.instanceMethod yX1_leastKey, Cond.selects RX1 yX1_leastKey yX1_leastKey, Cond.code yX1_leastKey cX1_leastKey 6 (some .int), Cond.fieldLink RX1 18 "CastDesk$Casting" "leastOfSet" "[I", Cond.methodLink RX1 35 yJ6_bitCount_0f7a4, Cond.static yJ6_bitCount_0f7a4, Cond.initialized RJ6, Cond.code yJ6_bitCount_0f7a4 cJ6_bitCount_0f7a4 1 (some .int), Cond.constant RJ6 265 (1431655765), Cond.constant RJ6 266 (858993459), Cond.constant RJ6 267 (252645135), Cond.methodLink RX1 40 yX1_castPart, Cond.instanceMethod yX1_castPart]
def wsX6_bestCast_r4 : List Cond := [Cond.selects RX1 yX1_castPart yX1_castPart, Cond.code yX1_castPart cX1_castPart 9 none, Cond.static yX6_with, Cond.code yX6_with cX6_with 2 (some .int)]
def wsX6_bestCast : List Cond := .code yX6_bestCast cX6_bestCast 2 (some .int) :: ((wsX6_bestCast_r1 ++ (wsX6_bestCast_r2 ++ (wsX6_bestCast_r3 ++ wsX6_bestCast_r4))) ++ wsX60 ++ wsX40 ++ wsX10 ++ wsX30 ++ wsX50)
def wsX6_strain_r1 : List Cond := [Cond.fieldLink RX6 10 "CastDesk" "troupe" "LCastDesk$Troupe;", Cond.fieldLink RX6 139 "CastDesk$Troupe" "ill" "[I", Cond.methodLink RX6 132 yX6_needDay, Cond.static yX6_needDay, Cond.initialized RX6, Cond.code yX6_needDay cX6_needDay 2 none, Cond.classLink RX6 58 "java/lang/IllegalArgumentException", Cond.initialized "java/lang/IllegalArgumentException", Cond.methodLink RX6 150 yX6_bestCast, Cond.instanceMethod yX6_bestCast, Cond.selects RX6 yX6_bestCast yX6_bestCast, Cond.code yX6_bestCast cX6_bestCast 2 (some .int), Cond.fieldLink RX6 33 "CastDesk" "casting" "LCastDesk$Casting;", Cond.fieldLink RX6 51 "CastDesk" "partCount" "I", Cond.methodLink RX6 156 yX6_offerActors, Cond.instanceMethod yX6_offerActors, Cond.selects RX6 yX6_offerActors yX6_offerActors, Cond.code yX6_offerActors cX6_offerActors 6 none, Cond.fieldLink RX6 19 "CastDesk" "rows" "LCastDesk$Rows;", Cond.fieldLink RX6 26 "CastDesk" "wardrobe" "LCastDesk$Wardrobe;", Cond.fieldLink RX6 72 "CastDesk$Troupe" "sizes" "[I", Cond.methodLink RX6 234 yX1_clear, Cond.instanceMethod yX1_clear, Cond.selects RX1 yX1_clear yX1_clear]
def wsX6_strain_r2 : List Cond := [Cond.initialized RX1, Cond.code yX1_clear cX1_clear 2 none, Cond.fieldLink RX1 11 "CastDesk$Casting" "actors" "[I", Cond.fieldLink RX1 25 "CastDesk$Casting" "setsBound" "I", Cond.methodLink RX6 193 yX3_actorAt, Cond.instanceMethod yX3_actorAt, Cond.selects RX3 yX3_actorAt yX3_actorAt, Cond.initialized RX3, Cond.code yX3_actorAt cX3_actorAt 3 (some .int), Cond.fieldLink RX3 15 "CastDesk$Rows" "lengths" "[I", Cond.fieldLink RX3 9 "CastDesk$Rows" "actors" "[I", Cond.methodLink RX6 146 yX6_isReady, Cond.instanceMethod yX6_isReady, Cond.selects RX6 yX6_isReady yX6_isReady, Cond.code yX6_isReady cX6_isReady 5 (some .boolean), Cond.fieldLink RX6 79 "CastDesk$Troupe" "known" "[I", Cond.methodLink RX6 142 yX6_has, Cond.static yX6_has, Cond.code yX6_has cX6_has 2 (some .boolean), Cond.methodLink RX6 228 yX5_lowestFitting, Cond.instanceMethod yX5_lowestFitting, Cond.selects RX5 yX5_lowestFitting yX5_lowestFitting, Cond.initialized RX5, Cond.code yX5_lowestFitting cX5_lowestFitting 4 (some .int)]
def wsX6_strain_r3 : List Cond := [Cond.fieldLink RX5 22 "CastDesk$Wardrobe" "count" "I", Cond.fieldLink RX5 15 "CastDesk$Wardrobe" "parts" "[I", Cond.fieldLink RX5 9 "CastDesk$Wardrobe" "sizes" "[I", Cond.methodLink RX6 231 yX5_lowestToLetOut, Cond.instanceMethod yX5_lowestToLetOut, Cond.selects RX5 yX5_lowestToLetOut yX5_lowestToLetOut, Cond.code yX5_lowestToLetOut cX5_lowestToLetOut 4 (some .int), Cond.fieldLink RX5 18 "CastDesk$Wardrobe" "isLetOut" "[Z", Cond.methodLink RX6 237 yX1_offer, Cond.instanceMethod yX1_offer, Cond.selects RX1 yX1_offer yX1_offer, Cond.code yX1_offer cX1_offer 6 none, Cond.fieldLink RX1 15 "CastDesk$Casting" "keys" "[I", Cond.methodLink RX1 29 Lib.Math.max.name, Cond.static Lib.Math.max.name, Cond.initialized "java/lang/Math", Cond.code Lib.Math.max.name Lib.Math.max.code 2 (some .int), Cond.methodLink RX1 21 yX1_rankShift, Cond.static yX1_rankShift, Cond.code yX1_rankShift cX1_rankShift 1 (some .int), Cond.methodLink RX6 241 yX1_leastKey, Cond.instanceMethod yX1_leastKey, Cond.selects RX1 yX1_leastKey yX1_leastKey, Cond.code yX1_leastKey cX1_leastKey 6 (some .int)]
def wsX6_strain_r4 : List Cond := [Cond.fieldLink RX1 18 "CastDesk$Casting" "leastOfSet" "[I", Cond.methodLink RX1 35 yJ6_bitCount_0f7a4, Cond.static yJ6_bitCount_0f7a4, Cond.initialized RJ6, Cond.code yJ6_bitCount_0f7a4 cJ6_bitCount_0f7a4 1 (some .int), Cond.constant RJ6 265 (1431655765), Cond.constant RJ6 266 (858993459), Cond.constant RJ6 267 (252645135), Cond.methodLink RX1 40 yX1_castPart, Cond.instanceMethod yX1_castPart, Cond.selects RX1 yX1_castPart yX1_castPart, Cond.code yX1_castPart cX1_castPart 9 none, Cond.static yX6_with, Cond.code yX6_with cX6_with 2 (some .int), Cond.methodLink RX6 153 yX1_strainOf, Cond.static yX1_strainOf, Cond.code yX1_strainOf cX1_strainOf 1 (some .int)]
def wsX6_strain : List Cond := .code yX6_strain cX6_strain 3 (some .int) :: ((wsX6_strain_r1 ++ (wsX6_strain_r2 ++ (wsX6_strain_r3 ++ wsX6_strain_r4))) ++ wsX60 ++ wsX40 ++ wsX10 ++ wsX30 ++ wsX50 ++ (vx_atS RX6 62 "java/lang/IllegalArgumentException" ["java/lang/RuntimeException", "java/lang/Exception"]).filter goodWord)
def wsX6_strainByAll_r1 : List Cond := [Cond.fieldLink RX6 10 "CastDesk" "troupe" "LCastDesk$Troupe;", Cond.fieldLink RX6 139 "CastDesk$Troupe" "ill" "[I", Cond.fieldLink RX6 33 "CastDesk" "casting" "LCastDesk$Casting;", Cond.fieldLink RX6 51 "CastDesk" "partCount" "I", Cond.methodLink RX6 132 yX6_needDay, Cond.static yX6_needDay, Cond.initialized RX6, Cond.code yX6_needDay cX6_needDay 2 none, Cond.classLink RX6 58 "java/lang/IllegalArgumentException", Cond.initialized "java/lang/IllegalArgumentException", Cond.methodLink RX6 156 yX6_offerActors, Cond.instanceMethod yX6_offerActors, Cond.selects RX6 yX6_offerActors yX6_offerActors, Cond.code yX6_offerActors cX6_offerActors 6 none, Cond.fieldLink RX6 19 "CastDesk" "rows" "LCastDesk$Rows;", Cond.fieldLink RX6 26 "CastDesk" "wardrobe" "LCastDesk$Wardrobe;", Cond.fieldLink RX6 72 "CastDesk$Troupe" "sizes" "[I", Cond.methodLink RX6 234 yX1_clear, Cond.instanceMethod yX1_clear, Cond.selects RX1 yX1_clear yX1_clear, Cond.initialized RX1, Cond.code yX1_clear cX1_clear 2 none, Cond.fieldLink RX1 11 "CastDesk$Casting" "actors" "[I", Cond.fieldLink RX1 25 "CastDesk$Casting" "setsBound" "I"]
def wsX6_strainByAll_r2 : List Cond := [Cond.methodLink RX6 193 yX3_actorAt, Cond.instanceMethod yX3_actorAt, Cond.selects RX3 yX3_actorAt yX3_actorAt, Cond.initialized RX3, Cond.code yX3_actorAt cX3_actorAt 3 (some .int), Cond.fieldLink RX3 15 "CastDesk$Rows" "lengths" "[I", Cond.fieldLink RX3 9 "CastDesk$Rows" "actors" "[I", Cond.methodLink RX6 146 yX6_isReady, Cond.instanceMethod yX6_isReady, Cond.selects RX6 yX6_isReady yX6_isReady, Cond.code yX6_isReady cX6_isReady 5 (some .boolean), Cond.fieldLink RX6 79 "CastDesk$Troupe" "known" "[I", Cond.methodLink RX6 142 yX6_has, Cond.static yX6_has, Cond.code yX6_has cX6_has 2 (some .boolean), Cond.methodLink RX6 228 yX5_lowestFitting, Cond.instanceMethod yX5_lowestFitting, Cond.selects RX5 yX5_lowestFitting yX5_lowestFitting, Cond.initialized RX5, Cond.code yX5_lowestFitting cX5_lowestFitting 4 (some .int), Cond.fieldLink RX5 22 "CastDesk$Wardrobe" "count" "I", Cond.fieldLink RX5 15 "CastDesk$Wardrobe" "parts" "[I", Cond.fieldLink RX5 9 "CastDesk$Wardrobe" "sizes" "[I", Cond.methodLink RX6 231 yX5_lowestToLetOut]
def wsX6_strainByAll_r3 : List Cond := [Cond.instanceMethod yX5_lowestToLetOut, Cond.selects RX5 yX5_lowestToLetOut yX5_lowestToLetOut, Cond.code yX5_lowestToLetOut cX5_lowestToLetOut 4 (some .int), Cond.fieldLink RX5 18 "CastDesk$Wardrobe" "isLetOut" "[Z", Cond.methodLink RX6 237 yX1_offer, Cond.instanceMethod yX1_offer, Cond.selects RX1 yX1_offer yX1_offer, Cond.code yX1_offer cX1_offer 6 none, Cond.fieldLink RX1 15 "CastDesk$Casting" "keys" "[I", Cond.methodLink RX1 29 Lib.Math.max.name, Cond.static Lib.Math.max.name, Cond.initialized "java/lang/Math", Cond.code Lib.Math.max.name Lib.Math.max.code 2 (some .int), Cond.methodLink RX1 21 yX1_rankShift, Cond.static yX1_rankShift, Cond.code yX1_rankShift cX1_rankShift 1 (some .int), Cond.methodLink RX6 159 yX1_leastStrain, Cond.instanceMethod yX1_leastStrain, Cond.selects RX1 yX1_leastStrain yX1_leastStrain, Cond.code yX1_leastStrain cX1_leastStrain 2 (some .int), Cond.methodLink RX1 51 yX1_leastFrom, Cond.static yX1_leastFrom, Cond.code yX1_leastFrom cX1_leastFrom 8 (some .int), Cond.static yX6_with]
def wsX6_strainByAll_r4 : List Cond := [Cond.code yX6_with cX6_with 2 (some .int)]
def wsX6_strainByAll : List Cond := .code yX6_strainByAll cX6_strainByAll 2 (some .int) :: ((wsX6_strainByAll_r1 ++ (wsX6_strainByAll_r2 ++ (wsX6_strainByAll_r3 ++ wsX6_strainByAll_r4))) ++ wsX60 ++ wsX40 ++ wsX10 ++ wsX30 ++ wsX50 ++ (vx_atS RX6 62 "java/lang/IllegalArgumentException" ["java/lang/RuntimeException", "java/lang/Exception"]).filter goodWord)
def wsX6_work_r1 : List Cond := [Cond.fieldLink RX6 10 "CastDesk" "troupe" "LCastDesk$Troupe;", Cond.fieldLink RX6 139 "CastDesk$Troupe" "ill" "[I", Cond.methodLink RX6 132 yX6_needDay, Cond.static yX6_needDay, Cond.initialized RX6, Cond.code yX6_needDay cX6_needDay 2 none, Cond.classLink RX6 58 "java/lang/IllegalArgumentException", Cond.initialized "java/lang/IllegalArgumentException", Cond.methodLink RX6 150 yX6_bestCast, Cond.instanceMethod yX6_bestCast, Cond.selects RX6 yX6_bestCast yX6_bestCast, Cond.code yX6_bestCast cX6_bestCast 2 (some .int), Cond.fieldLink RX6 33 "CastDesk" "casting" "LCastDesk$Casting;", Cond.fieldLink RX6 51 "CastDesk" "partCount" "I", Cond.methodLink RX6 156 yX6_offerActors, Cond.instanceMethod yX6_offerActors, Cond.selects RX6 yX6_offerActors yX6_offerActors, Cond.code yX6_offerActors cX6_offerActors 6 none, Cond.fieldLink RX6 19 "CastDesk" "rows" "LCastDesk$Rows;", Cond.fieldLink RX6 26 "CastDesk" "wardrobe" "LCastDesk$Wardrobe;", Cond.fieldLink RX6 72 "CastDesk$Troupe" "sizes" "[I", Cond.methodLink RX6 234 yX1_clear, Cond.instanceMethod yX1_clear, Cond.selects RX1 yX1_clear yX1_clear]
def wsX6_work_r2 : List Cond := [Cond.initialized RX1, Cond.code yX1_clear cX1_clear 2 none, Cond.fieldLink RX1 11 "CastDesk$Casting" "actors" "[I", Cond.fieldLink RX1 25 "CastDesk$Casting" "setsBound" "I", Cond.methodLink RX6 193 yX3_actorAt, Cond.instanceMethod yX3_actorAt, Cond.selects RX3 yX3_actorAt yX3_actorAt, Cond.initialized RX3, Cond.code yX3_actorAt cX3_actorAt 3 (some .int), Cond.fieldLink RX3 15 "CastDesk$Rows" "lengths" "[I", Cond.fieldLink RX3 9 "CastDesk$Rows" "actors" "[I", Cond.methodLink RX6 146 yX6_isReady, Cond.instanceMethod yX6_isReady, Cond.selects RX6 yX6_isReady yX6_isReady, Cond.code yX6_isReady cX6_isReady 5 (some .boolean), Cond.fieldLink RX6 79 "CastDesk$Troupe" "known" "[I", Cond.methodLink RX6 142 yX6_has, Cond.static yX6_has, Cond.code yX6_has cX6_has 2 (some .boolean), Cond.methodLink RX6 228 yX5_lowestFitting, Cond.instanceMethod yX5_lowestFitting, Cond.selects RX5 yX5_lowestFitting yX5_lowestFitting, Cond.initialized RX5, Cond.code yX5_lowestFitting cX5_lowestFitting 4 (some .int)]
def wsX6_work_r3 : List Cond := [Cond.fieldLink RX5 22 "CastDesk$Wardrobe" "count" "I", Cond.fieldLink RX5 15 "CastDesk$Wardrobe" "parts" "[I", Cond.fieldLink RX5 9 "CastDesk$Wardrobe" "sizes" "[I", Cond.methodLink RX6 231 yX5_lowestToLetOut, Cond.instanceMethod yX5_lowestToLetOut, Cond.selects RX5 yX5_lowestToLetOut yX5_lowestToLetOut, Cond.code yX5_lowestToLetOut cX5_lowestToLetOut 4 (some .int), Cond.fieldLink RX5 18 "CastDesk$Wardrobe" "isLetOut" "[Z", Cond.methodLink RX6 237 yX1_offer, Cond.instanceMethod yX1_offer, Cond.selects RX1 yX1_offer yX1_offer, Cond.code yX1_offer cX1_offer 6 none, Cond.fieldLink RX1 15 "CastDesk$Casting" "keys" "[I", Cond.methodLink RX1 29 Lib.Math.max.name, Cond.static Lib.Math.max.name, Cond.initialized "java/lang/Math", Cond.code Lib.Math.max.name Lib.Math.max.code 2 (some .int), Cond.methodLink RX1 21 yX1_rankShift, Cond.static yX1_rankShift, Cond.code yX1_rankShift cX1_rankShift 1 (some .int), Cond.methodLink RX6 241 yX1_leastKey, Cond.instanceMethod yX1_leastKey, Cond.selects RX1 yX1_leastKey yX1_leastKey, Cond.code yX1_leastKey cX1_leastKey 6 (some .int)]
def wsX6_work_r4 : List Cond := [Cond.fieldLink RX1 18 "CastDesk$Casting" "leastOfSet" "[I", Cond.methodLink RX1 35 yJ6_bitCount_0f7a4, Cond.static yJ6_bitCount_0f7a4, Cond.initialized RJ6, Cond.code yJ6_bitCount_0f7a4 cJ6_bitCount_0f7a4 1 (some .int), Cond.constant RJ6 265 (1431655765), Cond.constant RJ6 266 (858993459), Cond.constant RJ6 267 (252645135), Cond.methodLink RX1 40 yX1_castPart, Cond.instanceMethod yX1_castPart, Cond.selects RX1 yX1_castPart yX1_castPart, Cond.code yX1_castPart cX1_castPart 9 none, Cond.static yX6_with, Cond.code yX6_with cX6_with 2 (some .int), Cond.methodLink RX6 162 yX1_workOf, Cond.static yX1_workOf, Cond.code yX1_workOf cX1_workOf 1 (some .int)]
def wsX6_work : List Cond := .code yX6_work cX6_work 3 (some .int) :: ((wsX6_work_r1 ++ (wsX6_work_r2 ++ (wsX6_work_r3 ++ wsX6_work_r4))) ++ wsX60 ++ wsX40 ++ wsX10 ++ wsX30 ++ wsX50 ++ (vx_atS RX6 62 "java/lang/IllegalArgumentException" ["java/lang/RuntimeException", "java/lang/Exception"]).filter goodWord)
def wsX6_actorIn : List Cond := .code yX6_actorIn cX6_actorIn 3 (some .int) :: ([.fieldLink RX6 19 "CastDesk" "rows" "LCastDesk$Rows;", .methodLink RX6 244 yX1_rankOf, .static yX1_rankOf, .initialized RX1, .code yX1_rankOf cX1_rankOf 2 (some .int), .methodLink RX1 21 yX1_rankShift, .static yX1_rankShift, .code yX1_rankShift cX1_rankShift 1 (some .int), .methodLink RX6 193 yX3_actorAt, .instanceMethod yX3_actorAt, .selects RX3 yX3_actorAt yX3_actorAt, .initialized RX3, .code yX3_actorAt cX3_actorAt 3 (some .int), .fieldLink RX3 15 "CastDesk$Rows" "lengths" "[I", .fieldLink RX3 9 "CastDesk$Rows" "actors" "[I"] ++ wsX60 ++ wsX30)
def wsX6_actorFor_r1 : List Cond := [Cond.fieldLink RX6 10 "CastDesk" "troupe" "LCastDesk$Troupe;", Cond.fieldLink RX6 139 "CastDesk$Troupe" "ill" "[I", Cond.fieldLink RX6 51 "CastDesk" "partCount" "I", Cond.methodLink RX6 76 yX6_needPart, Cond.static yX6_needPart, Cond.initialized RX6, Cond.code yX6_needPart cX6_needPart 1 none, Cond.classLink RX6 215 "java/lang/IndexOutOfBoundsException", Cond.initialized "java/lang/IndexOutOfBoundsException", Cond.methodLink RX6 132 yX6_needDay, Cond.static yX6_needDay, Cond.code yX6_needDay cX6_needDay 2 none, Cond.classLink RX6 58 "java/lang/IllegalArgumentException", Cond.initialized "java/lang/IllegalArgumentException", Cond.methodLink RX6 150 yX6_bestCast, Cond.instanceMethod yX6_bestCast, Cond.selects RX6 yX6_bestCast yX6_bestCast, Cond.code yX6_bestCast cX6_bestCast 2 (some .int), Cond.fieldLink RX6 33 "CastDesk" "casting" "LCastDesk$Casting;", Cond.methodLink RX6 156 yX6_offerActors, Cond.instanceMethod yX6_offerActors, Cond.selects RX6 yX6_offerActors yX6_offerActors, Cond.code yX6_offerActors cX6_offerActors 6 none, Cond.fieldLink RX6 19 "CastDesk" "rows" "LCastDesk$Rows;"]
def wsX6_actorFor_r2 : List Cond := [Cond.fieldLink RX6 26 "CastDesk" "wardrobe" "LCastDesk$Wardrobe;", Cond.fieldLink RX6 72 "CastDesk$Troupe" "sizes" "[I", Cond.methodLink RX6 234 yX1_clear, Cond.instanceMethod yX1_clear, Cond.selects RX1 yX1_clear yX1_clear, Cond.initialized RX1, Cond.code yX1_clear cX1_clear 2 none, Cond.fieldLink RX1 11 "CastDesk$Casting" "actors" "[I", Cond.fieldLink RX1 25 "CastDesk$Casting" "setsBound" "I", Cond.methodLink RX6 193 yX3_actorAt, Cond.instanceMethod yX3_actorAt, Cond.selects RX3 yX3_actorAt yX3_actorAt, Cond.initialized RX3, Cond.code yX3_actorAt cX3_actorAt 3 (some .int), Cond.fieldLink RX3 15 "CastDesk$Rows" "lengths" "[I", Cond.fieldLink RX3 9 "CastDesk$Rows" "actors" "[I", Cond.methodLink RX6 146 yX6_isReady, Cond.instanceMethod yX6_isReady, Cond.selects RX6 yX6_isReady yX6_isReady, Cond.code yX6_isReady cX6_isReady 5 (some .boolean), Cond.fieldLink RX6 79 "CastDesk$Troupe" "known" "[I", Cond.methodLink RX6 142 yX6_has, Cond.static yX6_has, Cond.code yX6_has cX6_has 2 (some .boolean)]
def wsX6_actorFor_r3 : List Cond := [Cond.methodLink RX6 228 yX5_lowestFitting, Cond.instanceMethod yX5_lowestFitting, Cond.selects RX5 yX5_lowestFitting yX5_lowestFitting, Cond.initialized RX5, Cond.code yX5_lowestFitting cX5_lowestFitting 4 (some .int), Cond.fieldLink RX5 22 "CastDesk$Wardrobe" "count" "I", Cond.fieldLink RX5 15 "CastDesk$Wardrobe" "parts" "[I", Cond.fieldLink RX5 9 "CastDesk$Wardrobe" "sizes" "[I", Cond.methodLink RX6 231 yX5_lowestToLetOut, Cond.instanceMethod yX5_lowestToLetOut, Cond.selects RX5 yX5_lowestToLetOut yX5_lowestToLetOut, Cond.code yX5_lowestToLetOut cX5_lowestToLetOut 4 (some .int), Cond.fieldLink RX5 18 "CastDesk$Wardrobe" "isLetOut" "[Z", Cond.methodLink RX6 237 yX1_offer, Cond.instanceMethod yX1_offer, Cond.selects RX1 yX1_offer yX1_offer, Cond.code yX1_offer cX1_offer 6 none, Cond.fieldLink RX1 15 "CastDesk$Casting" "keys" "[I", Cond.methodLink RX1 29 Lib.Math.max.name, Cond.static Lib.Math.max.name, Cond.initialized "java/lang/Math", Cond.code Lib.Math.max.name Lib.Math.max.code 2 (some .int), Cond.methodLink RX1 21 yX1_rankShift, Cond.static yX1_rankShift]
def wsX6_actorFor_r4 : List Cond := [Cond.code yX1_rankShift cX1_rankShift 1 (some .int), Cond.methodLink RX6 241 yX1_leastKey, Cond.instanceMethod yX1_leastKey, Cond.selects RX1 yX1_leastKey yX1_leastKey, Cond.code yX1_leastKey cX1_leastKey 6 (some .int), Cond.fieldLink RX1 18 "CastDesk$Casting" "leastOfSet" "[I", Cond.methodLink RX1 35 yJ6_bitCount_0f7a4, Cond.static yJ6_bitCount_0f7a4, Cond.initialized RJ6, Cond.code yJ6_bitCount_0f7a4 cJ6_bitCount_0f7a4 1 (some .int), Cond.constant RJ6 265 (1431655765), Cond.constant RJ6 266 (858993459), Cond.constant RJ6 267 (252645135), Cond.methodLink RX1 40 yX1_castPart, Cond.instanceMethod yX1_castPart, Cond.selects RX1 yX1_castPart yX1_castPart, Cond.code yX1_castPart cX1_castPart 9 none, Cond.static yX6_with, Cond.code yX6_with cX6_with 2 (some .int), Cond.methodLink RX6 165 yX6_actorIn, Cond.instanceMethod yX6_actorIn, Cond.selects RX6 yX6_actorIn yX6_actorIn, Cond.code yX6_actorIn cX6_actorIn 3 (some .int), Cond.methodLink RX6 244 yX1_rankOf]
def wsX6_actorFor_r5 : List Cond := [Cond.static yX1_rankOf, Cond.code yX1_rankOf cX1_rankOf 2 (some .int)]
def wsX6_actorFor : List Cond := .code yX6_actorFor cX6_actorFor 4 (some .int) :: ((wsX6_actorFor_r1 ++ (wsX6_actorFor_r2 ++ (wsX6_actorFor_r3 ++ (wsX6_actorFor_r4 ++ wsX6_actorFor_r5)))) ++ wsX60 ++ wsX40 ++ wsX10 ++ wsX30 ++ wsX50 ++ (vx_atS RX6 219 "java/lang/IndexOutOfBoundsException" ["java/lang/RuntimeException", "java/lang/Exception"]).filter goodWord ++ (vx_atS RX6 62 "java/lang/IllegalArgumentException" ["java/lang/RuntimeException", "java/lang/Exception"]).filter goodWord)
def wsX6_countOthers : List Cond := .code yX6_countOthers cX6_countOthers 5 (some .int) :: ([.fieldLink RX6 51 "CastDesk" "partCount" "I", .methodLink RX6 165 yX6_actorIn, .instanceMethod yX6_actorIn, .selects RX6 yX6_actorIn yX6_actorIn, .initialized RX6, .code yX6_actorIn cX6_actorIn 3 (some .int), .fieldLink RX6 19 "CastDesk" "rows" "LCastDesk$Rows;", .methodLink RX6 244 yX1_rankOf, .static yX1_rankOf, .initialized RX1, .code yX1_rankOf cX1_rankOf 2 (some .int), .methodLink RX1 21 yX1_rankShift, .static yX1_rankShift, .code yX1_rankShift cX1_rankShift 1 (some .int), .methodLink RX6 193 yX3_actorAt, .instanceMethod yX3_actorAt, .selects RX3 yX3_actorAt yX3_actorAt, .initialized RX3, .code yX3_actorAt cX3_actorAt 3 (some .int), .fieldLink RX3 15 "CastDesk$Rows" "lengths" "[I", .fieldLink RX3 9 "CastDesk$Rows" "actors" "[I"] ++ wsX60 ++ wsX30)
def wsX6_chain_r1 : List Cond := [Cond.fieldLink RX6 10 "CastDesk" "troupe" "LCastDesk$Troupe;", Cond.fieldLink RX6 139 "CastDesk$Troupe" "ill" "[I", Cond.methodLink RX6 65 yX6_needActor, Cond.static yX6_needActor, Cond.initialized RX6, Cond.code yX6_needActor cX6_needActor 1 none, Cond.classLink RX6 215 "java/lang/IndexOutOfBoundsException", Cond.initialized "java/lang/IndexOutOfBoundsException", Cond.methodLink RX6 132 yX6_needDay, Cond.static yX6_needDay, Cond.code yX6_needDay cX6_needDay 2 none, Cond.classLink RX6 58 "java/lang/IllegalArgumentException", Cond.initialized "java/lang/IllegalArgumentException", Cond.methodLink RX6 150 yX6_bestCast, Cond.instanceMethod yX6_bestCast, Cond.selects RX6 yX6_bestCast yX6_bestCast, Cond.code yX6_bestCast cX6_bestCast 2 (some .int), Cond.fieldLink RX6 33 "CastDesk" "casting" "LCastDesk$Casting;", Cond.fieldLink RX6 51 "CastDesk" "partCount" "I", Cond.methodLink RX6 156 yX6_offerActors, Cond.instanceMethod yX6_offerActors, Cond.selects RX6 yX6_offerActors yX6_offerActors, Cond.code yX6_offerActors cX6_offerActors 6 none, Cond.fieldLink RX6 19 "CastDesk" "rows" "LCastDesk$Rows;"]
def wsX6_chain_r2 : List Cond := [Cond.fieldLink RX6 26 "CastDesk" "wardrobe" "LCastDesk$Wardrobe;", Cond.fieldLink RX6 72 "CastDesk$Troupe" "sizes" "[I", Cond.methodLink RX6 234 yX1_clear, Cond.instanceMethod yX1_clear, Cond.selects RX1 yX1_clear yX1_clear, Cond.initialized RX1, Cond.code yX1_clear cX1_clear 2 none, Cond.fieldLink RX1 11 "CastDesk$Casting" "actors" "[I", Cond.fieldLink RX1 25 "CastDesk$Casting" "setsBound" "I", Cond.methodLink RX6 193 yX3_actorAt, Cond.instanceMethod yX3_actorAt, Cond.selects RX3 yX3_actorAt yX3_actorAt, Cond.initialized RX3, Cond.code yX3_actorAt cX3_actorAt 3 (some .int), Cond.fieldLink RX3 15 "CastDesk$Rows" "lengths" "[I", Cond.fieldLink RX3 9 "CastDesk$Rows" "actors" "[I", Cond.methodLink RX6 146 yX6_isReady, Cond.instanceMethod yX6_isReady, Cond.selects RX6 yX6_isReady yX6_isReady, Cond.code yX6_isReady cX6_isReady 5 (some .boolean), Cond.fieldLink RX6 79 "CastDesk$Troupe" "known" "[I", Cond.methodLink RX6 142 yX6_has, Cond.static yX6_has, Cond.code yX6_has cX6_has 2 (some .boolean)]
def wsX6_chain_r3 : List Cond := [Cond.methodLink RX6 228 yX5_lowestFitting, Cond.instanceMethod yX5_lowestFitting, Cond.selects RX5 yX5_lowestFitting yX5_lowestFitting, Cond.initialized RX5, Cond.code yX5_lowestFitting cX5_lowestFitting 4 (some .int), Cond.fieldLink RX5 22 "CastDesk$Wardrobe" "count" "I", Cond.fieldLink RX5 15 "CastDesk$Wardrobe" "parts" "[I", Cond.fieldLink RX5 9 "CastDesk$Wardrobe" "sizes" "[I", Cond.methodLink RX6 231 yX5_lowestToLetOut, Cond.instanceMethod yX5_lowestToLetOut, Cond.selects RX5 yX5_lowestToLetOut yX5_lowestToLetOut, Cond.code yX5_lowestToLetOut cX5_lowestToLetOut 4 (some .int), Cond.fieldLink RX5 18 "CastDesk$Wardrobe" "isLetOut" "[Z", Cond.methodLink RX6 237 yX1_offer, Cond.instanceMethod yX1_offer, Cond.selects RX1 yX1_offer yX1_offer, Cond.code yX1_offer cX1_offer 6 none, Cond.fieldLink RX1 15 "CastDesk$Casting" "keys" "[I", Cond.methodLink RX1 29 Lib.Math.max.name, Cond.static Lib.Math.max.name, Cond.initialized "java/lang/Math", Cond.code Lib.Math.max.name Lib.Math.max.code 2 (some .int), Cond.methodLink RX1 21 yX1_rankShift, Cond.static yX1_rankShift]
def wsX6_chain_r4 : List Cond := [Cond.code yX1_rankShift cX1_rankShift 1 (some .int), Cond.methodLink RX6 241 yX1_leastKey, Cond.instanceMethod yX1_leastKey, Cond.selects RX1 yX1_leastKey yX1_leastKey, Cond.code yX1_leastKey cX1_leastKey 6 (some .int), Cond.fieldLink RX1 18 "CastDesk$Casting" "leastOfSet" "[I", Cond.methodLink RX1 35 yJ6_bitCount_0f7a4, Cond.static yJ6_bitCount_0f7a4, Cond.initialized RJ6, Cond.code yJ6_bitCount_0f7a4 cJ6_bitCount_0f7a4 1 (some .int), Cond.constant RJ6 265 (1431655765), Cond.constant RJ6 266 (858993459), Cond.constant RJ6 267 (252645135), Cond.methodLink RX1 40 yX1_castPart, Cond.instanceMethod yX1_castPart, Cond.selects RX1 yX1_castPart yX1_castPart, Cond.code yX1_castPart cX1_castPart 9 none, Cond.static yX6_with, Cond.code yX6_with cX6_with 2 (some .int), Cond.methodLink RX6 82 yX6_with, Cond.methodLink RX6 168 yX6_countOthers, Cond.instanceMethod yX6_countOthers, Cond.selects RX6 yX6_countOthers yX6_countOthers, Cond.code yX6_countOthers cX6_countOthers 5 (some .int)]
def wsX6_chain_r5 : List Cond := [Cond.methodLink RX6 165 yX6_actorIn, Cond.instanceMethod yX6_actorIn, Cond.selects RX6 yX6_actorIn yX6_actorIn, Cond.code yX6_actorIn cX6_actorIn 3 (some .int), Cond.methodLink RX6 244 yX1_rankOf, Cond.static yX1_rankOf, Cond.code yX1_rankOf cX1_rankOf 2 (some .int)]
def wsX6_chain : List Cond := .code yX6_chain cX6_chain 5 (some .int) :: ((wsX6_chain_r1 ++ (wsX6_chain_r2 ++ (wsX6_chain_r3 ++ (wsX6_chain_r4 ++ wsX6_chain_r5)))) ++ wsX60 ++ wsX40 ++ wsX10 ++ wsX30 ++ wsX50 ++ (vx_atS RX6 219 "java/lang/IndexOutOfBoundsException" ["java/lang/RuntimeException", "java/lang/Exception"]).filter goodWord ++ (vx_atS RX6 62 "java/lang/IllegalArgumentException" ["java/lang/RuntimeException", "java/lang/Exception"]).filter goodWord)
def wsX6_show : List Cond := .code yX6_show cX6_show 2 (some .int) :: ([.classLink RX6 95 "java/lang/IllegalStateException", .initialized "java/lang/IllegalStateException", .fieldLink RX6 55 "CastDesk" "today" "I", .fieldLink RX6 40 "CastDesk" "programme" "LCastDesk$Programme;", .fieldLink RX6 176 "CastDesk$Programme" "count" "I", .methodLink RX6 132 yX6_needDay, .static yX6_needDay, .initialized RX6, .code yX6_needDay cX6_needDay 2 none, .classLink RX6 58 "java/lang/IllegalArgumentException", .initialized "java/lang/IllegalArgumentException", .methodLink RX6 171 yX2_showOn, .instanceMethod yX2_showOn, .selects RX2 yX2_showOn yX2_showOn, .initialized RX2, .code yX2_showOn cX2_showOn 3 (some .int), .fieldLink RX2 21 "CastDesk$Programme" "count" "I", .fieldLink RX2 18 "CastDesk$Programme" "days" "[I", .methodLink RX6 179 yX2_add, .instanceMethod yX2_add, .selects RX2 yX2_add yX2_add, .code yX2_add cX2_add 2 (some .int), .fieldLink RX2 9 "CastDesk$Programme" "states" "[I"] ++ wsX60 ++ wsX20 ++ (vx_atS RX6 99 "java/lang/IllegalStateException" ["java/lang/RuntimeException", "java/lang/Exception"]).filter goodWord ++ (vx_atS RX6 62 "java/lang/IllegalArgumentException" ["java/lang/RuntimeException", "java/lang/Exception"]).filter goodWord)
def wsX6_sell_r1 : List Cond := [Cond.classLink RX6 58 "java/lang/IllegalArgumentException", Cond.initialized "java/lang/IllegalArgumentException", Cond.classLink RX6 95 "java/lang/IllegalStateException", Cond.initialized "java/lang/IllegalStateException", Cond.fieldLink RX6 40 "CastDesk" "programme" "LCastDesk$Programme;", Cond.fieldLink RX6 176 "CastDesk$Programme" "count" "I", Cond.fieldLink RX6 185 "CastDesk$Programme" "states" "[I", Cond.fieldLink RX6 47 "CastDesk" "office" "LCastDesk$BoxOffice;", Cond.fieldLink RX6 190 "CastDesk$BoxOffice" "count" "I", Cond.fieldLink RX6 19 "CastDesk" "rows" "LCastDesk$Rows;", Cond.methodLink RX6 128 yX6_needOneOf, Cond.static yX6_needOneOf, Cond.initialized RX6, Cond.code yX6_needOneOf cX6_needOneOf 2 none, Cond.classLink RX6 215 "java/lang/IndexOutOfBoundsException", Cond.initialized "java/lang/IndexOutOfBoundsException", Cond.methodLink RX6 76 yX6_needPart, Cond.static yX6_needPart, Cond.code yX6_needPart cX6_needPart 1 none, Cond.methodLink RX6 193 yX3_actorAt, Cond.instanceMethod yX3_actorAt, Cond.selects RX3 yX3_actorAt yX3_actorAt, Cond.initialized RX3, Cond.code yX3_actorAt cX3_actorAt 3 (some .int)]
def wsX6_sell_r2 : List Cond := [Cond.fieldLink RX3 15 "CastDesk$Rows" "lengths" "[I", Cond.fieldLink RX3 9 "CastDesk$Rows" "actors" "[I", Cond.methodLink RX6 198 yX0_add, Cond.instanceMethod yX0_add, Cond.selects RX0 yX0_add yX0_add, Cond.initialized RX0, Cond.code yX0_add cX0_add 6 (some .int), Cond.fieldLink RX0 9 "CastDesk$BoxOffice" "shows" "[I", Cond.fieldLink RX0 30 "CastDesk$BoxOffice" "count" "I", Cond.fieldLink RX0 27 "CastDesk$BoxOffice" "prices" "[I", Cond.fieldLink RX0 15 "CastDesk$BoxOffice" "promises" "[I", Cond.fieldLink RX0 18 "CastDesk$BoxOffice" "parts" "[I", Cond.fieldLink RX0 21 "CastDesk$BoxOffice" "stars" "[I", Cond.fieldLink RX0 34 "CastDesk$BoxOffice" "money" "I"]
def wsX6_sell : List Cond := .code yX6_sell cX6_sell 6 (some .int) :: ((wsX6_sell_r1 ++ wsX6_sell_r2) ++ wsX60 ++ wsX20 ++ wsX00 ++ wsX30 ++ (vx_atS RX6 62 "java/lang/IllegalArgumentException" ["java/lang/RuntimeException", "java/lang/Exception"]).filter goodWord ++ (vx_atS RX6 99 "java/lang/IllegalStateException" ["java/lang/RuntimeException", "java/lang/Exception"]).filter goodWord ++ (vx_atS RX6 219 "java/lang/IndexOutOfBoundsException" ["java/lang/RuntimeException", "java/lang/Exception"]).filter goodWord)
def wsX6_dress : List Cond := .code yX6_dress cX6_dress 4 none :: ([.fieldLink RX6 10 "CastDesk" "troupe" "LCastDesk$Troupe;", .fieldLink RX6 72 "CastDesk$Troupe" "sizes" "[I", .fieldLink RX6 26 "CastDesk" "wardrobe" "LCastDesk$Wardrobe;", .methodLink RX6 228 yX5_lowestFitting, .instanceMethod yX5_lowestFitting, .selects RX5 yX5_lowestFitting yX5_lowestFitting, .initialized RX5, .code yX5_lowestFitting cX5_lowestFitting 4 (some .int), .fieldLink RX5 22 "CastDesk$Wardrobe" "count" "I", .fieldLink RX5 15 "CastDesk$Wardrobe" "parts" "[I", .fieldLink RX5 9 "CastDesk$Wardrobe" "sizes" "[I", .methodLink RX6 231 yX5_lowestToLetOut, .instanceMethod yX5_lowestToLetOut, .selects RX5 yX5_lowestToLetOut yX5_lowestToLetOut, .code yX5_lowestToLetOut cX5_lowestToLetOut 4 (some .int), .fieldLink RX5 18 "CastDesk$Wardrobe" "isLetOut" "[Z", .methodLink RX6 253 yX5_letOut, .instanceMethod yX5_letOut, .selects RX5 yX5_letOut yX5_letOut, .code yX5_letOut cX5_letOut 2 none] ++ wsX60 ++ wsX40 ++ wsX50)
def wsX6_shareBack_r1 : List Cond := [Cond.fieldLink RX6 47 "CastDesk" "office" "LCastDesk$BoxOffice;", Cond.fieldLink RX6 265 "CastDesk$BoxOffice" "parts" "[I", Cond.fieldLink RX6 51 "CastDesk" "partCount" "I", Cond.fieldLink RX6 268 "CastDesk$BoxOffice" "promises" "[I", Cond.fieldLink RX6 271 "CastDesk$BoxOffice" "stars" "[I", Cond.methodLink RX6 165 yX6_actorIn, Cond.instanceMethod yX6_actorIn, Cond.selects RX6 yX6_actorIn yX6_actorIn, Cond.initialized RX6, Cond.code yX6_actorIn cX6_actorIn 3 (some .int), Cond.fieldLink RX6 19 "CastDesk" "rows" "LCastDesk$Rows;", Cond.methodLink RX6 244 yX1_rankOf, Cond.static yX1_rankOf, Cond.initialized RX1, Cond.code yX1_rankOf cX1_rankOf 2 (some .int), Cond.methodLink RX1 21 yX1_rankShift, Cond.static yX1_rankShift, Cond.code yX1_rankShift cX1_rankShift 1 (some .int), Cond.methodLink RX6 193 yX3_actorAt, Cond.instanceMethod yX3_actorAt, Cond.selects RX3 yX3_actorAt yX3_actorAt, Cond.initialized RX3, Cond.code yX3_actorAt cX3_actorAt 3 (some .int), Cond.fieldLink RX3 15 "CastDesk$Rows" "lengths" "[I"]
def wsX6_shareBack_r2 : List Cond := [Cond.fieldLink RX3 9 "CastDesk$Rows" "actors" "[I", Cond.methodLink RX6 153 yX1_strainOf, Cond.static yX1_strainOf, Cond.code yX1_strainOf cX1_strainOf 1 (some .int)]
def wsX6_shareBack : List Cond := .code yX6_shareBack cX6_shareBack 5 (some .int) :: ((wsX6_shareBack_r1 ++ wsX6_shareBack_r2) ++ wsX60 ++ wsX00 ++ wsX30)
def wsX6_refundSeats_r1 : List Cond := [Cond.fieldLink RX6 47 "CastDesk" "office" "LCastDesk$BoxOffice;", Cond.fieldLink RX6 190 "CastDesk$BoxOffice" "count" "I", Cond.fieldLink RX6 256 "CastDesk$BoxOffice" "shows" "[I", Cond.methodLink RX6 259 yX6_shareBack, Cond.instanceMethod yX6_shareBack, Cond.selects RX6 yX6_shareBack yX6_shareBack, Cond.initialized RX6, Cond.code yX6_shareBack cX6_shareBack 5 (some .int), Cond.fieldLink RX6 265 "CastDesk$BoxOffice" "parts" "[I", Cond.fieldLink RX6 51 "CastDesk" "partCount" "I", Cond.fieldLink RX6 268 "CastDesk$BoxOffice" "promises" "[I", Cond.fieldLink RX6 271 "CastDesk$BoxOffice" "stars" "[I", Cond.methodLink RX6 165 yX6_actorIn, Cond.instanceMethod yX6_actorIn, Cond.selects RX6 yX6_actorIn yX6_actorIn, Cond.code yX6_actorIn cX6_actorIn 3 (some .int), Cond.fieldLink RX6 19 "CastDesk" "rows" "LCastDesk$Rows;", Cond.methodLink RX6 244 yX1_rankOf, Cond.static yX1_rankOf, Cond.initialized RX1, Cond.code yX1_rankOf cX1_rankOf 2 (some .int), Cond.methodLink RX1 21 yX1_rankShift, Cond.static yX1_rankShift, Cond.code yX1_rankShift cX1_rankShift 1 (some .int)]
def wsX6_refundSeats_r2 : List Cond := [Cond.methodLink RX6 193 yX3_actorAt, Cond.instanceMethod yX3_actorAt, Cond.selects RX3 yX3_actorAt yX3_actorAt, Cond.initialized RX3, Cond.code yX3_actorAt cX3_actorAt 3 (some .int), Cond.fieldLink RX3 15 "CastDesk$Rows" "lengths" "[I", Cond.fieldLink RX3 9 "CastDesk$Rows" "actors" "[I", Cond.methodLink RX6 153 yX1_strainOf, Cond.static yX1_strainOf, Cond.code yX1_strainOf cX1_strainOf 1 (some .int), Cond.methodLink RX6 262 yX0_giveBack, Cond.instanceMethod yX0_giveBack, Cond.selects RX0 yX0_giveBack yX0_giveBack, Cond.initialized RX0, Cond.code yX0_giveBack cX0_giveBack 4 (some .int), Cond.fieldLink RX0 27 "CastDesk$BoxOffice" "prices" "[I", Cond.fieldLink RX0 24 "CastDesk$BoxOffice" "refunds" "[I", Cond.fieldLink RX0 34 "CastDesk$BoxOffice" "money" "I"]
def wsX6_refundSeats : List Cond := .code yX6_refundSeats cX6_refundSeats 6 (some .int) :: ((wsX6_refundSeats_r1 ++ wsX6_refundSeats_r2) ++ wsX60 ++ wsX00 ++ wsX30)
def wsX6_perform_r1 : List Cond := [Cond.fieldLink RX6 10 "CastDesk" "troupe" "LCastDesk$Troupe;", Cond.fieldLink RX6 139 "CastDesk$Troupe" "ill" "[I", Cond.fieldLink RX6 55 "CastDesk" "today" "I", Cond.fieldLink RX6 40 "CastDesk" "programme" "LCastDesk$Programme;", Cond.fieldLink RX6 185 "CastDesk$Programme" "states" "[I", Cond.fieldLink RX6 51 "CastDesk" "partCount" "I", Cond.fieldLink RX6 206 "CastDesk$Programme" "casts" "[I", Cond.methodLink RX6 150 yX6_bestCast, Cond.instanceMethod yX6_bestCast, Cond.selects RX6 yX6_bestCast yX6_bestCast, Cond.initialized RX6, Cond.code yX6_bestCast cX6_bestCast 2 (some .int), Cond.fieldLink RX6 33 "CastDesk" "casting" "LCastDesk$Casting;", Cond.methodLink RX6 156 yX6_offerActors, Cond.instanceMethod yX6_offerActors, Cond.selects RX6 yX6_offerActors yX6_offerActors, Cond.code yX6_offerActors cX6_offerActors 6 none, Cond.fieldLink RX6 19 "CastDesk" "rows" "LCastDesk$Rows;", Cond.fieldLink RX6 26 "CastDesk" "wardrobe" "LCastDesk$Wardrobe;", Cond.fieldLink RX6 72 "CastDesk$Troupe" "sizes" "[I", Cond.methodLink RX6 234 yX1_clear, Cond.instanceMethod yX1_clear, Cond.selects RX1 yX1_clear yX1_clear, Cond.initialized RX1]
def wsX6_perform_r2 : List Cond := [Cond.code yX1_clear cX1_clear 2 none, Cond.fieldLink RX1 11 "CastDesk$Casting" "actors" "[I", Cond.fieldLink RX1 25 "CastDesk$Casting" "setsBound" "I", Cond.methodLink RX6 193 yX3_actorAt, Cond.instanceMethod yX3_actorAt, Cond.selects RX3 yX3_actorAt yX3_actorAt, Cond.initialized RX3, Cond.code yX3_actorAt cX3_actorAt 3 (some .int), Cond.fieldLink RX3 15 "CastDesk$Rows" "lengths" "[I", Cond.fieldLink RX3 9 "CastDesk$Rows" "actors" "[I", Cond.methodLink RX6 146 yX6_isReady, Cond.instanceMethod yX6_isReady, Cond.selects RX6 yX6_isReady yX6_isReady, Cond.code yX6_isReady cX6_isReady 5 (some .boolean), Cond.fieldLink RX6 79 "CastDesk$Troupe" "known" "[I", Cond.methodLink RX6 142 yX6_has, Cond.static yX6_has, Cond.code yX6_has cX6_has 2 (some .boolean), Cond.methodLink RX6 228 yX5_lowestFitting, Cond.instanceMethod yX5_lowestFitting, Cond.selects RX5 yX5_lowestFitting yX5_lowestFitting, Cond.initialized RX5, Cond.code yX5_lowestFitting cX5_lowestFitting 4 (some .int), Cond.fieldLink RX5 22 "CastDesk$Wardrobe" "count" "I"]
def wsX6_perform_r3 : List Cond := [Cond.fieldLink RX5 15 "CastDesk$Wardrobe" "parts" "[I", Cond.fieldLink RX5 9 "CastDesk$Wardrobe" "sizes" "[I", Cond.methodLink RX6 231 yX5_lowestToLetOut, Cond.instanceMethod yX5_lowestToLetOut, Cond.selects RX5 yX5_lowestToLetOut yX5_lowestToLetOut, Cond.code yX5_lowestToLetOut cX5_lowestToLetOut 4 (some .int), Cond.fieldLink RX5 18 "CastDesk$Wardrobe" "isLetOut" "[Z", Cond.methodLink RX6 237 yX1_offer, Cond.instanceMethod yX1_offer, Cond.selects RX1 yX1_offer yX1_offer, Cond.code yX1_offer cX1_offer 6 none, Cond.fieldLink RX1 15 "CastDesk$Casting" "keys" "[I", Cond.methodLink RX1 29 Lib.Math.max.name, Cond.static Lib.Math.max.name, Cond.initialized "java/lang/Math", Cond.code Lib.Math.max.name Lib.Math.max.code 2 (some .int), Cond.methodLink RX1 21 yX1_rankShift, Cond.static yX1_rankShift, Cond.code yX1_rankShift cX1_rankShift 1 (some .int), Cond.methodLink RX6 241 yX1_leastKey, Cond.instanceMethod yX1_leastKey, Cond.selects RX1 yX1_leastKey yX1_leastKey, Cond.code yX1_leastKey cX1_leastKey 6 (some .int), Cond.fieldLink RX1 18 "CastDesk$Casting" "leastOfSet" "[I"]
def wsX6_perform_r4 : List Cond := [Cond.methodLink RX1 35 yJ6_bitCount_0f7a4, Cond.static yJ6_bitCount_0f7a4, Cond.initialized RJ6, Cond.code yJ6_bitCount_0f7a4 cJ6_bitCount_0f7a4 1 (some .int), Cond.constant RJ6 265 (1431655765), Cond.constant RJ6 266 (858993459), Cond.constant RJ6 267 (252645135), Cond.methodLink RX1 40 yX1_castPart, Cond.instanceMethod yX1_castPart, Cond.selects RX1 yX1_castPart yX1_castPart, Cond.code yX1_castPart cX1_castPart 9 none, Cond.static yX6_with, Cond.code yX6_with cX6_with 2 (some .int), Cond.methodLink RX6 165 yX6_actorIn, Cond.instanceMethod yX6_actorIn, Cond.selects RX6 yX6_actorIn yX6_actorIn, Cond.code yX6_actorIn cX6_actorIn 3 (some .int), Cond.methodLink RX6 244 yX1_rankOf, Cond.static yX1_rankOf, Cond.code yX1_rankOf cX1_rankOf 2 (some .int), Cond.methodLink RX6 247 yX6_dress, Cond.instanceMethod yX6_dress, Cond.selects RX6 yX6_dress yX6_dress, Cond.code yX6_dress cX6_dress 4 none]
def wsX6_perform_r5 : List Cond := [Cond.methodLink RX6 253 yX5_letOut, Cond.instanceMethod yX5_letOut, Cond.selects RX5 yX5_letOut yX5_letOut, Cond.code yX5_letOut cX5_letOut 2 none, Cond.methodLink RX6 250 yX6_refundSeats, Cond.instanceMethod yX6_refundSeats, Cond.selects RX6 yX6_refundSeats yX6_refundSeats, Cond.code yX6_refundSeats cX6_refundSeats 6 (some .int), Cond.fieldLink RX6 47 "CastDesk" "office" "LCastDesk$BoxOffice;", Cond.fieldLink RX6 190 "CastDesk$BoxOffice" "count" "I", Cond.fieldLink RX6 256 "CastDesk$BoxOffice" "shows" "[I", Cond.methodLink RX6 259 yX6_shareBack, Cond.instanceMethod yX6_shareBack, Cond.selects RX6 yX6_shareBack yX6_shareBack, Cond.code yX6_shareBack cX6_shareBack 5 (some .int), Cond.fieldLink RX6 265 "CastDesk$BoxOffice" "parts" "[I", Cond.fieldLink RX6 268 "CastDesk$BoxOffice" "promises" "[I", Cond.fieldLink RX6 271 "CastDesk$BoxOffice" "stars" "[I", Cond.methodLink RX6 153 yX1_strainOf, Cond.static yX1_strainOf, Cond.code yX1_strainOf cX1_strainOf 1 (some .int), Cond.methodLink RX6 262 yX0_giveBack, Cond.instanceMethod yX0_giveBack, Cond.selects RX0 yX0_giveBack yX0_giveBack]
def wsX6_perform_r6 : List Cond := [Cond.initialized RX0, Cond.code yX0_giveBack cX0_giveBack 4 (some .int), Cond.fieldLink RX0 27 "CastDesk$BoxOffice" "prices" "[I", Cond.fieldLink RX0 24 "CastDesk$BoxOffice" "refunds" "[I", Cond.fieldLink RX0 34 "CastDesk$BoxOffice" "money" "I"]
def wsX6_perform : List Cond := .code yX6_perform cX6_perform 5 (some .int) :: ((wsX6_perform_r1 ++ (wsX6_perform_r2 ++ (wsX6_perform_r3 ++ (wsX6_perform_r4 ++ (wsX6_perform_r5 ++ wsX6_perform_r6))))) ++ wsX60 ++ wsX40 ++ wsX20 ++ wsX10 ++ wsX30 ++ wsX50 ++ wsX00)
def wsX6_play_r1 : List Cond := [Cond.classLink RX6 95 "java/lang/IllegalStateException", Cond.initialized "java/lang/IllegalStateException", Cond.fieldLink RX6 55 "CastDesk" "today" "I", Cond.fieldLink RX6 40 "CastDesk" "programme" "LCastDesk$Programme;", Cond.methodLink RX6 171 yX2_showOn, Cond.instanceMethod yX2_showOn, Cond.selects RX2 yX2_showOn yX2_showOn, Cond.initialized RX2, Cond.code yX2_showOn cX2_showOn 3 (some .int), Cond.fieldLink RX2 21 "CastDesk$Programme" "count" "I", Cond.fieldLink RX2 18 "CastDesk$Programme" "days" "[I", Cond.methodLink RX6 203 yX6_perform, Cond.instanceMethod yX6_perform, Cond.selects RX6 yX6_perform yX6_perform, Cond.initialized RX6, Cond.code yX6_perform cX6_perform 5 (some .int), Cond.fieldLink RX6 10 "CastDesk" "troupe" "LCastDesk$Troupe;", Cond.fieldLink RX6 139 "CastDesk$Troupe" "ill" "[I", Cond.fieldLink RX6 185 "CastDesk$Programme" "states" "[I", Cond.fieldLink RX6 51 "CastDesk" "partCount" "I", Cond.fieldLink RX6 206 "CastDesk$Programme" "casts" "[I", Cond.methodLink RX6 150 yX6_bestCast, Cond.instanceMethod yX6_bestCast, Cond.selects RX6 yX6_bestCast yX6_bestCast]
def wsX6_play_r2 : List Cond := [Cond.code yX6_bestCast cX6_bestCast 2 (some .int), Cond.fieldLink RX6 33 "CastDesk" "casting" "LCastDesk$Casting;", Cond.methodLink RX6 156 yX6_offerActors, Cond.instanceMethod yX6_offerActors, Cond.selects RX6 yX6_offerActors yX6_offerActors, Cond.code yX6_offerActors cX6_offerActors 6 none, Cond.fieldLink RX6 19 "CastDesk" "rows" "LCastDesk$Rows;", Cond.fieldLink RX6 26 "CastDesk" "wardrobe" "LCastDesk$Wardrobe;", Cond.fieldLink RX6 72 "CastDesk$Troupe" "sizes" "[I", Cond.methodLink RX6 234 yX1_clear, Cond.instanceMethod yX1_clear, Cond.selects RX1 yX1_clear yX1_clear, Cond.initialized RX1, Cond.code yX1_clear cX1_clear 2 none, Cond.fieldLink RX1 11 "CastDesk$Casting" "actors" "[I", Cond.fieldLink RX1 25 "CastDesk$Casting" "setsBound" "I", Cond.methodLink RX6 193 yX3_actorAt, Cond.instanceMethod yX3_actorAt, Cond.selects RX3 yX3_actorAt yX3_actorAt, Cond.initialized RX3, Cond.code yX3_actorAt cX3_actorAt 3 (some .int), Cond.fieldLink RX3 15 "CastDesk$Rows" "lengths" "[I", Cond.fieldLink RX3 9 "CastDesk$Rows" "actors" "[I", Cond.methodLink RX6 146 yX6_isReady]
def wsX6_play_r3 : List Cond := [Cond.instanceMethod yX6_isReady, Cond.selects RX6 yX6_isReady yX6_isReady, Cond.code yX6_isReady cX6_isReady 5 (some .boolean), Cond.fieldLink RX6 79 "CastDesk$Troupe" "known" "[I", Cond.methodLink RX6 142 yX6_has, Cond.static yX6_has, Cond.code yX6_has cX6_has 2 (some .boolean), Cond.methodLink RX6 228 yX5_lowestFitting, Cond.instanceMethod yX5_lowestFitting, Cond.selects RX5 yX5_lowestFitting yX5_lowestFitting, Cond.initialized RX5, Cond.code yX5_lowestFitting cX5_lowestFitting 4 (some .int), Cond.fieldLink RX5 22 "CastDesk$Wardrobe" "count" "I", Cond.fieldLink RX5 15 "CastDesk$Wardrobe" "parts" "[I", Cond.fieldLink RX5 9 "CastDesk$Wardrobe" "sizes" "[I", Cond.methodLink RX6 231 yX5_lowestToLetOut, Cond.instanceMethod yX5_lowestToLetOut, Cond.selects RX5 yX5_lowestToLetOut yX5_lowestToLetOut, Cond.code yX5_lowestToLetOut cX5_lowestToLetOut 4 (some .int), Cond.fieldLink RX5 18 "CastDesk$Wardrobe" "isLetOut" "[Z", Cond.methodLink RX6 237 yX1_offer, Cond.instanceMethod yX1_offer, Cond.selects RX1 yX1_offer yX1_offer, Cond.code yX1_offer cX1_offer 6 none]
def wsX6_play_r4 : List Cond := [Cond.fieldLink RX1 15 "CastDesk$Casting" "keys" "[I", Cond.methodLink RX1 29 Lib.Math.max.name, Cond.static Lib.Math.max.name, Cond.initialized "java/lang/Math", Cond.code Lib.Math.max.name Lib.Math.max.code 2 (some .int), Cond.methodLink RX1 21 yX1_rankShift, Cond.static yX1_rankShift, Cond.code yX1_rankShift cX1_rankShift 1 (some .int), Cond.methodLink RX6 241 yX1_leastKey, Cond.instanceMethod yX1_leastKey, Cond.selects RX1 yX1_leastKey yX1_leastKey, Cond.code yX1_leastKey cX1_leastKey 6 (some .int), Cond.fieldLink RX1 18 "CastDesk$Casting" "leastOfSet" "[I", Cond.methodLink RX1 35 yJ6_bitCount_0f7a4, Cond.static yJ6_bitCount_0f7a4, Cond.initialized RJ6, Cond.code yJ6_bitCount_0f7a4 cJ6_bitCount_0f7a4 1 (some .int), Cond.constant RJ6 265 (1431655765), Cond.constant RJ6 266 (858993459), Cond.constant RJ6 267 (252645135), Cond.methodLink RX1 40 yX1_castPart, Cond.instanceMethod yX1_castPart, Cond.selects RX1 yX1_castPart yX1_castPart, Cond.code yX1_castPart cX1_castPart 9 none]
def wsX6_play_r5 : List Cond := [Cond.static yX6_with, Cond.code yX6_with cX6_with 2 (some .int), Cond.methodLink RX6 165 yX6_actorIn, Cond.instanceMethod yX6_actorIn, Cond.selects RX6 yX6_actorIn yX6_actorIn, Cond.code yX6_actorIn cX6_actorIn 3 (some .int), Cond.methodLink RX6 244 yX1_rankOf, Cond.static yX1_rankOf, Cond.code yX1_rankOf cX1_rankOf 2 (some .int), Cond.methodLink RX6 247 yX6_dress, Cond.instanceMethod yX6_dress, Cond.selects RX6 yX6_dress yX6_dress, Cond.code yX6_dress cX6_dress 4 none, Cond.methodLink RX6 253 yX5_letOut, Cond.instanceMethod yX5_letOut, Cond.selects RX5 yX5_letOut yX5_letOut, Cond.code yX5_letOut cX5_letOut 2 none, Cond.methodLink RX6 250 yX6_refundSeats, Cond.instanceMethod yX6_refundSeats, Cond.selects RX6 yX6_refundSeats yX6_refundSeats, Cond.code yX6_refundSeats cX6_refundSeats 6 (some .int), Cond.fieldLink RX6 47 "CastDesk" "office" "LCastDesk$BoxOffice;", Cond.fieldLink RX6 190 "CastDesk$BoxOffice" "count" "I", Cond.fieldLink RX6 256 "CastDesk$BoxOffice" "shows" "[I"]
def wsX6_play_r6 : List Cond := [Cond.methodLink RX6 259 yX6_shareBack, Cond.instanceMethod yX6_shareBack, Cond.selects RX6 yX6_shareBack yX6_shareBack, Cond.code yX6_shareBack cX6_shareBack 5 (some .int), Cond.fieldLink RX6 265 "CastDesk$BoxOffice" "parts" "[I", Cond.fieldLink RX6 268 "CastDesk$BoxOffice" "promises" "[I", Cond.fieldLink RX6 271 "CastDesk$BoxOffice" "stars" "[I", Cond.methodLink RX6 153 yX1_strainOf, Cond.static yX1_strainOf, Cond.code yX1_strainOf cX1_strainOf 1 (some .int), Cond.methodLink RX6 262 yX0_giveBack, Cond.instanceMethod yX0_giveBack, Cond.selects RX0 yX0_giveBack yX0_giveBack, Cond.initialized RX0, Cond.code yX0_giveBack cX0_giveBack 4 (some .int), Cond.fieldLink RX0 27 "CastDesk$BoxOffice" "prices" "[I", Cond.fieldLink RX0 24 "CastDesk$BoxOffice" "refunds" "[I", Cond.fieldLink RX0 34 "CastDesk$BoxOffice" "money" "I"]
def wsX6_play : List Cond := .code yX6_play cX6_play 3 (some .int) :: ((wsX6_play_r1 ++ (wsX6_play_r2 ++ (wsX6_play_r3 ++ (wsX6_play_r4 ++ (wsX6_play_r5 ++ wsX6_play_r6))))) ++ wsX60 ++ wsX20 ++ wsX40 ++ wsX10 ++ wsX30 ++ wsX50 ++ wsX00 ++ (vx_atS RX6 99 "java/lang/IllegalStateException" ["java/lang/RuntimeException", "java/lang/Exception"]).filter goodWord)
def wsX6_day : List Cond := .code yX6_day cX6_day 1 (some .int) :: ([.fieldLink RX6 55 "CastDesk" "today" "I"] ++ wsX60)
def wsX6_stateOf : List Cond := .code yX6_stateOf cX6_stateOf 2 (some .int) :: ([.fieldLink RX6 40 "CastDesk" "programme" "LCastDesk$Programme;", .fieldLink RX6 176 "CastDesk$Programme" "count" "I", .fieldLink RX6 185 "CastDesk$Programme" "states" "[I", .methodLink RX6 128 yX6_needOneOf, .static yX6_needOneOf, .initialized RX6, .code yX6_needOneOf cX6_needOneOf 2 none, .classLink RX6 215 "java/lang/IndexOutOfBoundsException", .initialized "java/lang/IndexOutOfBoundsException"] ++ wsX60 ++ wsX20 ++ (vx_atS RX6 219 "java/lang/IndexOutOfBoundsException" ["java/lang/RuntimeException", "java/lang/Exception"]).filter goodWord)
def wsX6_played : List Cond := .code yX6_played cX6_played 3 (some .int) :: ([.fieldLink RX6 40 "CastDesk" "programme" "LCastDesk$Programme;", .fieldLink RX6 176 "CastDesk$Programme" "count" "I", .fieldLink RX6 206 "CastDesk$Programme" "casts" "[I", .methodLink RX6 128 yX6_needOneOf, .static yX6_needOneOf, .initialized RX6, .code yX6_needOneOf cX6_needOneOf 2 none, .classLink RX6 215 "java/lang/IndexOutOfBoundsException", .initialized "java/lang/IndexOutOfBoundsException", .methodLink RX6 76 yX6_needPart, .static yX6_needPart, .code yX6_needPart cX6_needPart 1 none] ++ wsX60 ++ wsX20 ++ (vx_atS RX6 219 "java/lang/IndexOutOfBoundsException" ["java/lang/RuntimeException", "java/lang/Exception"]).filter goodWord)
def wsX6_refund : List Cond := .code yX6_refund cX6_refund 2 (some .int) :: ([.fieldLink RX6 47 "CastDesk" "office" "LCastDesk$BoxOffice;", .fieldLink RX6 190 "CastDesk$BoxOffice" "count" "I", .fieldLink RX6 209 "CastDesk$BoxOffice" "refunds" "[I", .methodLink RX6 128 yX6_needOneOf, .static yX6_needOneOf, .initialized RX6, .code yX6_needOneOf cX6_needOneOf 2 none, .classLink RX6 215 "java/lang/IndexOutOfBoundsException", .initialized "java/lang/IndexOutOfBoundsException"] ++ wsX60 ++ wsX00 ++ (vx_atS RX6 219 "java/lang/IndexOutOfBoundsException" ["java/lang/RuntimeException", "java/lang/Exception"]).filter goodWord)
def wsX6_takings : List Cond := .code yX6_takings cX6_takings 1 (some .int) :: ([.fieldLink RX6 47 "CastDesk" "office" "LCastDesk$BoxOffice;", .fieldLink RX6 212 "CastDesk$BoxOffice" "money" "I"] ++ wsX60 ++ wsX00)
def wsX7_init_r1 : List Cond := [Cond.methodLink RX7 1 objectInit, Cond.instanceMethod objectInit, Cond.code objectInit ⟨#[0xb1]⟩ 1 none, Cond.fieldLink RX7 7 "CastDeskModel" "parts" "I", Cond.arrayClass .int, Cond.fieldLink RX7 13 "CastDeskModel" "sizes" "[I", Cond.fieldLink RX7 17 "CastDeskModel" "known" "[I", Cond.fieldLink RX7 20 "CastDeskModel" "rows" "[I", Cond.fieldLink RX7 23 "CastDeskModel" "lengths" "[I", Cond.fieldLink RX7 26 "CastDeskModel" "costumePart" "[I", Cond.fieldLink RX7 29 "CastDeskModel" "costumeSize" "[I", Cond.fieldLink RX7 32 "CastDeskModel" "letOut" "[I", Cond.fieldLink RX7 35 "CastDeskModel" "ill" "[I", Cond.fieldLink RX7 38 "CastDeskModel" "showDay" "[I", Cond.fieldLink RX7 41 "CastDeskModel" "showState" "[I", Cond.fieldLink RX7 44 "CastDeskModel" "showCast" "[I", Cond.fieldLink RX7 47 "CastDeskModel" "seatShow" "[I", Cond.fieldLink RX7 50 "CastDeskModel" "seatPrice" "[I", Cond.fieldLink RX7 53 "CastDeskModel" "seatPromise" "[I", Cond.fieldLink RX7 56 "CastDeskModel" "seatPart" "[I", Cond.fieldLink RX7 59 "CastDeskModel" "seatStar" "[I", Cond.fieldLink RX7 62 "CastDeskModel" "seatRefund" "[I", Cond.fieldLink RX7 65 "CastDeskModel" "able" "[I", Cond.fieldLink RX7 68 "CastDeskModel" "cast" "[I"]
def wsX7_init_r2 : List Cond := [Cond.fieldLink RX7 71 "CastDeskModel" "before" "[I"]
def wsX7_init : List Cond := .code yX7_init cX7_init 2 none :: ((wsX7_init_r1 ++ wsX7_init_r2) ++ wsX70)
def wsX7_thrown : List Cond := .code yX7_thrown cX7_thrown 1 (some .int) :: ([.fieldLink RX7 74 "CastDeskModel" "thrown" "I"] ++ wsX70)
def wsX7_fails : List Cond := .code yX7_fails cX7_fails 2 (some .int) :: ([.fieldLink RX7 74 "CastDeskModel" "thrown" "I"] ++ wsX70)
def wsX7_in : List Cond := .code yX7_in cX7_in 3 (some .boolean) :: ([])
def wsX7_isActor : List Cond := .code yX7_isActor cX7_isActor 1 (some .boolean) :: ([.methodLink RX7 77 yX7_in, .static yX7_in, .initialized RX7, .code yX7_in cX7_in 3 (some .boolean)])
def wsX7_isPart : List Cond := .code yX7_isPart cX7_isPart 1 (some .boolean) :: ([.methodLink RX7 77 yX7_in, .static yX7_in, .initialized RX7, .code yX7_in cX7_in 3 (some .boolean)])
def wsX7_isDay : List Cond := .code yX7_isDay cX7_isDay 1 (some .boolean) :: ([.methodLink RX7 77 yX7_in, .static yX7_in, .initialized RX7, .code yX7_in cX7_in 3 (some .boolean)])
def wsX7_setParts : List Cond := .code yX7_setParts cX7_setParts 3 (some .int) :: ([.fieldLink RX7 74 "CastDeskModel" "thrown" "I", .fieldLink RX7 7 "CastDeskModel" "parts" "I", .methodLink RX7 77 yX7_in, .static yX7_in, .initialized RX7, .code yX7_in cX7_in 3 (some .boolean), .methodLink RX7 81 yX7_fails, .instanceMethod yX7_fails, .selects RX7 yX7_fails yX7_fails, .code yX7_fails cX7_fails 2 (some .int)] ++ wsX70)
def wsX7_setSize : List Cond := .code yX7_setSize cX7_setSize 4 (some .int) :: ([.fieldLink RX7 74 "CastDeskModel" "thrown" "I", .fieldLink RX7 13 "CastDeskModel" "sizes" "[I", .methodLink RX7 85 yX7_isActor, .static yX7_isActor, .initialized RX7, .code yX7_isActor cX7_isActor 1 (some .boolean), .methodLink RX7 77 yX7_in, .static yX7_in, .code yX7_in cX7_in 3 (some .boolean), .methodLink RX7 81 yX7_fails, .instanceMethod yX7_fails, .selects RX7 yX7_fails yX7_fails, .code yX7_fails cX7_fails 2 (some .int)] ++ wsX70)
def wsX7_knownBy : List Cond := .code yX7_knownBy cX7_knownBy 4 (some .int) :: ([.fieldLink RX7 17 "CastDeskModel" "known" "[I"] ++ wsX70)
def wsX7_knows : List Cond := .code yX7_knows cX7_knows 3 (some .boolean) :: ([.fieldLink RX7 17 "CastDeskModel" "known" "[I"] ++ wsX70)
def wsX7_learn : List Cond := .code yX7_learn cX7_learn 4 (some .int) :: ([.fieldLink RX7 74 "CastDeskModel" "thrown" "I", .fieldLink RX7 17 "CastDeskModel" "known" "[I", .methodLink RX7 85 yX7_isActor, .static yX7_isActor, .initialized RX7, .code yX7_isActor cX7_isActor 1 (some .boolean), .methodLink RX7 77 yX7_in, .static yX7_in, .code yX7_in cX7_in 3 (some .boolean), .methodLink RX7 89 yX7_isPart, .static yX7_isPart, .code yX7_isPart cX7_isPart 1 (some .boolean), .methodLink RX7 81 yX7_fails, .instanceMethod yX7_fails, .selects RX7 yX7_fails yX7_fails, .code yX7_fails cX7_fails 2 (some .int), .methodLink RX7 92 yX7_knows, .instanceMethod yX7_knows, .selects RX7 yX7_knows yX7_knows, .code yX7_knows cX7_knows 3 (some .boolean), .methodLink RX7 96 yX7_knownBy, .instanceMethod yX7_knownBy, .selects RX7 yX7_knownBy yX7_knownBy, .code yX7_knownBy cX7_knownBy 4 (some .int)] ++ wsX70)
def wsX7_rankOf : List Cond := .code yX7_rankOf cX7_rankOf 4 (some .int) :: ([.fieldLink RX7 23 "CastDeskModel" "lengths" "[I", .fieldLink RX7 20 "CastDeskModel" "rows" "[I"] ++ wsX70)
def wsX7_put : List Cond := .code yX7_put cX7_put 3 (some .int) :: ([.fieldLink RX7 74 "CastDeskModel" "thrown" "I", .fieldLink RX7 23 "CastDeskModel" "lengths" "[I", .fieldLink RX7 20 "CastDeskModel" "rows" "[I", .methodLink RX7 89 yX7_isPart, .static yX7_isPart, .initialized RX7, .code yX7_isPart cX7_isPart 1 (some .boolean), .methodLink RX7 77 yX7_in, .static yX7_in, .code yX7_in cX7_in 3 (some .boolean), .methodLink RX7 85 yX7_isActor, .static yX7_isActor, .code yX7_isActor cX7_isActor 1 (some .boolean), .methodLink RX7 81 yX7_fails, .instanceMethod yX7_fails, .selects RX7 yX7_fails yX7_fails, .code yX7_fails cX7_fails 2 (some .int), .methodLink RX7 99 yX7_rankOf, .instanceMethod yX7_rankOf, .selects RX7 yX7_rankOf yX7_rankOf, .code yX7_rankOf cX7_rankOf 4 (some .int)] ++ wsX70)
def wsX7_take : List Cond := .code yX7_take cX7_take 5 (some .int) :: ([.fieldLink RX7 74 "CastDeskModel" "thrown" "I", .fieldLink RX7 23 "CastDeskModel" "lengths" "[I", .fieldLink RX7 20 "CastDeskModel" "rows" "[I", .methodLink RX7 89 yX7_isPart, .static yX7_isPart, .initialized RX7, .code yX7_isPart cX7_isPart 1 (some .boolean), .methodLink RX7 77 yX7_in, .static yX7_in, .code yX7_in cX7_in 3 (some .boolean), .methodLink RX7 85 yX7_isActor, .static yX7_isActor, .code yX7_isActor cX7_isActor 1 (some .boolean), .methodLink RX7 81 yX7_fails, .instanceMethod yX7_fails, .selects RX7 yX7_fails yX7_fails, .code yX7_fails cX7_fails 2 (some .int), .methodLink RX7 99 yX7_rankOf, .instanceMethod yX7_rankOf, .selects RX7 yX7_rankOf yX7_rankOf, .code yX7_rankOf cX7_rankOf 4 (some .int)] ++ wsX70)
def wsX7_costume : List Cond := .code yX7_costume cX7_costume 3 (some .int) :: ([.fieldLink RX7 74 "CastDeskModel" "thrown" "I", .fieldLink RX7 103 "CastDeskModel" "costumes" "I", .fieldLink RX7 26 "CastDeskModel" "costumePart" "[I", .fieldLink RX7 29 "CastDeskModel" "costumeSize" "[I", .methodLink RX7 89 yX7_isPart, .static yX7_isPart, .initialized RX7, .code yX7_isPart cX7_isPart 1 (some .boolean), .methodLink RX7 77 yX7_in, .static yX7_in, .code yX7_in cX7_in 3 (some .boolean), .methodLink RX7 81 yX7_fails, .instanceMethod yX7_fails, .selects RX7 yX7_fails yX7_fails, .code yX7_fails cX7_fails 2 (some .int)] ++ wsX70)
def wsX7_sizeOf : List Cond := .code yX7_sizeOf cX7_sizeOf 2 (some .int) :: ([.fieldLink RX7 74 "CastDeskModel" "thrown" "I", .fieldLink RX7 103 "CastDeskModel" "costumes" "I", .fieldLink RX7 29 "CastDeskModel" "costumeSize" "[I", .methodLink RX7 77 yX7_in, .static yX7_in, .initialized RX7, .code yX7_in cX7_in 3 (some .boolean), .methodLink RX7 81 yX7_fails, .instanceMethod yX7_fails, .selects RX7 yX7_fails yX7_fails, .code yX7_fails cX7_fails 2 (some .int)] ++ wsX70)
def wsX7_cold : List Cond := .code yX7_cold cX7_cold 6 (some .int) :: ([.fieldLink RX7 74 "CastDeskModel" "thrown" "I", .fieldLink RX7 106 "CastDeskModel" "today" "I", .fieldLink RX7 35 "CastDeskModel" "ill" "[I", .methodLink RX7 85 yX7_isActor, .static yX7_isActor, .initialized RX7, .code yX7_isActor cX7_isActor 1 (some .boolean), .methodLink RX7 77 yX7_in, .static yX7_in, .code yX7_in cX7_in 3 (some .boolean), .methodLink RX7 81 yX7_fails, .instanceMethod yX7_fails, .selects RX7 yX7_fails yX7_fails, .code yX7_fails cX7_fails 2 (some .int)] ++ wsX70)
def wsX7_isIll : List Cond := .code yX7_isIll cX7_isIll 3 (some .boolean) :: ([.fieldLink RX7 74 "CastDeskModel" "thrown" "I", .fieldLink RX7 35 "CastDeskModel" "ill" "[I", .methodLink RX7 85 yX7_isActor, .static yX7_isActor, .initialized RX7, .code yX7_isActor cX7_isActor 1 (some .boolean), .methodLink RX7 77 yX7_in, .static yX7_in, .code yX7_in cX7_in 3 (some .boolean), .methodLink RX7 81 yX7_fails, .instanceMethod yX7_fails, .selects RX7 yX7_fails yX7_fails, .code yX7_fails cX7_fails 2 (some .int), .methodLink RX7 109 yX7_isDay, .static yX7_isDay, .code yX7_isDay cX7_isDay 1 (some .boolean)] ++ wsX70)
def wsX7_fits : List Cond := .code yX7_fits cX7_fits 5 (some .boolean) :: ([.fieldLink RX7 103 "CastDeskModel" "costumes" "I", .fieldLink RX7 26 "CastDeskModel" "costumePart" "[I", .fieldLink RX7 29 "CastDeskModel" "costumeSize" "[I", .fieldLink RX7 13 "CastDeskModel" "sizes" "[I"] ++ wsX70)
def wsX7_toLetOut : List Cond := .code yX7_toLetOut cX7_toLetOut 4 (some .int) :: ([.fieldLink RX7 103 "CastDeskModel" "costumes" "I", .fieldLink RX7 26 "CastDeskModel" "costumePart" "[I", .fieldLink RX7 32 "CastDeskModel" "letOut" "[I", .fieldLink RX7 29 "CastDeskModel" "costumeSize" "[I", .fieldLink RX7 13 "CastDeskModel" "sizes" "[I"] ++ wsX70)
def wsX7_can_r1 : List Cond := [Cond.fieldLink RX7 35 "CastDeskModel" "ill" "[I", Cond.methodLink RX7 99 yX7_rankOf, Cond.instanceMethod yX7_rankOf, Cond.selects RX7 yX7_rankOf yX7_rankOf, Cond.initialized RX7, Cond.code yX7_rankOf cX7_rankOf 4 (some .int), Cond.fieldLink RX7 23 "CastDeskModel" "lengths" "[I", Cond.fieldLink RX7 20 "CastDeskModel" "rows" "[I", Cond.methodLink RX7 92 yX7_knows, Cond.instanceMethod yX7_knows, Cond.selects RX7 yX7_knows yX7_knows, Cond.code yX7_knows cX7_knows 3 (some .boolean), Cond.fieldLink RX7 17 "CastDeskModel" "known" "[I", Cond.methodLink RX7 112 yX7_fits, Cond.instanceMethod yX7_fits, Cond.selects RX7 yX7_fits yX7_fits, Cond.code yX7_fits cX7_fits 5 (some .boolean), Cond.fieldLink RX7 103 "CastDeskModel" "costumes" "I", Cond.fieldLink RX7 26 "CastDeskModel" "costumePart" "[I", Cond.fieldLink RX7 29 "CastDeskModel" "costumeSize" "[I", Cond.fieldLink RX7 13 "CastDeskModel" "sizes" "[I", Cond.methodLink RX7 115 yX7_toLetOut, Cond.instanceMethod yX7_toLetOut, Cond.selects RX7 yX7_toLetOut yX7_toLetOut]
def wsX7_can_r2 : List Cond := [Cond.code yX7_toLetOut cX7_toLetOut 4 (some .int), Cond.fieldLink RX7 32 "CastDeskModel" "letOut" "[I"]
def wsX7_can : List Cond := .code yX7_can cX7_can 5 (some .boolean) :: ((wsX7_can_r1 ++ wsX7_can_r2) ++ wsX70)
def wsX7_canPlay_r1 : List Cond := [Cond.fieldLink RX7 74 "CastDeskModel" "thrown" "I", Cond.methodLink RX7 85 yX7_isActor, Cond.static yX7_isActor, Cond.initialized RX7, Cond.code yX7_isActor cX7_isActor 1 (some .boolean), Cond.methodLink RX7 77 yX7_in, Cond.static yX7_in, Cond.code yX7_in cX7_in 3 (some .boolean), Cond.methodLink RX7 89 yX7_isPart, Cond.static yX7_isPart, Cond.code yX7_isPart cX7_isPart 1 (some .boolean), Cond.methodLink RX7 81 yX7_fails, Cond.instanceMethod yX7_fails, Cond.selects RX7 yX7_fails yX7_fails, Cond.code yX7_fails cX7_fails 2 (some .int), Cond.methodLink RX7 109 yX7_isDay, Cond.static yX7_isDay, Cond.code yX7_isDay cX7_isDay 1 (some .boolean), Cond.methodLink RX7 118 yX7_can, Cond.instanceMethod yX7_can, Cond.selects RX7 yX7_can yX7_can, Cond.code yX7_can cX7_can 5 (some .boolean), Cond.fieldLink RX7 35 "CastDeskModel" "ill" "[I", Cond.methodLink RX7 99 yX7_rankOf]
def wsX7_canPlay_r2 : List Cond := [Cond.instanceMethod yX7_rankOf, Cond.selects RX7 yX7_rankOf yX7_rankOf, Cond.code yX7_rankOf cX7_rankOf 4 (some .int), Cond.fieldLink RX7 23 "CastDeskModel" "lengths" "[I", Cond.fieldLink RX7 20 "CastDeskModel" "rows" "[I", Cond.methodLink RX7 92 yX7_knows, Cond.instanceMethod yX7_knows, Cond.selects RX7 yX7_knows yX7_knows, Cond.code yX7_knows cX7_knows 3 (some .boolean), Cond.fieldLink RX7 17 "CastDeskModel" "known" "[I", Cond.methodLink RX7 112 yX7_fits, Cond.instanceMethod yX7_fits, Cond.selects RX7 yX7_fits yX7_fits, Cond.code yX7_fits cX7_fits 5 (some .boolean), Cond.fieldLink RX7 103 "CastDeskModel" "costumes" "I", Cond.fieldLink RX7 26 "CastDeskModel" "costumePart" "[I", Cond.fieldLink RX7 29 "CastDeskModel" "costumeSize" "[I", Cond.fieldLink RX7 13 "CastDeskModel" "sizes" "[I", Cond.methodLink RX7 115 yX7_toLetOut, Cond.instanceMethod yX7_toLetOut, Cond.selects RX7 yX7_toLetOut yX7_toLetOut, Cond.code yX7_toLetOut cX7_toLetOut 4 (some .int), Cond.fieldLink RX7 32 "CastDeskModel" "letOut" "[I"]
def wsX7_canPlay : List Cond := .code yX7_canPlay cX7_canPlay 4 (some .boolean) :: ((wsX7_canPlay_r1 ++ wsX7_canPlay_r2) ++ wsX70)
def wsX7_layAble_r1 : List Cond := [Cond.fieldLink RX7 7 "CastDeskModel" "parts" "I", Cond.fieldLink RX7 23 "CastDeskModel" "lengths" "[I", Cond.fieldLink RX7 20 "CastDeskModel" "rows" "[I", Cond.fieldLink RX7 65 "CastDeskModel" "able" "[I", Cond.methodLink RX7 118 yX7_can, Cond.instanceMethod yX7_can, Cond.selects RX7 yX7_can yX7_can, Cond.initialized RX7, Cond.code yX7_can cX7_can 5 (some .boolean), Cond.fieldLink RX7 35 "CastDeskModel" "ill" "[I", Cond.methodLink RX7 99 yX7_rankOf, Cond.instanceMethod yX7_rankOf, Cond.selects RX7 yX7_rankOf yX7_rankOf, Cond.code yX7_rankOf cX7_rankOf 4 (some .int), Cond.methodLink RX7 92 yX7_knows, Cond.instanceMethod yX7_knows, Cond.selects RX7 yX7_knows yX7_knows, Cond.code yX7_knows cX7_knows 3 (some .boolean), Cond.fieldLink RX7 17 "CastDeskModel" "known" "[I", Cond.methodLink RX7 112 yX7_fits, Cond.instanceMethod yX7_fits, Cond.selects RX7 yX7_fits yX7_fits, Cond.code yX7_fits cX7_fits 5 (some .boolean), Cond.fieldLink RX7 103 "CastDeskModel" "costumes" "I"]
def wsX7_layAble_r2 : List Cond := [Cond.fieldLink RX7 26 "CastDeskModel" "costumePart" "[I", Cond.fieldLink RX7 29 "CastDeskModel" "costumeSize" "[I", Cond.fieldLink RX7 13 "CastDeskModel" "sizes" "[I", Cond.methodLink RX7 115 yX7_toLetOut, Cond.instanceMethod yX7_toLetOut, Cond.selects RX7 yX7_toLetOut yX7_toLetOut, Cond.code yX7_toLetOut cX7_toLetOut 4 (some .int), Cond.fieldLink RX7 32 "CastDeskModel" "letOut" "[I"]
def wsX7_layAble : List Cond := .code yX7_layAble cX7_layAble 6 none :: ((wsX7_layAble_r1 ++ wsX7_layAble_r2) ++ wsX70)
def wsX7_firstBad : List Cond := .code yX7_firstBad cX7_firstBad 5 (some .int) :: ([.fieldLink RX7 7 "CastDeskModel" "parts" "I", .fieldLink RX7 65 "CastDeskModel" "able" "[I", .fieldLink RX7 20 "CastDeskModel" "rows" "[I"] ++ wsX70)
def wsX7_keep : List Cond := .code yX7_keep cX7_keep 6 none :: ([.fieldLink RX7 7 "CastDeskModel" "parts" "I", .fieldLink RX7 65 "CastDeskModel" "able" "[I", .fieldLink RX7 121 "CastDeskModel" "leastStrain" "I", .fieldLink RX7 124 "CastDeskModel" "leastWork" "I", .fieldLink RX7 68 "CastDeskModel" "cast" "[I", .fieldLink RX7 20 "CastDeskModel" "rows" "[I"] ++ wsX70)
def wsX7_lay_r1 : List Cond := [Cond.fieldLink RX7 121 "CastDeskModel" "leastStrain" "I", Cond.fieldLink RX7 124 "CastDeskModel" "leastWork" "I", Cond.fieldLink RX7 68 "CastDeskModel" "cast" "[I", Cond.fieldLink RX7 7 "CastDeskModel" "parts" "I", Cond.methodLink RX7 127 yX7_layAble, Cond.instanceMethod yX7_layAble, Cond.selects RX7 yX7_layAble yX7_layAble, Cond.initialized RX7, Cond.code yX7_layAble cX7_layAble 6 none, Cond.fieldLink RX7 23 "CastDeskModel" "lengths" "[I", Cond.fieldLink RX7 20 "CastDeskModel" "rows" "[I", Cond.fieldLink RX7 65 "CastDeskModel" "able" "[I", Cond.methodLink RX7 118 yX7_can, Cond.instanceMethod yX7_can, Cond.selects RX7 yX7_can yX7_can, Cond.code yX7_can cX7_can 5 (some .boolean), Cond.fieldLink RX7 35 "CastDeskModel" "ill" "[I", Cond.methodLink RX7 99 yX7_rankOf, Cond.instanceMethod yX7_rankOf, Cond.selects RX7 yX7_rankOf yX7_rankOf, Cond.code yX7_rankOf cX7_rankOf 4 (some .int), Cond.methodLink RX7 92 yX7_knows, Cond.instanceMethod yX7_knows, Cond.selects RX7 yX7_knows yX7_knows]
def wsX7_lay_r2 : List Cond := [Cond.code yX7_knows cX7_knows 3 (some .boolean), Cond.fieldLink RX7 17 "CastDeskModel" "known" "[I", Cond.methodLink RX7 112 yX7_fits, Cond.instanceMethod yX7_fits, Cond.selects RX7 yX7_fits yX7_fits, Cond.code yX7_fits cX7_fits 5 (some .boolean), Cond.fieldLink RX7 103 "CastDeskModel" "costumes" "I", Cond.fieldLink RX7 26 "CastDeskModel" "costumePart" "[I", Cond.fieldLink RX7 29 "CastDeskModel" "costumeSize" "[I", Cond.fieldLink RX7 13 "CastDeskModel" "sizes" "[I", Cond.methodLink RX7 115 yX7_toLetOut, Cond.instanceMethod yX7_toLetOut, Cond.selects RX7 yX7_toLetOut yX7_toLetOut, Cond.code yX7_toLetOut cX7_toLetOut 4 (some .int), Cond.fieldLink RX7 32 "CastDeskModel" "letOut" "[I", Cond.methodLink RX7 131 yX7_firstBad, Cond.instanceMethod yX7_firstBad, Cond.selects RX7 yX7_firstBad yX7_firstBad, Cond.code yX7_firstBad cX7_firstBad 5 (some .int), Cond.methodLink RX7 134 yX7_keep, Cond.instanceMethod yX7_keep, Cond.selects RX7 yX7_keep yX7_keep, Cond.code yX7_keep cX7_keep 6 none]
def wsX7_lay : List Cond := .code yX7_lay cX7_lay 6 (some .boolean) :: ((wsX7_lay_r1 ++ wsX7_lay_r2) ++ wsX70)
def wsX7_strain_r1 : List Cond := [Cond.fieldLink RX7 74 "CastDeskModel" "thrown" "I", Cond.fieldLink RX7 121 "CastDeskModel" "leastStrain" "I", Cond.methodLink RX7 109 yX7_isDay, Cond.static yX7_isDay, Cond.initialized RX7, Cond.code yX7_isDay cX7_isDay 1 (some .boolean), Cond.methodLink RX7 77 yX7_in, Cond.static yX7_in, Cond.code yX7_in cX7_in 3 (some .boolean), Cond.methodLink RX7 81 yX7_fails, Cond.instanceMethod yX7_fails, Cond.selects RX7 yX7_fails yX7_fails, Cond.code yX7_fails cX7_fails 2 (some .int), Cond.methodLink RX7 138 yX7_lay, Cond.instanceMethod yX7_lay, Cond.selects RX7 yX7_lay yX7_lay, Cond.code yX7_lay cX7_lay 6 (some .boolean), Cond.fieldLink RX7 124 "CastDeskModel" "leastWork" "I", Cond.fieldLink RX7 68 "CastDeskModel" "cast" "[I", Cond.fieldLink RX7 7 "CastDeskModel" "parts" "I", Cond.methodLink RX7 127 yX7_layAble, Cond.instanceMethod yX7_layAble, Cond.selects RX7 yX7_layAble yX7_layAble, Cond.code yX7_layAble cX7_layAble 6 none]
def wsX7_strain_r2 : List Cond := [Cond.fieldLink RX7 23 "CastDeskModel" "lengths" "[I", Cond.fieldLink RX7 20 "CastDeskModel" "rows" "[I", Cond.fieldLink RX7 65 "CastDeskModel" "able" "[I", Cond.methodLink RX7 118 yX7_can, Cond.instanceMethod yX7_can, Cond.selects RX7 yX7_can yX7_can, Cond.code yX7_can cX7_can 5 (some .boolean), Cond.fieldLink RX7 35 "CastDeskModel" "ill" "[I", Cond.methodLink RX7 99 yX7_rankOf, Cond.instanceMethod yX7_rankOf, Cond.selects RX7 yX7_rankOf yX7_rankOf, Cond.code yX7_rankOf cX7_rankOf 4 (some .int), Cond.methodLink RX7 92 yX7_knows, Cond.instanceMethod yX7_knows, Cond.selects RX7 yX7_knows yX7_knows, Cond.code yX7_knows cX7_knows 3 (some .boolean), Cond.fieldLink RX7 17 "CastDeskModel" "known" "[I", Cond.methodLink RX7 112 yX7_fits, Cond.instanceMethod yX7_fits, Cond.selects RX7 yX7_fits yX7_fits, Cond.code yX7_fits cX7_fits 5 (some .boolean), Cond.fieldLink RX7 103 "CastDeskModel" "costumes" "I", Cond.fieldLink RX7 26 "CastDeskModel" "costumePart" "[I", Cond.fieldLink RX7 29 "CastDeskModel" "costumeSize" "[I"]
def wsX7_strain_r3 : List Cond := [Cond.fieldLink RX7 13 "CastDeskModel" "sizes" "[I", Cond.methodLink RX7 115 yX7_toLetOut, Cond.instanceMethod yX7_toLetOut, Cond.selects RX7 yX7_toLetOut yX7_toLetOut, Cond.code yX7_toLetOut cX7_toLetOut 4 (some .int), Cond.fieldLink RX7 32 "CastDeskModel" "letOut" "[I", Cond.methodLink RX7 131 yX7_firstBad, Cond.instanceMethod yX7_firstBad, Cond.selects RX7 yX7_firstBad yX7_firstBad, Cond.code yX7_firstBad cX7_firstBad 5 (some .int), Cond.methodLink RX7 134 yX7_keep, Cond.instanceMethod yX7_keep, Cond.selects RX7 yX7_keep yX7_keep, Cond.code yX7_keep cX7_keep 6 none]
def wsX7_strain : List Cond := .code yX7_strain cX7_strain 2 (some .int) :: ((wsX7_strain_r1 ++ (wsX7_strain_r2 ++ wsX7_strain_r3)) ++ wsX70)
def wsX7_strainByAll_r1 : List Cond := [Cond.fieldLink RX7 74 "CastDeskModel" "thrown" "I", Cond.fieldLink RX7 121 "CastDeskModel" "leastStrain" "I", Cond.methodLink RX7 109 yX7_isDay, Cond.static yX7_isDay, Cond.initialized RX7, Cond.code yX7_isDay cX7_isDay 1 (some .boolean), Cond.methodLink RX7 77 yX7_in, Cond.static yX7_in, Cond.code yX7_in cX7_in 3 (some .boolean), Cond.methodLink RX7 81 yX7_fails, Cond.instanceMethod yX7_fails, Cond.selects RX7 yX7_fails yX7_fails, Cond.code yX7_fails cX7_fails 2 (some .int), Cond.methodLink RX7 138 yX7_lay, Cond.instanceMethod yX7_lay, Cond.selects RX7 yX7_lay yX7_lay, Cond.code yX7_lay cX7_lay 6 (some .boolean), Cond.fieldLink RX7 124 "CastDeskModel" "leastWork" "I", Cond.fieldLink RX7 68 "CastDeskModel" "cast" "[I", Cond.fieldLink RX7 7 "CastDeskModel" "parts" "I", Cond.methodLink RX7 127 yX7_layAble, Cond.instanceMethod yX7_layAble, Cond.selects RX7 yX7_layAble yX7_layAble, Cond.code yX7_layAble cX7_layAble 6 none]
def wsX7_strainByAll_r2 : List Cond := [Cond.fieldLink RX7 23 "CastDeskModel" "lengths" "[I", Cond.fieldLink RX7 20 "CastDeskModel" "rows" "[I", Cond.fieldLink RX7 65 "CastDeskModel" "able" "[I", Cond.methodLink RX7 118 yX7_can, Cond.instanceMethod yX7_can, Cond.selects RX7 yX7_can yX7_can, Cond.code yX7_can cX7_can 5 (some .boolean), Cond.fieldLink RX7 35 "CastDeskModel" "ill" "[I", Cond.methodLink RX7 99 yX7_rankOf, Cond.instanceMethod yX7_rankOf, Cond.selects RX7 yX7_rankOf yX7_rankOf, Cond.code yX7_rankOf cX7_rankOf 4 (some .int), Cond.methodLink RX7 92 yX7_knows, Cond.instanceMethod yX7_knows, Cond.selects RX7 yX7_knows yX7_knows, Cond.code yX7_knows cX7_knows 3 (some .boolean), Cond.fieldLink RX7 17 "CastDeskModel" "known" "[I", Cond.methodLink RX7 112 yX7_fits, Cond.instanceMethod yX7_fits, Cond.selects RX7 yX7_fits yX7_fits, Cond.code yX7_fits cX7_fits 5 (some .boolean), Cond.fieldLink RX7 103 "CastDeskModel" "costumes" "I", Cond.fieldLink RX7 26 "CastDeskModel" "costumePart" "[I", Cond.fieldLink RX7 29 "CastDeskModel" "costumeSize" "[I"]
def wsX7_strainByAll_r3 : List Cond := [Cond.fieldLink RX7 13 "CastDeskModel" "sizes" "[I", Cond.methodLink RX7 115 yX7_toLetOut, Cond.instanceMethod yX7_toLetOut, Cond.selects RX7 yX7_toLetOut yX7_toLetOut, Cond.code yX7_toLetOut cX7_toLetOut 4 (some .int), Cond.fieldLink RX7 32 "CastDeskModel" "letOut" "[I", Cond.methodLink RX7 131 yX7_firstBad, Cond.instanceMethod yX7_firstBad, Cond.selects RX7 yX7_firstBad yX7_firstBad, Cond.code yX7_firstBad cX7_firstBad 5 (some .int), Cond.methodLink RX7 134 yX7_keep, Cond.instanceMethod yX7_keep, Cond.selects RX7 yX7_keep yX7_keep, Cond.code yX7_keep cX7_keep 6 none]
def wsX7_strainByAll : List Cond := .code yX7_strainByAll cX7_strainByAll 2 (some .int) :: ((wsX7_strainByAll_r1 ++ (wsX7_strainByAll_r2 ++ wsX7_strainByAll_r3)) ++ wsX70)
def wsX7_work_r1 : List Cond := [Cond.fieldLink RX7 74 "CastDeskModel" "thrown" "I", Cond.fieldLink RX7 124 "CastDeskModel" "leastWork" "I", Cond.methodLink RX7 109 yX7_isDay, Cond.static yX7_isDay, Cond.initialized RX7, Cond.code yX7_isDay cX7_isDay 1 (some .boolean), Cond.methodLink RX7 77 yX7_in, Cond.static yX7_in, Cond.code yX7_in cX7_in 3 (some .boolean), Cond.methodLink RX7 81 yX7_fails, Cond.instanceMethod yX7_fails, Cond.selects RX7 yX7_fails yX7_fails, Cond.code yX7_fails cX7_fails 2 (some .int), Cond.methodLink RX7 138 yX7_lay, Cond.instanceMethod yX7_lay, Cond.selects RX7 yX7_lay yX7_lay, Cond.code yX7_lay cX7_lay 6 (some .boolean), Cond.fieldLink RX7 121 "CastDeskModel" "leastStrain" "I", Cond.fieldLink RX7 68 "CastDeskModel" "cast" "[I", Cond.fieldLink RX7 7 "CastDeskModel" "parts" "I", Cond.methodLink RX7 127 yX7_layAble, Cond.instanceMethod yX7_layAble, Cond.selects RX7 yX7_layAble yX7_layAble, Cond.code yX7_layAble cX7_layAble 6 none]
def wsX7_work_r2 : List Cond := [Cond.fieldLink RX7 23 "CastDeskModel" "lengths" "[I", Cond.fieldLink RX7 20 "CastDeskModel" "rows" "[I", Cond.fieldLink RX7 65 "CastDeskModel" "able" "[I", Cond.methodLink RX7 118 yX7_can, Cond.instanceMethod yX7_can, Cond.selects RX7 yX7_can yX7_can, Cond.code yX7_can cX7_can 5 (some .boolean), Cond.fieldLink RX7 35 "CastDeskModel" "ill" "[I", Cond.methodLink RX7 99 yX7_rankOf, Cond.instanceMethod yX7_rankOf, Cond.selects RX7 yX7_rankOf yX7_rankOf, Cond.code yX7_rankOf cX7_rankOf 4 (some .int), Cond.methodLink RX7 92 yX7_knows, Cond.instanceMethod yX7_knows, Cond.selects RX7 yX7_knows yX7_knows, Cond.code yX7_knows cX7_knows 3 (some .boolean), Cond.fieldLink RX7 17 "CastDeskModel" "known" "[I", Cond.methodLink RX7 112 yX7_fits, Cond.instanceMethod yX7_fits, Cond.selects RX7 yX7_fits yX7_fits, Cond.code yX7_fits cX7_fits 5 (some .boolean), Cond.fieldLink RX7 103 "CastDeskModel" "costumes" "I", Cond.fieldLink RX7 26 "CastDeskModel" "costumePart" "[I", Cond.fieldLink RX7 29 "CastDeskModel" "costumeSize" "[I"]
def wsX7_work_r3 : List Cond := [Cond.fieldLink RX7 13 "CastDeskModel" "sizes" "[I", Cond.methodLink RX7 115 yX7_toLetOut, Cond.instanceMethod yX7_toLetOut, Cond.selects RX7 yX7_toLetOut yX7_toLetOut, Cond.code yX7_toLetOut cX7_toLetOut 4 (some .int), Cond.fieldLink RX7 32 "CastDeskModel" "letOut" "[I", Cond.methodLink RX7 131 yX7_firstBad, Cond.instanceMethod yX7_firstBad, Cond.selects RX7 yX7_firstBad yX7_firstBad, Cond.code yX7_firstBad cX7_firstBad 5 (some .int), Cond.methodLink RX7 134 yX7_keep, Cond.instanceMethod yX7_keep, Cond.selects RX7 yX7_keep yX7_keep, Cond.code yX7_keep cX7_keep 6 none]
def wsX7_work : List Cond := .code yX7_work cX7_work 2 (some .int) :: ((wsX7_work_r1 ++ (wsX7_work_r2 ++ wsX7_work_r3)) ++ wsX70)
def wsX7_actorFor_r1 : List Cond := [Cond.fieldLink RX7 74 "CastDeskModel" "thrown" "I", Cond.fieldLink RX7 68 "CastDeskModel" "cast" "[I", Cond.methodLink RX7 89 yX7_isPart, Cond.static yX7_isPart, Cond.initialized RX7, Cond.code yX7_isPart cX7_isPart 1 (some .boolean), Cond.methodLink RX7 77 yX7_in, Cond.static yX7_in, Cond.code yX7_in cX7_in 3 (some .boolean), Cond.methodLink RX7 81 yX7_fails, Cond.instanceMethod yX7_fails, Cond.selects RX7 yX7_fails yX7_fails, Cond.code yX7_fails cX7_fails 2 (some .int), Cond.methodLink RX7 109 yX7_isDay, Cond.static yX7_isDay, Cond.code yX7_isDay cX7_isDay 1 (some .boolean), Cond.methodLink RX7 138 yX7_lay, Cond.instanceMethod yX7_lay, Cond.selects RX7 yX7_lay yX7_lay, Cond.code yX7_lay cX7_lay 6 (some .boolean), Cond.fieldLink RX7 121 "CastDeskModel" "leastStrain" "I", Cond.fieldLink RX7 124 "CastDeskModel" "leastWork" "I", Cond.fieldLink RX7 7 "CastDeskModel" "parts" "I", Cond.methodLink RX7 127 yX7_layAble]
def wsX7_actorFor_r2 : List Cond := [Cond.instanceMethod yX7_layAble, Cond.selects RX7 yX7_layAble yX7_layAble, Cond.code yX7_layAble cX7_layAble 6 none, Cond.fieldLink RX7 23 "CastDeskModel" "lengths" "[I", Cond.fieldLink RX7 20 "CastDeskModel" "rows" "[I", Cond.fieldLink RX7 65 "CastDeskModel" "able" "[I", Cond.methodLink RX7 118 yX7_can, Cond.instanceMethod yX7_can, Cond.selects RX7 yX7_can yX7_can, Cond.code yX7_can cX7_can 5 (some .boolean), Cond.fieldLink RX7 35 "CastDeskModel" "ill" "[I", Cond.methodLink RX7 99 yX7_rankOf, Cond.instanceMethod yX7_rankOf, Cond.selects RX7 yX7_rankOf yX7_rankOf, Cond.code yX7_rankOf cX7_rankOf 4 (some .int), Cond.methodLink RX7 92 yX7_knows, Cond.instanceMethod yX7_knows, Cond.selects RX7 yX7_knows yX7_knows, Cond.code yX7_knows cX7_knows 3 (some .boolean), Cond.fieldLink RX7 17 "CastDeskModel" "known" "[I", Cond.methodLink RX7 112 yX7_fits, Cond.instanceMethod yX7_fits, Cond.selects RX7 yX7_fits yX7_fits, Cond.code yX7_fits cX7_fits 5 (some .boolean)]
def wsX7_actorFor_r3 : List Cond := [Cond.fieldLink RX7 103 "CastDeskModel" "costumes" "I", Cond.fieldLink RX7 26 "CastDeskModel" "costumePart" "[I", Cond.fieldLink RX7 29 "CastDeskModel" "costumeSize" "[I", Cond.fieldLink RX7 13 "CastDeskModel" "sizes" "[I", Cond.methodLink RX7 115 yX7_toLetOut, Cond.instanceMethod yX7_toLetOut, Cond.selects RX7 yX7_toLetOut yX7_toLetOut, Cond.code yX7_toLetOut cX7_toLetOut 4 (some .int), Cond.fieldLink RX7 32 "CastDeskModel" "letOut" "[I", Cond.methodLink RX7 131 yX7_firstBad, Cond.instanceMethod yX7_firstBad, Cond.selects RX7 yX7_firstBad yX7_firstBad, Cond.code yX7_firstBad cX7_firstBad 5 (some .int), Cond.methodLink RX7 134 yX7_keep, Cond.instanceMethod yX7_keep, Cond.selects RX7 yX7_keep yX7_keep, Cond.code yX7_keep cX7_keep 6 none]
def wsX7_actorFor : List Cond := .code yX7_actorFor cX7_actorFor 3 (some .int) :: ((wsX7_actorFor_r1 ++ (wsX7_actorFor_r2 ++ wsX7_actorFor_r3)) ++ wsX70)
def wsX7_chain_r1 : List Cond := [Cond.fieldLink RX7 74 "CastDeskModel" "thrown" "I", Cond.fieldLink RX7 71 "CastDeskModel" "before" "[I", Cond.fieldLink RX7 68 "CastDeskModel" "cast" "[I", Cond.fieldLink RX7 7 "CastDeskModel" "parts" "I", Cond.methodLink RX7 85 yX7_isActor, Cond.static yX7_isActor, Cond.initialized RX7, Cond.code yX7_isActor cX7_isActor 1 (some .boolean), Cond.methodLink RX7 77 yX7_in, Cond.static yX7_in, Cond.code yX7_in cX7_in 3 (some .boolean), Cond.methodLink RX7 81 yX7_fails, Cond.instanceMethod yX7_fails, Cond.selects RX7 yX7_fails yX7_fails, Cond.code yX7_fails cX7_fails 2 (some .int), Cond.methodLink RX7 109 yX7_isDay, Cond.static yX7_isDay, Cond.code yX7_isDay cX7_isDay 1 (some .boolean), Cond.methodLink RX7 138 yX7_lay, Cond.instanceMethod yX7_lay, Cond.selects RX7 yX7_lay yX7_lay, Cond.code yX7_lay cX7_lay 6 (some .boolean), Cond.fieldLink RX7 121 "CastDeskModel" "leastStrain" "I", Cond.fieldLink RX7 124 "CastDeskModel" "leastWork" "I"]
def wsX7_chain_r2 : List Cond := [Cond.methodLink RX7 127 yX7_layAble, Cond.instanceMethod yX7_layAble, Cond.selects RX7 yX7_layAble yX7_layAble, Cond.code yX7_layAble cX7_layAble 6 none, Cond.fieldLink RX7 23 "CastDeskModel" "lengths" "[I", Cond.fieldLink RX7 20 "CastDeskModel" "rows" "[I", Cond.fieldLink RX7 65 "CastDeskModel" "able" "[I", Cond.methodLink RX7 118 yX7_can, Cond.instanceMethod yX7_can, Cond.selects RX7 yX7_can yX7_can, Cond.code yX7_can cX7_can 5 (some .boolean), Cond.fieldLink RX7 35 "CastDeskModel" "ill" "[I", Cond.methodLink RX7 99 yX7_rankOf, Cond.instanceMethod yX7_rankOf, Cond.selects RX7 yX7_rankOf yX7_rankOf, Cond.code yX7_rankOf cX7_rankOf 4 (some .int), Cond.methodLink RX7 92 yX7_knows, Cond.instanceMethod yX7_knows, Cond.selects RX7 yX7_knows yX7_knows, Cond.code yX7_knows cX7_knows 3 (some .boolean), Cond.fieldLink RX7 17 "CastDeskModel" "known" "[I", Cond.methodLink RX7 112 yX7_fits, Cond.instanceMethod yX7_fits, Cond.selects RX7 yX7_fits yX7_fits]
def wsX7_chain_r3 : List Cond := [Cond.code yX7_fits cX7_fits 5 (some .boolean), Cond.fieldLink RX7 103 "CastDeskModel" "costumes" "I", Cond.fieldLink RX7 26 "CastDeskModel" "costumePart" "[I", Cond.fieldLink RX7 29 "CastDeskModel" "costumeSize" "[I", Cond.fieldLink RX7 13 "CastDeskModel" "sizes" "[I", Cond.methodLink RX7 115 yX7_toLetOut, Cond.instanceMethod yX7_toLetOut, Cond.selects RX7 yX7_toLetOut yX7_toLetOut, Cond.code yX7_toLetOut cX7_toLetOut 4 (some .int), Cond.fieldLink RX7 32 "CastDeskModel" "letOut" "[I", Cond.methodLink RX7 131 yX7_firstBad, Cond.instanceMethod yX7_firstBad, Cond.selects RX7 yX7_firstBad yX7_firstBad, Cond.code yX7_firstBad cX7_firstBad 5 (some .int), Cond.methodLink RX7 134 yX7_keep, Cond.instanceMethod yX7_keep, Cond.selects RX7 yX7_keep yX7_keep, Cond.code yX7_keep cX7_keep 6 none]
def wsX7_chain : List Cond := .code yX7_chain cX7_chain 5 (some .int) :: ((wsX7_chain_r1 ++ (wsX7_chain_r2 ++ wsX7_chain_r3)) ++ wsX70)
def wsX7_showOn : List Cond := .code yX7_showOn cX7_showOn 4 (some .int) :: ([.fieldLink RX7 141 "CastDeskModel" "shows" "I", .fieldLink RX7 38 "CastDeskModel" "showDay" "[I"] ++ wsX70)
def wsX7_show : List Cond := .code yX7_show cX7_show 3 (some .int) :: ([.fieldLink RX7 74 "CastDeskModel" "thrown" "I", .fieldLink RX7 106 "CastDeskModel" "today" "I", .fieldLink RX7 141 "CastDeskModel" "shows" "I", .fieldLink RX7 38 "CastDeskModel" "showDay" "[I", .fieldLink RX7 44 "CastDeskModel" "showCast" "[I", .methodLink RX7 77 yX7_in, .static yX7_in, .initialized RX7, .code yX7_in cX7_in 3 (some .boolean), .methodLink RX7 81 yX7_fails, .instanceMethod yX7_fails, .selects RX7 yX7_fails yX7_fails, .code yX7_fails cX7_fails 2 (some .int), .methodLink RX7 144 yX7_showOn, .instanceMethod yX7_showOn, .selects RX7 yX7_showOn yX7_showOn, .code yX7_showOn cX7_showOn 4 (some .int)] ++ wsX70)
def wsX7_sell : List Cond := .code yX7_sell cX7_sell 5 (some .int) :: ([.fieldLink RX7 74 "CastDeskModel" "thrown" "I", .fieldLink RX7 141 "CastDeskModel" "shows" "I", .fieldLink RX7 41 "CastDeskModel" "showState" "[I", .fieldLink RX7 147 "CastDeskModel" "seats" "I", .fieldLink RX7 23 "CastDeskModel" "lengths" "[I", .fieldLink RX7 47 "CastDeskModel" "seatShow" "[I", .fieldLink RX7 50 "CastDeskModel" "seatPrice" "[I", .fieldLink RX7 53 "CastDeskModel" "seatPromise" "[I", .fieldLink RX7 56 "CastDeskModel" "seatPart" "[I", .fieldLink RX7 59 "CastDeskModel" "seatStar" "[I", .fieldLink RX7 20 "CastDeskModel" "rows" "[I", .fieldLink RX7 150 "CastDeskModel" "taken" "I", .methodLink RX7 77 yX7_in, .static yX7_in, .initialized RX7, .code yX7_in cX7_in 3 (some .boolean), .methodLink RX7 89 yX7_isPart, .static yX7_isPart, .code yX7_isPart cX7_isPart 1 (some .boolean), .methodLink RX7 81 yX7_fails, .instanceMethod yX7_fails, .selects RX7 yX7_fails yX7_fails, .code yX7_fails cX7_fails 2 (some .int)] ++ wsX70)
def wsX7_refundOf : List Cond := .code yX7_refundOf cX7_refundOf 4 (some .int) :: ([.fieldLink RX7 56 "CastDeskModel" "seatPart" "[I", .fieldLink RX7 50 "CastDeskModel" "seatPrice" "[I", .fieldLink RX7 53 "CastDeskModel" "seatPromise" "[I", .fieldLink RX7 121 "CastDeskModel" "leastStrain" "I", .fieldLink RX7 7 "CastDeskModel" "parts" "I", .fieldLink RX7 68 "CastDeskModel" "cast" "[I", .fieldLink RX7 59 "CastDeskModel" "seatStar" "[I", .methodLink RX7 99 yX7_rankOf, .instanceMethod yX7_rankOf, .selects RX7 yX7_rankOf yX7_rankOf, .initialized RX7, .code yX7_rankOf cX7_rankOf 4 (some .int), .fieldLink RX7 23 "CastDeskModel" "lengths" "[I", .fieldLink RX7 20 "CastDeskModel" "rows" "[I"] ++ wsX70)
def wsX7_refundAll : List Cond := .code yX7_refundAll cX7_refundAll 5 (some .int) :: ([.fieldLink RX7 147 "CastDeskModel" "seats" "I", .fieldLink RX7 47 "CastDeskModel" "seatShow" "[I", .fieldLink RX7 62 "CastDeskModel" "seatRefund" "[I", .fieldLink RX7 50 "CastDeskModel" "seatPrice" "[I", .methodLink RX7 153 yX7_refundOf, .instanceMethod yX7_refundOf, .selects RX7 yX7_refundOf yX7_refundOf, .initialized RX7, .code yX7_refundOf cX7_refundOf 4 (some .int), .fieldLink RX7 56 "CastDeskModel" "seatPart" "[I", .fieldLink RX7 53 "CastDeskModel" "seatPromise" "[I", .fieldLink RX7 121 "CastDeskModel" "leastStrain" "I", .fieldLink RX7 7 "CastDeskModel" "parts" "I", .fieldLink RX7 68 "CastDeskModel" "cast" "[I", .fieldLink RX7 59 "CastDeskModel" "seatStar" "[I", .methodLink RX7 99 yX7_rankOf, .instanceMethod yX7_rankOf, .selects RX7 yX7_rankOf yX7_rankOf, .code yX7_rankOf cX7_rankOf 4 (some .int), .fieldLink RX7 23 "CastDeskModel" "lengths" "[I", .fieldLink RX7 20 "CastDeskModel" "rows" "[I"] ++ wsX70)
def wsX7_perform : List Cond := .code yX7_perform cX7_perform 4 none :: ([.fieldLink RX7 41 "CastDeskModel" "showState" "[I", .fieldLink RX7 7 "CastDeskModel" "parts" "I", .fieldLink RX7 44 "CastDeskModel" "showCast" "[I", .fieldLink RX7 68 "CastDeskModel" "cast" "[I", .fieldLink RX7 29 "CastDeskModel" "costumeSize" "[I", .fieldLink RX7 32 "CastDeskModel" "letOut" "[I", .methodLink RX7 112 yX7_fits, .instanceMethod yX7_fits, .selects RX7 yX7_fits yX7_fits, .initialized RX7, .code yX7_fits cX7_fits 5 (some .boolean), .fieldLink RX7 103 "CastDeskModel" "costumes" "I", .fieldLink RX7 26 "CastDeskModel" "costumePart" "[I", .fieldLink RX7 13 "CastDeskModel" "sizes" "[I", .methodLink RX7 115 yX7_toLetOut, .instanceMethod yX7_toLetOut, .selects RX7 yX7_toLetOut yX7_toLetOut, .code yX7_toLetOut cX7_toLetOut 4 (some .int)] ++ wsX70)
def wsX7_play_r1 : List Cond := [Cond.fieldLink RX7 74 "CastDeskModel" "thrown" "I", Cond.fieldLink RX7 106 "CastDeskModel" "today" "I", Cond.fieldLink RX7 41 "CastDeskModel" "showState" "[I", Cond.fieldLink RX7 150 "CastDeskModel" "taken" "I", Cond.methodLink RX7 81 yX7_fails, Cond.instanceMethod yX7_fails, Cond.selects RX7 yX7_fails yX7_fails, Cond.initialized RX7, Cond.code yX7_fails cX7_fails 2 (some .int), Cond.methodLink RX7 144 yX7_showOn, Cond.instanceMethod yX7_showOn, Cond.selects RX7 yX7_showOn yX7_showOn, Cond.code yX7_showOn cX7_showOn 4 (some .int), Cond.fieldLink RX7 141 "CastDeskModel" "shows" "I", Cond.fieldLink RX7 38 "CastDeskModel" "showDay" "[I", Cond.methodLink RX7 138 yX7_lay, Cond.instanceMethod yX7_lay, Cond.selects RX7 yX7_lay yX7_lay, Cond.code yX7_lay cX7_lay 6 (some .boolean), Cond.fieldLink RX7 121 "CastDeskModel" "leastStrain" "I", Cond.fieldLink RX7 124 "CastDeskModel" "leastWork" "I", Cond.fieldLink RX7 68 "CastDeskModel" "cast" "[I", Cond.fieldLink RX7 7 "CastDeskModel" "parts" "I", Cond.methodLink RX7 127 yX7_layAble]
def wsX7_play_r2 : List Cond := [Cond.instanceMethod yX7_layAble, Cond.selects RX7 yX7_layAble yX7_layAble, Cond.code yX7_layAble cX7_layAble 6 none, Cond.fieldLink RX7 23 "CastDeskModel" "lengths" "[I", Cond.fieldLink RX7 20 "CastDeskModel" "rows" "[I", Cond.fieldLink RX7 65 "CastDeskModel" "able" "[I", Cond.methodLink RX7 118 yX7_can, Cond.instanceMethod yX7_can, Cond.selects RX7 yX7_can yX7_can, Cond.code yX7_can cX7_can 5 (some .boolean), Cond.fieldLink RX7 35 "CastDeskModel" "ill" "[I", Cond.methodLink RX7 99 yX7_rankOf, Cond.instanceMethod yX7_rankOf, Cond.selects RX7 yX7_rankOf yX7_rankOf, Cond.code yX7_rankOf cX7_rankOf 4 (some .int), Cond.methodLink RX7 92 yX7_knows, Cond.instanceMethod yX7_knows, Cond.selects RX7 yX7_knows yX7_knows, Cond.code yX7_knows cX7_knows 3 (some .boolean), Cond.fieldLink RX7 17 "CastDeskModel" "known" "[I", Cond.methodLink RX7 112 yX7_fits, Cond.instanceMethod yX7_fits, Cond.selects RX7 yX7_fits yX7_fits, Cond.code yX7_fits cX7_fits 5 (some .boolean)]
def wsX7_play_r3 : List Cond := [Cond.fieldLink RX7 103 "CastDeskModel" "costumes" "I", Cond.fieldLink RX7 26 "CastDeskModel" "costumePart" "[I", Cond.fieldLink RX7 29 "CastDeskModel" "costumeSize" "[I", Cond.fieldLink RX7 13 "CastDeskModel" "sizes" "[I", Cond.methodLink RX7 115 yX7_toLetOut, Cond.instanceMethod yX7_toLetOut, Cond.selects RX7 yX7_toLetOut yX7_toLetOut, Cond.code yX7_toLetOut cX7_toLetOut 4 (some .int), Cond.fieldLink RX7 32 "CastDeskModel" "letOut" "[I", Cond.methodLink RX7 131 yX7_firstBad, Cond.instanceMethod yX7_firstBad, Cond.selects RX7 yX7_firstBad yX7_firstBad, Cond.code yX7_firstBad cX7_firstBad 5 (some .int), Cond.methodLink RX7 134 yX7_keep, Cond.instanceMethod yX7_keep, Cond.selects RX7 yX7_keep yX7_keep, Cond.code yX7_keep cX7_keep 6 none, Cond.methodLink RX7 156 yX7_refundAll, Cond.instanceMethod yX7_refundAll, Cond.selects RX7 yX7_refundAll yX7_refundAll, Cond.code yX7_refundAll cX7_refundAll 5 (some .int), Cond.fieldLink RX7 147 "CastDeskModel" "seats" "I", Cond.fieldLink RX7 47 "CastDeskModel" "seatShow" "[I", Cond.fieldLink RX7 62 "CastDeskModel" "seatRefund" "[I"]
def wsX7_play_r4 : List Cond := [Cond.fieldLink RX7 50 "CastDeskModel" "seatPrice" "[I", Cond.methodLink RX7 153 yX7_refundOf, Cond.instanceMethod yX7_refundOf, Cond.selects RX7 yX7_refundOf yX7_refundOf, Cond.code yX7_refundOf cX7_refundOf 4 (some .int), Cond.fieldLink RX7 56 "CastDeskModel" "seatPart" "[I", Cond.fieldLink RX7 53 "CastDeskModel" "seatPromise" "[I", Cond.fieldLink RX7 59 "CastDeskModel" "seatStar" "[I", Cond.methodLink RX7 160 yX7_perform, Cond.instanceMethod yX7_perform, Cond.selects RX7 yX7_perform yX7_perform, Cond.code yX7_perform cX7_perform 4 none, Cond.fieldLink RX7 44 "CastDeskModel" "showCast" "[I"]
def wsX7_play : List Cond := .code yX7_play cX7_play 4 (some .int) :: ((wsX7_play_r1 ++ (wsX7_play_r2 ++ (wsX7_play_r3 ++ wsX7_play_r4))) ++ wsX70)
def wsX7_day : List Cond := .code yX7_day cX7_day 1 (some .int) :: ([.fieldLink RX7 74 "CastDeskModel" "thrown" "I", .fieldLink RX7 106 "CastDeskModel" "today" "I"] ++ wsX70)
def wsX7_stateOf : List Cond := .code yX7_stateOf cX7_stateOf 2 (some .int) :: ([.fieldLink RX7 74 "CastDeskModel" "thrown" "I", .fieldLink RX7 141 "CastDeskModel" "shows" "I", .fieldLink RX7 41 "CastDeskModel" "showState" "[I", .methodLink RX7 77 yX7_in, .static yX7_in, .initialized RX7, .code yX7_in cX7_in 3 (some .boolean), .methodLink RX7 81 yX7_fails, .instanceMethod yX7_fails, .selects RX7 yX7_fails yX7_fails, .code yX7_fails cX7_fails 2 (some .int)] ++ wsX70)
def wsX7_played : List Cond := .code yX7_played cX7_played 3 (some .int) :: ([.fieldLink RX7 74 "CastDeskModel" "thrown" "I", .fieldLink RX7 141 "CastDeskModel" "shows" "I", .fieldLink RX7 44 "CastDeskModel" "showCast" "[I", .methodLink RX7 77 yX7_in, .static yX7_in, .initialized RX7, .code yX7_in cX7_in 3 (some .boolean), .methodLink RX7 89 yX7_isPart, .static yX7_isPart, .code yX7_isPart cX7_isPart 1 (some .boolean), .methodLink RX7 81 yX7_fails, .instanceMethod yX7_fails, .selects RX7 yX7_fails yX7_fails, .code yX7_fails cX7_fails 2 (some .int)] ++ wsX70)
def wsX7_refund : List Cond := .code yX7_refund cX7_refund 2 (some .int) :: ([.fieldLink RX7 74 "CastDeskModel" "thrown" "I", .fieldLink RX7 147 "CastDeskModel" "seats" "I", .fieldLink RX7 62 "CastDeskModel" "seatRefund" "[I", .methodLink RX7 77 yX7_in, .static yX7_in, .initialized RX7, .code yX7_in cX7_in 3 (some .boolean), .methodLink RX7 81 yX7_fails, .instanceMethod yX7_fails, .selects RX7 yX7_fails yX7_fails, .code yX7_fails cX7_fails 2 (some .int)] ++ wsX70)
def wsX7_takings : List Cond := .code yX7_takings cX7_takings 1 (some .int) :: ([.fieldLink RX7 74 "CastDeskModel" "thrown" "I", .fieldLink RX7 150 "CastDeskModel" "taken" "I"] ++ wsX70)
def wsJ9_max_7cf53 : List Cond := .code yJ9_max_7cf53 cJ9_max_7cf53 2 (some .int) :: ([])
def wsL_setParts : List Cond := .codeWith yL_setParts cL_setParts 4 (some .int) [(0, 9, 12, 13)] :: ([.classLink RL 13 "java/lang/IllegalArgumentException", .methodLink RL 7 yX6_setParts, .instanceMethod yX6_setParts, .selects RX6 yX6_setParts yX6_setParts, .initialized RX6, .code yX6_setParts cX6_setParts 3 (some .int), .classLink RX6 58 "java/lang/IllegalArgumentException", .initialized "java/lang/IllegalArgumentException", .fieldLink RX6 51 "CastDesk" "partCount" "I"] ++ wsX60 ++ (vx_atS RX6 62 "java/lang/IllegalArgumentException" ["java/lang/RuntimeException", "java/lang/Exception"]).filter goodWord)
def wsL_setSize : List Cond := .codeWith yL_setSize cL_setSize 5 (some .int) [(0, 10, 13, 19), (0, 10, 17, 13)] :: ([.classLink RL 19 "java/lang/IndexOutOfBoundsException", .classLink RL 13 "java/lang/IllegalArgumentException", .methodLink RL 15 yX6_setSize, .instanceMethod yX6_setSize, .selects RX6 yX6_setSize yX6_setSize, .initialized RX6, .code yX6_setSize cX6_setSize 4 (some .int), .fieldLink RX6 10 "CastDesk" "troupe" "LCastDesk$Troupe;", .fieldLink RX6 72 "CastDesk$Troupe" "sizes" "[I", .methodLink RX6 65 yX6_needActor, .static yX6_needActor, .code yX6_needActor cX6_needActor 1 none, .classLink RX6 215 "java/lang/IndexOutOfBoundsException", .initialized "java/lang/IndexOutOfBoundsException", .methodLink RX6 69 yX6_needSize, .static yX6_needSize, .code yX6_needSize cX6_needSize 1 none, .classLink RX6 58 "java/lang/IllegalArgumentException", .initialized "java/lang/IllegalArgumentException"] ++ wsX60 ++ wsX40 ++ (vx_atS RX6 219 "java/lang/IndexOutOfBoundsException" ["java/lang/RuntimeException", "java/lang/Exception"]).filter goodWord ++ (vx_atS RX6 62 "java/lang/IllegalArgumentException" ["java/lang/RuntimeException", "java/lang/Exception"]).filter goodWord)
def wsL_learn_r1 : List Cond := [Cond.classLink RL 19 "java/lang/IndexOutOfBoundsException", Cond.classLink RL 25 "java/lang/IllegalStateException", Cond.methodLink RL 21 yX6_learn, Cond.instanceMethod yX6_learn, Cond.selects RX6 yX6_learn yX6_learn, Cond.initialized RX6, Cond.code yX6_learn cX6_learn 6 (some .int), Cond.classLink RX6 95 "java/lang/IllegalStateException", Cond.initialized "java/lang/IllegalStateException", Cond.fieldLink RX6 10 "CastDesk" "troupe" "LCastDesk$Troupe;", Cond.fieldLink RX6 79 "CastDesk$Troupe" "known" "[I", Cond.methodLink RX6 65 yX6_needActor, Cond.static yX6_needActor, Cond.code yX6_needActor cX6_needActor 1 none, Cond.classLink RX6 215 "java/lang/IndexOutOfBoundsException", Cond.initialized "java/lang/IndexOutOfBoundsException", Cond.methodLink RX6 76 yX6_needPart, Cond.static yX6_needPart, Cond.code yX6_needPart cX6_needPart 1 none, Cond.methodLink RX6 82 yX6_with, Cond.static yX6_with, Cond.code yX6_with cX6_with 2 (some .int), Cond.methodLink RX6 86 yX6_without, Cond.static yX6_without]
def wsL_learn_r2 : List Cond := [Cond.code yX6_without cX6_without 2 (some .int), Cond.methodLink RX6 89 yJ6_bitCount_0f7a4, Cond.static yJ6_bitCount_0f7a4, Cond.initialized RJ6, Cond.code yJ6_bitCount_0f7a4 cJ6_bitCount_0f7a4 1 (some .int), Cond.constant RJ6 265 (1431655765), Cond.constant RJ6 266 (858993459), Cond.constant RJ6 267 (252645135)]
def wsL_learn : List Cond := .codeWith yL_learn cL_learn 6 (some .int) [(0, 12, 15, 19), (0, 12, 19, 25)] :: ((wsL_learn_r1 ++ wsL_learn_r2) ++ wsX60 ++ wsX40 ++ (vx_atS RX6 99 "java/lang/IllegalStateException" ["java/lang/RuntimeException", "java/lang/Exception"]).filter goodWord ++ (vx_atS RX6 219 "java/lang/IndexOutOfBoundsException" ["java/lang/RuntimeException", "java/lang/Exception"]).filter goodWord)
def wsL_put_r1 : List Cond := [Cond.classLink RL 19 "java/lang/IndexOutOfBoundsException", Cond.classLink RL 25 "java/lang/IllegalStateException", Cond.methodLink RL 27 yX6_put, Cond.instanceMethod yX6_put, Cond.selects RX6 yX6_put yX6_put, Cond.initialized RX6, Cond.code yX6_put cX6_put 3 (some .int), Cond.classLink RX6 95 "java/lang/IllegalStateException", Cond.initialized "java/lang/IllegalStateException", Cond.fieldLink RX6 19 "CastDesk" "rows" "LCastDesk$Rows;", Cond.methodLink RX6 76 yX6_needPart, Cond.static yX6_needPart, Cond.code yX6_needPart cX6_needPart 1 none, Cond.classLink RX6 215 "java/lang/IndexOutOfBoundsException", Cond.initialized "java/lang/IndexOutOfBoundsException", Cond.methodLink RX6 65 yX6_needActor, Cond.static yX6_needActor, Cond.code yX6_needActor cX6_needActor 1 none, Cond.methodLink RX6 100 yX3_rankIn, Cond.instanceMethod yX3_rankIn, Cond.selects RX3 yX3_rankIn yX3_rankIn, Cond.initialized RX3, Cond.code yX3_rankIn cX3_rankIn 4 (some .int), Cond.fieldLink RX3 15 "CastDesk$Rows" "lengths" "[I"]
def wsL_put_r2 : List Cond := [Cond.fieldLink RX3 9 "CastDesk$Rows" "actors" "[I", Cond.methodLink RX6 105 yX3_isFull, Cond.instanceMethod yX3_isFull, Cond.selects RX3 yX3_isFull yX3_isFull, Cond.code yX3_isFull cX3_isFull 2 (some .boolean), Cond.methodLink RX6 111 yX3_append, Cond.instanceMethod yX3_append, Cond.selects RX3 yX3_append yX3_append, Cond.code yX3_append cX3_append 4 (some .int)]
def wsL_put : List Cond := .codeWith yL_put cL_put 5 (some .int) [(0, 10, 13, 19), (0, 10, 17, 25)] :: ((wsL_put_r1 ++ wsL_put_r2) ++ wsX60 ++ wsX30 ++ (vx_atS RX6 99 "java/lang/IllegalStateException" ["java/lang/RuntimeException", "java/lang/Exception"]).filter goodWord ++ (vx_atS RX6 219 "java/lang/IndexOutOfBoundsException" ["java/lang/RuntimeException", "java/lang/Exception"]).filter goodWord)
def wsL_take_r1 : List Cond := [Cond.classLink RL 19 "java/lang/IndexOutOfBoundsException", Cond.classLink RL 25 "java/lang/IllegalStateException", Cond.methodLink RL 30 yX6_take, Cond.instanceMethod yX6_take, Cond.selects RX6 yX6_take yX6_take, Cond.initialized RX6, Cond.code yX6_take cX6_take 4 (some .int), Cond.classLink RX6 95 "java/lang/IllegalStateException", Cond.initialized "java/lang/IllegalStateException", Cond.fieldLink RX6 19 "CastDesk" "rows" "LCastDesk$Rows;", Cond.methodLink RX6 76 yX6_needPart, Cond.static yX6_needPart, Cond.code yX6_needPart cX6_needPart 1 none, Cond.classLink RX6 215 "java/lang/IndexOutOfBoundsException", Cond.initialized "java/lang/IndexOutOfBoundsException", Cond.methodLink RX6 65 yX6_needActor, Cond.static yX6_needActor, Cond.code yX6_needActor cX6_needActor 1 none, Cond.methodLink RX6 100 yX3_rankIn, Cond.instanceMethod yX3_rankIn, Cond.selects RX3 yX3_rankIn yX3_rankIn, Cond.initialized RX3, Cond.code yX3_rankIn cX3_rankIn 4 (some .int), Cond.fieldLink RX3 15 "CastDesk$Rows" "lengths" "[I"]
def wsL_take_r2 : List Cond := [Cond.fieldLink RX3 9 "CastDesk$Rows" "actors" "[I", Cond.methodLink RX6 116 yX3_remove, Cond.instanceMethod yX3_remove, Cond.selects RX3 yX3_remove yX3_remove, Cond.code yX3_remove cX3_remove 4 none]
def wsL_take : List Cond := .codeWith yL_take cL_take 5 (some .int) [(0, 10, 13, 19), (0, 10, 17, 25)] :: ((wsL_take_r1 ++ wsL_take_r2) ++ wsX60 ++ wsX30 ++ (vx_atS RX6 99 "java/lang/IllegalStateException" ["java/lang/RuntimeException", "java/lang/Exception"]).filter goodWord ++ (vx_atS RX6 219 "java/lang/IndexOutOfBoundsException" ["java/lang/RuntimeException", "java/lang/Exception"]).filter goodWord)
def wsL_costume_r1 : List Cond := [Cond.classLink RL 19 "java/lang/IndexOutOfBoundsException", Cond.classLink RL 13 "java/lang/IllegalArgumentException", Cond.classLink RL 25 "java/lang/IllegalStateException", Cond.methodLink RL 33 yX6_costume, Cond.instanceMethod yX6_costume, Cond.selects RX6 yX6_costume yX6_costume, Cond.initialized RX6, Cond.code yX6_costume cX6_costume 3 (some .int), Cond.classLink RX6 95 "java/lang/IllegalStateException", Cond.initialized "java/lang/IllegalStateException", Cond.fieldLink RX6 26 "CastDesk" "wardrobe" "LCastDesk$Wardrobe;", Cond.fieldLink RX6 120 "CastDesk$Wardrobe" "count" "I", Cond.methodLink RX6 76 yX6_needPart, Cond.static yX6_needPart, Cond.code yX6_needPart cX6_needPart 1 none, Cond.classLink RX6 215 "java/lang/IndexOutOfBoundsException", Cond.initialized "java/lang/IndexOutOfBoundsException", Cond.methodLink RX6 69 yX6_needSize, Cond.static yX6_needSize, Cond.code yX6_needSize cX6_needSize 1 none, Cond.classLink RX6 58 "java/lang/IllegalArgumentException", Cond.initialized "java/lang/IllegalArgumentException", Cond.methodLink RX6 125 yX5_add, Cond.instanceMethod yX5_add]
def wsL_costume_r2 : List Cond := [Cond.selects RX5 yX5_add yX5_add, Cond.initialized RX5, Cond.code yX5_add cX5_add 3 (some .int), Cond.fieldLink RX5 15 "CastDesk$Wardrobe" "parts" "[I", Cond.fieldLink RX5 22 "CastDesk$Wardrobe" "count" "I", Cond.fieldLink RX5 9 "CastDesk$Wardrobe" "sizes" "[I"]
def wsL_costume : List Cond := .codeWith yL_costume cL_costume 5 (some .int) [(0, 10, 13, 19), (0, 10, 17, 13), (0, 10, 21, 25)] :: ((wsL_costume_r1 ++ wsL_costume_r2) ++ wsX60 ++ wsX50 ++ (vx_atS RX6 99 "java/lang/IllegalStateException" ["java/lang/RuntimeException", "java/lang/Exception"]).filter goodWord ++ (vx_atS RX6 219 "java/lang/IndexOutOfBoundsException" ["java/lang/RuntimeException", "java/lang/Exception"]).filter goodWord ++ (vx_atS RX6 62 "java/lang/IllegalArgumentException" ["java/lang/RuntimeException", "java/lang/Exception"]).filter goodWord)
def wsL_sizeOf : List Cond := .codeWith yL_sizeOf cL_sizeOf 4 (some .int) [(0, 9, 12, 19)] :: ([.classLink RL 19 "java/lang/IndexOutOfBoundsException", .methodLink RL 36 yX6_sizeOf, .instanceMethod yX6_sizeOf, .selects RX6 yX6_sizeOf yX6_sizeOf, .initialized RX6, .code yX6_sizeOf cX6_sizeOf 2 (some .int), .fieldLink RX6 26 "CastDesk" "wardrobe" "LCastDesk$Wardrobe;", .fieldLink RX6 120 "CastDesk$Wardrobe" "count" "I", .fieldLink RX6 131 "CastDesk$Wardrobe" "sizes" "[I", .methodLink RX6 128 yX6_needOneOf, .static yX6_needOneOf, .code yX6_needOneOf cX6_needOneOf 2 none, .classLink RX6 215 "java/lang/IndexOutOfBoundsException", .initialized "java/lang/IndexOutOfBoundsException"] ++ wsX60 ++ wsX50 ++ (vx_atS RX6 219 "java/lang/IndexOutOfBoundsException" ["java/lang/RuntimeException", "java/lang/Exception"]).filter goodWord)
def wsL_cold_r1 : List Cond := [Cond.classLink RL 19 "java/lang/IndexOutOfBoundsException", Cond.classLink RL 13 "java/lang/IllegalArgumentException", Cond.methodLink RL 39 yX6_cold, Cond.instanceMethod yX6_cold, Cond.selects RX6 yX6_cold yX6_cold, Cond.initialized RX6, Cond.code yX6_cold cX6_cold 4 (some .int), Cond.fieldLink RX6 55 "CastDesk" "today" "I", Cond.fieldLink RX6 10 "CastDesk" "troupe" "LCastDesk$Troupe;", Cond.methodLink RX6 65 yX6_needActor, Cond.static yX6_needActor, Cond.code yX6_needActor cX6_needActor 1 none, Cond.classLink RX6 215 "java/lang/IndexOutOfBoundsException", Cond.initialized "java/lang/IndexOutOfBoundsException", Cond.methodLink RX6 132 yX6_needDay, Cond.static yX6_needDay, Cond.code yX6_needDay cX6_needDay 2 none, Cond.classLink RX6 58 "java/lang/IllegalArgumentException", Cond.initialized "java/lang/IllegalArgumentException", Cond.methodLink RX6 135 yX4_fallIll, Cond.instanceMethod yX4_fallIll, Cond.selects RX4 yX4_fallIll yX4_fallIll, Cond.initialized RX4, Cond.code yX4_fallIll cX4_fallIll 6 (some .int)]
def wsL_cold_r2 : List Cond := [Cond.fieldLink RX4 18 "CastDesk$Troupe" "ill" "[I", Cond.static yX6_has, Cond.code yX6_has cX6_has 2 (some .boolean), Cond.static yX6_with, Cond.code yX6_with cX6_with 2 (some .int)]
def wsL_cold : List Cond := .codeWith yL_cold cL_cold 6 (some .int) [(0, 12, 15, 19), (0, 12, 19, 13)] :: ((wsL_cold_r1 ++ wsL_cold_r2) ++ wsX60 ++ wsX40 ++ (vx_atS RX6 219 "java/lang/IndexOutOfBoundsException" ["java/lang/RuntimeException", "java/lang/Exception"]).filter goodWord ++ (vx_atS RX6 62 "java/lang/IllegalArgumentException" ["java/lang/RuntimeException", "java/lang/Exception"]).filter goodWord)
def wsL_isIll : List Cond := .codeWith yL_isIll cL_isIll 5 (some .int) [(0, 17, 20, 19), (0, 17, 24, 13)] :: ([.classLink RL 19 "java/lang/IndexOutOfBoundsException", .classLink RL 13 "java/lang/IllegalArgumentException", .methodLink RL 43 yX6_isIll, .instanceMethod yX6_isIll, .selects RX6 yX6_isIll yX6_isIll, .initialized RX6, .code yX6_isIll cX6_isIll 3 (some .boolean), .fieldLink RX6 10 "CastDesk" "troupe" "LCastDesk$Troupe;", .fieldLink RX6 139 "CastDesk$Troupe" "ill" "[I", .methodLink RX6 65 yX6_needActor, .static yX6_needActor, .code yX6_needActor cX6_needActor 1 none, .classLink RX6 215 "java/lang/IndexOutOfBoundsException", .initialized "java/lang/IndexOutOfBoundsException", .methodLink RX6 132 yX6_needDay, .static yX6_needDay, .code yX6_needDay cX6_needDay 2 none, .classLink RX6 58 "java/lang/IllegalArgumentException", .initialized "java/lang/IllegalArgumentException", .methodLink RX6 142 yX6_has, .static yX6_has, .code yX6_has cX6_has 2 (some .boolean)] ++ wsX60 ++ wsX40 ++ (vx_atS RX6 219 "java/lang/IndexOutOfBoundsException" ["java/lang/RuntimeException", "java/lang/Exception"]).filter goodWord ++ (vx_atS RX6 62 "java/lang/IllegalArgumentException" ["java/lang/RuntimeException", "java/lang/Exception"]).filter goodWord)
def wsL_canPlay_r1 : List Cond := [Cond.classLink RL 19 "java/lang/IndexOutOfBoundsException", Cond.classLink RL 13 "java/lang/IllegalArgumentException", Cond.methodLink RL 47 yX6_canPlay, Cond.instanceMethod yX6_canPlay, Cond.selects RX6 yX6_canPlay yX6_canPlay, Cond.initialized RX6, Cond.code yX6_canPlay cX6_canPlay 4 (some .boolean), Cond.fieldLink RX6 19 "CastDesk" "rows" "LCastDesk$Rows;", Cond.fieldLink RX6 10 "CastDesk" "troupe" "LCastDesk$Troupe;", Cond.fieldLink RX6 139 "CastDesk$Troupe" "ill" "[I", Cond.methodLink RX6 65 yX6_needActor, Cond.static yX6_needActor, Cond.code yX6_needActor cX6_needActor 1 none, Cond.classLink RX6 215 "java/lang/IndexOutOfBoundsException", Cond.initialized "java/lang/IndexOutOfBoundsException", Cond.methodLink RX6 76 yX6_needPart, Cond.static yX6_needPart, Cond.code yX6_needPart cX6_needPart 1 none, Cond.methodLink RX6 132 yX6_needDay, Cond.static yX6_needDay, Cond.code yX6_needDay cX6_needDay 2 none, Cond.classLink RX6 58 "java/lang/IllegalArgumentException", Cond.initialized "java/lang/IllegalArgumentException", Cond.methodLink RX6 100 yX3_rankIn]
def wsL_canPlay_r2 : List Cond := [Cond.instanceMethod yX3_rankIn, Cond.selects RX3 yX3_rankIn yX3_rankIn, Cond.initialized RX3, Cond.code yX3_rankIn cX3_rankIn 4 (some .int), Cond.fieldLink RX3 15 "CastDesk$Rows" "lengths" "[I", Cond.fieldLink RX3 9 "CastDesk$Rows" "actors" "[I", Cond.methodLink RX6 146 yX6_isReady, Cond.instanceMethod yX6_isReady, Cond.selects RX6 yX6_isReady yX6_isReady, Cond.code yX6_isReady cX6_isReady 5 (some .boolean), Cond.fieldLink RX6 72 "CastDesk$Troupe" "sizes" "[I", Cond.fieldLink RX6 79 "CastDesk$Troupe" "known" "[I", Cond.fieldLink RX6 26 "CastDesk" "wardrobe" "LCastDesk$Wardrobe;", Cond.methodLink RX6 142 yX6_has, Cond.static yX6_has, Cond.code yX6_has cX6_has 2 (some .boolean), Cond.methodLink RX6 228 yX5_lowestFitting, Cond.instanceMethod yX5_lowestFitting, Cond.selects RX5 yX5_lowestFitting yX5_lowestFitting, Cond.initialized RX5, Cond.code yX5_lowestFitting cX5_lowestFitting 4 (some .int), Cond.fieldLink RX5 22 "CastDesk$Wardrobe" "count" "I", Cond.fieldLink RX5 15 "CastDesk$Wardrobe" "parts" "[I", Cond.fieldLink RX5 9 "CastDesk$Wardrobe" "sizes" "[I"]
def wsL_canPlay_r3 : List Cond := [Cond.methodLink RX6 231 yX5_lowestToLetOut, Cond.instanceMethod yX5_lowestToLetOut, Cond.selects RX5 yX5_lowestToLetOut yX5_lowestToLetOut, Cond.code yX5_lowestToLetOut cX5_lowestToLetOut 4 (some .int), Cond.fieldLink RX5 18 "CastDesk$Wardrobe" "isLetOut" "[Z"]
def wsL_canPlay : List Cond := .codeWith yL_canPlay cL_canPlay 6 (some .int) [(0, 19, 22, 19), (0, 19, 26, 13)] :: ((wsL_canPlay_r1 ++ (wsL_canPlay_r2 ++ wsL_canPlay_r3)) ++ wsX60 ++ wsX40 ++ wsX30 ++ wsX50 ++ (vx_atS RX6 219 "java/lang/IndexOutOfBoundsException" ["java/lang/RuntimeException", "java/lang/Exception"]).filter goodWord ++ (vx_atS RX6 62 "java/lang/IllegalArgumentException" ["java/lang/RuntimeException", "java/lang/Exception"]).filter goodWord)
def wsL_strain_r1 : List Cond := [Cond.classLink RL 13 "java/lang/IllegalArgumentException", Cond.methodLink RL 51 yX6_strain, Cond.instanceMethod yX6_strain, Cond.selects RX6 yX6_strain yX6_strain, Cond.initialized RX6, Cond.code yX6_strain cX6_strain 3 (some .int), Cond.fieldLink RX6 10 "CastDesk" "troupe" "LCastDesk$Troupe;", Cond.fieldLink RX6 139 "CastDesk$Troupe" "ill" "[I", Cond.methodLink RX6 132 yX6_needDay, Cond.static yX6_needDay, Cond.code yX6_needDay cX6_needDay 2 none, Cond.classLink RX6 58 "java/lang/IllegalArgumentException", Cond.initialized "java/lang/IllegalArgumentException", Cond.methodLink RX6 150 yX6_bestCast, Cond.instanceMethod yX6_bestCast, Cond.selects RX6 yX6_bestCast yX6_bestCast, Cond.code yX6_bestCast cX6_bestCast 2 (some .int), Cond.fieldLink RX6 33 "CastDesk" "casting" "LCastDesk$Casting;", Cond.fieldLink RX6 51 "CastDesk" "partCount" "I", Cond.methodLink RX6 156 yX6_offerActors, Cond.instanceMethod yX6_offerActors, Cond.selects RX6 yX6_offerActors yX6_offerActors, Cond.code yX6_offerActors cX6_offerActors 6 none, Cond.fieldLink RX6 19 "CastDesk" "rows" "LCastDesk$Rows;"]
def wsL_strain_r2 : List Cond := [Cond.fieldLink RX6 26 "CastDesk" "wardrobe" "LCastDesk$Wardrobe;", Cond.fieldLink RX6 72 "CastDesk$Troupe" "sizes" "[I", Cond.methodLink RX6 234 yX1_clear, Cond.instanceMethod yX1_clear, Cond.selects RX1 yX1_clear yX1_clear, Cond.initialized RX1, Cond.code yX1_clear cX1_clear 2 none, Cond.fieldLink RX1 11 "CastDesk$Casting" "actors" "[I", Cond.fieldLink RX1 25 "CastDesk$Casting" "setsBound" "I", Cond.methodLink RX6 193 yX3_actorAt, Cond.instanceMethod yX3_actorAt, Cond.selects RX3 yX3_actorAt yX3_actorAt, Cond.initialized RX3, Cond.code yX3_actorAt cX3_actorAt 3 (some .int), Cond.fieldLink RX3 15 "CastDesk$Rows" "lengths" "[I", Cond.fieldLink RX3 9 "CastDesk$Rows" "actors" "[I", Cond.methodLink RX6 146 yX6_isReady, Cond.instanceMethod yX6_isReady, Cond.selects RX6 yX6_isReady yX6_isReady, Cond.code yX6_isReady cX6_isReady 5 (some .boolean), Cond.fieldLink RX6 79 "CastDesk$Troupe" "known" "[I", Cond.methodLink RX6 142 yX6_has, Cond.static yX6_has, Cond.code yX6_has cX6_has 2 (some .boolean)]
def wsL_strain_r3 : List Cond := [Cond.methodLink RX6 228 yX5_lowestFitting, Cond.instanceMethod yX5_lowestFitting, Cond.selects RX5 yX5_lowestFitting yX5_lowestFitting, Cond.initialized RX5, Cond.code yX5_lowestFitting cX5_lowestFitting 4 (some .int), Cond.fieldLink RX5 22 "CastDesk$Wardrobe" "count" "I", Cond.fieldLink RX5 15 "CastDesk$Wardrobe" "parts" "[I", Cond.fieldLink RX5 9 "CastDesk$Wardrobe" "sizes" "[I", Cond.methodLink RX6 231 yX5_lowestToLetOut, Cond.instanceMethod yX5_lowestToLetOut, Cond.selects RX5 yX5_lowestToLetOut yX5_lowestToLetOut, Cond.code yX5_lowestToLetOut cX5_lowestToLetOut 4 (some .int), Cond.fieldLink RX5 18 "CastDesk$Wardrobe" "isLetOut" "[Z", Cond.methodLink RX6 237 yX1_offer, Cond.instanceMethod yX1_offer, Cond.selects RX1 yX1_offer yX1_offer, Cond.code yX1_offer cX1_offer 6 none, Cond.fieldLink RX1 15 "CastDesk$Casting" "keys" "[I", Cond.methodLink RX1 29 Lib.Math.max.name, Cond.static Lib.Math.max.name, Cond.initialized "java/lang/Math", Cond.code Lib.Math.max.name Lib.Math.max.code 2 (some .int), Cond.methodLink RX1 21 yX1_rankShift, Cond.static yX1_rankShift]
def wsL_strain_r4 : List Cond := [Cond.code yX1_rankShift cX1_rankShift 1 (some .int), Cond.methodLink RX6 241 yX1_leastKey, Cond.instanceMethod yX1_leastKey, Cond.selects RX1 yX1_leastKey yX1_leastKey, Cond.code yX1_leastKey cX1_leastKey 6 (some .int), Cond.fieldLink RX1 18 "CastDesk$Casting" "leastOfSet" "[I", Cond.methodLink RX1 35 yJ6_bitCount_0f7a4, Cond.static yJ6_bitCount_0f7a4, Cond.initialized RJ6, Cond.code yJ6_bitCount_0f7a4 cJ6_bitCount_0f7a4 1 (some .int), Cond.constant RJ6 265 (1431655765), Cond.constant RJ6 266 (858993459), Cond.constant RJ6 267 (252645135), Cond.methodLink RX1 40 yX1_castPart, Cond.instanceMethod yX1_castPart, Cond.selects RX1 yX1_castPart yX1_castPart, Cond.code yX1_castPart cX1_castPart 9 none, Cond.static yX6_with, Cond.code yX6_with cX6_with 2 (some .int), Cond.methodLink RX6 153 yX1_strainOf, Cond.static yX1_strainOf, Cond.code yX1_strainOf cX1_strainOf 1 (some .int)]
def wsL_strain : List Cond := .codeWith yL_strain cL_strain 4 (some .int) [(0, 9, 12, 13)] :: ((wsL_strain_r1 ++ (wsL_strain_r2 ++ (wsL_strain_r3 ++ wsL_strain_r4))) ++ wsX60 ++ wsX40 ++ wsX10 ++ wsX30 ++ wsX50 ++ (vx_atS RX6 62 "java/lang/IllegalArgumentException" ["java/lang/RuntimeException", "java/lang/Exception"]).filter goodWord)
def wsL_strainByAll_r1 : List Cond := [Cond.classLink RL 13 "java/lang/IllegalArgumentException", Cond.methodLink RL 54 yX6_strainByAll, Cond.instanceMethod yX6_strainByAll, Cond.selects RX6 yX6_strainByAll yX6_strainByAll, Cond.initialized RX6, Cond.code yX6_strainByAll cX6_strainByAll 2 (some .int), Cond.fieldLink RX6 10 "CastDesk" "troupe" "LCastDesk$Troupe;", Cond.fieldLink RX6 139 "CastDesk$Troupe" "ill" "[I", Cond.fieldLink RX6 33 "CastDesk" "casting" "LCastDesk$Casting;", Cond.fieldLink RX6 51 "CastDesk" "partCount" "I", Cond.methodLink RX6 132 yX6_needDay, Cond.static yX6_needDay, Cond.code yX6_needDay cX6_needDay 2 none, Cond.classLink RX6 58 "java/lang/IllegalArgumentException", Cond.initialized "java/lang/IllegalArgumentException", Cond.methodLink RX6 156 yX6_offerActors, Cond.instanceMethod yX6_offerActors, Cond.selects RX6 yX6_offerActors yX6_offerActors, Cond.code yX6_offerActors cX6_offerActors 6 none, Cond.fieldLink RX6 19 "CastDesk" "rows" "LCastDesk$Rows;", Cond.fieldLink RX6 26 "CastDesk" "wardrobe" "LCastDesk$Wardrobe;", Cond.fieldLink RX6 72 "CastDesk$Troupe" "sizes" "[I", Cond.methodLink RX6 234 yX1_clear, Cond.instanceMethod yX1_clear]
def wsL_strainByAll_r2 : List Cond := [Cond.selects RX1 yX1_clear yX1_clear, Cond.initialized RX1, Cond.code yX1_clear cX1_clear 2 none, Cond.fieldLink RX1 11 "CastDesk$Casting" "actors" "[I", Cond.fieldLink RX1 25 "CastDesk$Casting" "setsBound" "I", Cond.methodLink RX6 193 yX3_actorAt, Cond.instanceMethod yX3_actorAt, Cond.selects RX3 yX3_actorAt yX3_actorAt, Cond.initialized RX3, Cond.code yX3_actorAt cX3_actorAt 3 (some .int), Cond.fieldLink RX3 15 "CastDesk$Rows" "lengths" "[I", Cond.fieldLink RX3 9 "CastDesk$Rows" "actors" "[I", Cond.methodLink RX6 146 yX6_isReady, Cond.instanceMethod yX6_isReady, Cond.selects RX6 yX6_isReady yX6_isReady, Cond.code yX6_isReady cX6_isReady 5 (some .boolean), Cond.fieldLink RX6 79 "CastDesk$Troupe" "known" "[I", Cond.methodLink RX6 142 yX6_has, Cond.static yX6_has, Cond.code yX6_has cX6_has 2 (some .boolean), Cond.methodLink RX6 228 yX5_lowestFitting, Cond.instanceMethod yX5_lowestFitting, Cond.selects RX5 yX5_lowestFitting yX5_lowestFitting, Cond.initialized RX5]
def wsL_strainByAll_r3 : List Cond := [Cond.code yX5_lowestFitting cX5_lowestFitting 4 (some .int), Cond.fieldLink RX5 22 "CastDesk$Wardrobe" "count" "I", Cond.fieldLink RX5 15 "CastDesk$Wardrobe" "parts" "[I", Cond.fieldLink RX5 9 "CastDesk$Wardrobe" "sizes" "[I", Cond.methodLink RX6 231 yX5_lowestToLetOut, Cond.instanceMethod yX5_lowestToLetOut, Cond.selects RX5 yX5_lowestToLetOut yX5_lowestToLetOut, Cond.code yX5_lowestToLetOut cX5_lowestToLetOut 4 (some .int), Cond.fieldLink RX5 18 "CastDesk$Wardrobe" "isLetOut" "[Z", Cond.methodLink RX6 237 yX1_offer, Cond.instanceMethod yX1_offer, Cond.selects RX1 yX1_offer yX1_offer, Cond.code yX1_offer cX1_offer 6 none, Cond.fieldLink RX1 15 "CastDesk$Casting" "keys" "[I", Cond.methodLink RX1 29 Lib.Math.max.name, Cond.static Lib.Math.max.name, Cond.initialized "java/lang/Math", Cond.code Lib.Math.max.name Lib.Math.max.code 2 (some .int), Cond.methodLink RX1 21 yX1_rankShift, Cond.static yX1_rankShift, Cond.code yX1_rankShift cX1_rankShift 1 (some .int), Cond.methodLink RX6 159 yX1_leastStrain, Cond.instanceMethod yX1_leastStrain, Cond.selects RX1 yX1_leastStrain yX1_leastStrain]
def wsL_strainByAll_r4 : List Cond := [Cond.code yX1_leastStrain cX1_leastStrain 2 (some .int), Cond.methodLink RX1 51 yX1_leastFrom, Cond.static yX1_leastFrom, Cond.code yX1_leastFrom cX1_leastFrom 8 (some .int), Cond.static yX6_with, Cond.code yX6_with cX6_with 2 (some .int)]
def wsL_strainByAll : List Cond := .codeWith yL_strainByAll cL_strainByAll 4 (some .int) [(0, 9, 12, 13)] :: ((wsL_strainByAll_r1 ++ (wsL_strainByAll_r2 ++ (wsL_strainByAll_r3 ++ wsL_strainByAll_r4))) ++ wsX60 ++ wsX40 ++ wsX10 ++ wsX30 ++ wsX50 ++ (vx_atS RX6 62 "java/lang/IllegalArgumentException" ["java/lang/RuntimeException", "java/lang/Exception"]).filter goodWord)
def wsL_work_r1 : List Cond := [Cond.classLink RL 13 "java/lang/IllegalArgumentException", Cond.methodLink RL 57 yX6_work, Cond.instanceMethod yX6_work, Cond.selects RX6 yX6_work yX6_work, Cond.initialized RX6, Cond.code yX6_work cX6_work 3 (some .int), Cond.fieldLink RX6 10 "CastDesk" "troupe" "LCastDesk$Troupe;", Cond.fieldLink RX6 139 "CastDesk$Troupe" "ill" "[I", Cond.methodLink RX6 132 yX6_needDay, Cond.static yX6_needDay, Cond.code yX6_needDay cX6_needDay 2 none, Cond.classLink RX6 58 "java/lang/IllegalArgumentException", Cond.initialized "java/lang/IllegalArgumentException", Cond.methodLink RX6 150 yX6_bestCast, Cond.instanceMethod yX6_bestCast, Cond.selects RX6 yX6_bestCast yX6_bestCast, Cond.code yX6_bestCast cX6_bestCast 2 (some .int), Cond.fieldLink RX6 33 "CastDesk" "casting" "LCastDesk$Casting;", Cond.fieldLink RX6 51 "CastDesk" "partCount" "I", Cond.methodLink RX6 156 yX6_offerActors, Cond.instanceMethod yX6_offerActors, Cond.selects RX6 yX6_offerActors yX6_offerActors, Cond.code yX6_offerActors cX6_offerActors 6 none, Cond.fieldLink RX6 19 "CastDesk" "rows" "LCastDesk$Rows;"]
def wsL_work_r2 : List Cond := [Cond.fieldLink RX6 26 "CastDesk" "wardrobe" "LCastDesk$Wardrobe;", Cond.fieldLink RX6 72 "CastDesk$Troupe" "sizes" "[I", Cond.methodLink RX6 234 yX1_clear, Cond.instanceMethod yX1_clear, Cond.selects RX1 yX1_clear yX1_clear, Cond.initialized RX1, Cond.code yX1_clear cX1_clear 2 none, Cond.fieldLink RX1 11 "CastDesk$Casting" "actors" "[I", Cond.fieldLink RX1 25 "CastDesk$Casting" "setsBound" "I", Cond.methodLink RX6 193 yX3_actorAt, Cond.instanceMethod yX3_actorAt, Cond.selects RX3 yX3_actorAt yX3_actorAt, Cond.initialized RX3, Cond.code yX3_actorAt cX3_actorAt 3 (some .int), Cond.fieldLink RX3 15 "CastDesk$Rows" "lengths" "[I", Cond.fieldLink RX3 9 "CastDesk$Rows" "actors" "[I", Cond.methodLink RX6 146 yX6_isReady, Cond.instanceMethod yX6_isReady, Cond.selects RX6 yX6_isReady yX6_isReady, Cond.code yX6_isReady cX6_isReady 5 (some .boolean), Cond.fieldLink RX6 79 "CastDesk$Troupe" "known" "[I", Cond.methodLink RX6 142 yX6_has, Cond.static yX6_has, Cond.code yX6_has cX6_has 2 (some .boolean)]
def wsL_work_r3 : List Cond := [Cond.methodLink RX6 228 yX5_lowestFitting, Cond.instanceMethod yX5_lowestFitting, Cond.selects RX5 yX5_lowestFitting yX5_lowestFitting, Cond.initialized RX5, Cond.code yX5_lowestFitting cX5_lowestFitting 4 (some .int), Cond.fieldLink RX5 22 "CastDesk$Wardrobe" "count" "I", Cond.fieldLink RX5 15 "CastDesk$Wardrobe" "parts" "[I", Cond.fieldLink RX5 9 "CastDesk$Wardrobe" "sizes" "[I", Cond.methodLink RX6 231 yX5_lowestToLetOut, Cond.instanceMethod yX5_lowestToLetOut, Cond.selects RX5 yX5_lowestToLetOut yX5_lowestToLetOut, Cond.code yX5_lowestToLetOut cX5_lowestToLetOut 4 (some .int), Cond.fieldLink RX5 18 "CastDesk$Wardrobe" "isLetOut" "[Z", Cond.methodLink RX6 237 yX1_offer, Cond.instanceMethod yX1_offer, Cond.selects RX1 yX1_offer yX1_offer, Cond.code yX1_offer cX1_offer 6 none, Cond.fieldLink RX1 15 "CastDesk$Casting" "keys" "[I", Cond.methodLink RX1 29 Lib.Math.max.name, Cond.static Lib.Math.max.name, Cond.initialized "java/lang/Math", Cond.code Lib.Math.max.name Lib.Math.max.code 2 (some .int), Cond.methodLink RX1 21 yX1_rankShift, Cond.static yX1_rankShift]
def wsL_work_r4 : List Cond := [Cond.code yX1_rankShift cX1_rankShift 1 (some .int), Cond.methodLink RX6 241 yX1_leastKey, Cond.instanceMethod yX1_leastKey, Cond.selects RX1 yX1_leastKey yX1_leastKey, Cond.code yX1_leastKey cX1_leastKey 6 (some .int), Cond.fieldLink RX1 18 "CastDesk$Casting" "leastOfSet" "[I", Cond.methodLink RX1 35 yJ6_bitCount_0f7a4, Cond.static yJ6_bitCount_0f7a4, Cond.initialized RJ6, Cond.code yJ6_bitCount_0f7a4 cJ6_bitCount_0f7a4 1 (some .int), Cond.constant RJ6 265 (1431655765), Cond.constant RJ6 266 (858993459), Cond.constant RJ6 267 (252645135), Cond.methodLink RX1 40 yX1_castPart, Cond.instanceMethod yX1_castPart, Cond.selects RX1 yX1_castPart yX1_castPart, Cond.code yX1_castPart cX1_castPart 9 none, Cond.static yX6_with, Cond.code yX6_with cX6_with 2 (some .int), Cond.methodLink RX6 162 yX1_workOf, Cond.static yX1_workOf, Cond.code yX1_workOf cX1_workOf 1 (some .int)]
def wsL_work : List Cond := .codeWith yL_work cL_work 4 (some .int) [(0, 9, 12, 13)] :: ((wsL_work_r1 ++ (wsL_work_r2 ++ (wsL_work_r3 ++ wsL_work_r4))) ++ wsX60 ++ wsX40 ++ wsX10 ++ wsX30 ++ wsX50 ++ (vx_atS RX6 62 "java/lang/IllegalArgumentException" ["java/lang/RuntimeException", "java/lang/Exception"]).filter goodWord)
def wsL_actorFor_r1 : List Cond := [Cond.classLink RL 19 "java/lang/IndexOutOfBoundsException", Cond.classLink RL 13 "java/lang/IllegalArgumentException", Cond.methodLink RL 60 yX6_actorFor, Cond.instanceMethod yX6_actorFor, Cond.selects RX6 yX6_actorFor yX6_actorFor, Cond.initialized RX6, Cond.code yX6_actorFor cX6_actorFor 4 (some .int), Cond.fieldLink RX6 10 "CastDesk" "troupe" "LCastDesk$Troupe;", Cond.fieldLink RX6 139 "CastDesk$Troupe" "ill" "[I", Cond.fieldLink RX6 51 "CastDesk" "partCount" "I", Cond.methodLink RX6 76 yX6_needPart, Cond.static yX6_needPart, Cond.code yX6_needPart cX6_needPart 1 none, Cond.classLink RX6 215 "java/lang/IndexOutOfBoundsException", Cond.initialized "java/lang/IndexOutOfBoundsException", Cond.methodLink RX6 132 yX6_needDay, Cond.static yX6_needDay, Cond.code yX6_needDay cX6_needDay 2 none, Cond.classLink RX6 58 "java/lang/IllegalArgumentException", Cond.initialized "java/lang/IllegalArgumentException", Cond.methodLink RX6 150 yX6_bestCast, Cond.instanceMethod yX6_bestCast, Cond.selects RX6 yX6_bestCast yX6_bestCast, Cond.code yX6_bestCast cX6_bestCast 2 (some .int)]
def wsL_actorFor_r2 : List Cond := [Cond.fieldLink RX6 33 "CastDesk" "casting" "LCastDesk$Casting;", Cond.methodLink RX6 156 yX6_offerActors, Cond.instanceMethod yX6_offerActors, Cond.selects RX6 yX6_offerActors yX6_offerActors, Cond.code yX6_offerActors cX6_offerActors 6 none, Cond.fieldLink RX6 19 "CastDesk" "rows" "LCastDesk$Rows;", Cond.fieldLink RX6 26 "CastDesk" "wardrobe" "LCastDesk$Wardrobe;", Cond.fieldLink RX6 72 "CastDesk$Troupe" "sizes" "[I", Cond.methodLink RX6 234 yX1_clear, Cond.instanceMethod yX1_clear, Cond.selects RX1 yX1_clear yX1_clear, Cond.initialized RX1, Cond.code yX1_clear cX1_clear 2 none, Cond.fieldLink RX1 11 "CastDesk$Casting" "actors" "[I", Cond.fieldLink RX1 25 "CastDesk$Casting" "setsBound" "I", Cond.methodLink RX6 193 yX3_actorAt, Cond.instanceMethod yX3_actorAt, Cond.selects RX3 yX3_actorAt yX3_actorAt, Cond.initialized RX3, Cond.code yX3_actorAt cX3_actorAt 3 (some .int), Cond.fieldLink RX3 15 "CastDesk$Rows" "lengths" "[I", Cond.fieldLink RX3 9 "CastDesk$Rows" "actors" "[I", Cond.methodLink RX6 146 yX6_isReady, Cond.instanceMethod yX6_isReady]
def wsL_actorFor_r3 : List Cond := [Cond.selects RX6 yX6_isReady yX6_isReady, Cond.code yX6_isReady cX6_isReady 5 (some .boolean), Cond.fieldLink RX6 79 "CastDesk$Troupe" "known" "[I", Cond.methodLink RX6 142 yX6_has, Cond.static yX6_has, Cond.code yX6_has cX6_has 2 (some .boolean), Cond.methodLink RX6 228 yX5_lowestFitting, Cond.instanceMethod yX5_lowestFitting, Cond.selects RX5 yX5_lowestFitting yX5_lowestFitting, Cond.initialized RX5, Cond.code yX5_lowestFitting cX5_lowestFitting 4 (some .int), Cond.fieldLink RX5 22 "CastDesk$Wardrobe" "count" "I", Cond.fieldLink RX5 15 "CastDesk$Wardrobe" "parts" "[I", Cond.fieldLink RX5 9 "CastDesk$Wardrobe" "sizes" "[I", Cond.methodLink RX6 231 yX5_lowestToLetOut, Cond.instanceMethod yX5_lowestToLetOut, Cond.selects RX5 yX5_lowestToLetOut yX5_lowestToLetOut, Cond.code yX5_lowestToLetOut cX5_lowestToLetOut 4 (some .int), Cond.fieldLink RX5 18 "CastDesk$Wardrobe" "isLetOut" "[Z", Cond.methodLink RX6 237 yX1_offer, Cond.instanceMethod yX1_offer, Cond.selects RX1 yX1_offer yX1_offer, Cond.code yX1_offer cX1_offer 6 none, Cond.fieldLink RX1 15 "CastDesk$Casting" "keys" "[I"]
def wsL_actorFor_r4 : List Cond := [Cond.methodLink RX1 29 Lib.Math.max.name, Cond.static Lib.Math.max.name, Cond.initialized "java/lang/Math", Cond.code Lib.Math.max.name Lib.Math.max.code 2 (some .int), Cond.methodLink RX1 21 yX1_rankShift, Cond.static yX1_rankShift, Cond.code yX1_rankShift cX1_rankShift 1 (some .int), Cond.methodLink RX6 241 yX1_leastKey, Cond.instanceMethod yX1_leastKey, Cond.selects RX1 yX1_leastKey yX1_leastKey, Cond.code yX1_leastKey cX1_leastKey 6 (some .int), Cond.fieldLink RX1 18 "CastDesk$Casting" "leastOfSet" "[I", Cond.methodLink RX1 35 yJ6_bitCount_0f7a4, Cond.static yJ6_bitCount_0f7a4, Cond.initialized RJ6, Cond.code yJ6_bitCount_0f7a4 cJ6_bitCount_0f7a4 1 (some .int), Cond.constant RJ6 265 (1431655765), Cond.constant RJ6 266 (858993459), Cond.constant RJ6 267 (252645135), Cond.methodLink RX1 40 yX1_castPart, Cond.instanceMethod yX1_castPart, Cond.selects RX1 yX1_castPart yX1_castPart, Cond.code yX1_castPart cX1_castPart 9 none, Cond.static yX6_with]
def wsL_actorFor_r5 : List Cond := [Cond.code yX6_with cX6_with 2 (some .int), Cond.methodLink RX6 165 yX6_actorIn, Cond.instanceMethod yX6_actorIn, Cond.selects RX6 yX6_actorIn yX6_actorIn, Cond.code yX6_actorIn cX6_actorIn 3 (some .int), Cond.methodLink RX6 244 yX1_rankOf, Cond.static yX1_rankOf, Cond.code yX1_rankOf cX1_rankOf 2 (some .int)]
def wsL_actorFor : List Cond := .codeWith yL_actorFor cL_actorFor 5 (some .int) [(0, 10, 13, 19), (0, 10, 17, 13)] :: ((wsL_actorFor_r1 ++ (wsL_actorFor_r2 ++ (wsL_actorFor_r3 ++ (wsL_actorFor_r4 ++ wsL_actorFor_r5)))) ++ wsX60 ++ wsX40 ++ wsX10 ++ wsX30 ++ wsX50 ++ (vx_atS RX6 219 "java/lang/IndexOutOfBoundsException" ["java/lang/RuntimeException", "java/lang/Exception"]).filter goodWord ++ (vx_atS RX6 62 "java/lang/IllegalArgumentException" ["java/lang/RuntimeException", "java/lang/Exception"]).filter goodWord)
def wsL_chain_r1 : List Cond := [Cond.classLink RL 19 "java/lang/IndexOutOfBoundsException", Cond.classLink RL 13 "java/lang/IllegalArgumentException", Cond.methodLink RL 63 yX6_chain, Cond.instanceMethod yX6_chain, Cond.selects RX6 yX6_chain yX6_chain, Cond.initialized RX6, Cond.code yX6_chain cX6_chain 5 (some .int), Cond.fieldLink RX6 10 "CastDesk" "troupe" "LCastDesk$Troupe;", Cond.fieldLink RX6 139 "CastDesk$Troupe" "ill" "[I", Cond.methodLink RX6 65 yX6_needActor, Cond.static yX6_needActor, Cond.code yX6_needActor cX6_needActor 1 none, Cond.classLink RX6 215 "java/lang/IndexOutOfBoundsException", Cond.initialized "java/lang/IndexOutOfBoundsException", Cond.methodLink RX6 132 yX6_needDay, Cond.static yX6_needDay, Cond.code yX6_needDay cX6_needDay 2 none, Cond.classLink RX6 58 "java/lang/IllegalArgumentException", Cond.initialized "java/lang/IllegalArgumentException", Cond.methodLink RX6 150 yX6_bestCast, Cond.instanceMethod yX6_bestCast, Cond.selects RX6 yX6_bestCast yX6_bestCast, Cond.code yX6_bestCast cX6_bestCast 2 (some .int), Cond.fieldLink RX6 33 "CastDesk" "casting" "LCastDesk$Casting;"]
def wsL_chain_r2 : List Cond := [Cond.fieldLink RX6 51 "CastDesk" "partCount" "I", Cond.methodLink RX6 156 yX6_offerActors, Cond.instanceMethod yX6_offerActors, Cond.selects RX6 yX6_offerActors yX6_offerActors, Cond.code yX6_offerActors cX6_offerActors 6 none, Cond.fieldLink RX6 19 "CastDesk" "rows" "LCastDesk$Rows;", Cond.fieldLink RX6 26 "CastDesk" "wardrobe" "LCastDesk$Wardrobe;", Cond.fieldLink RX6 72 "CastDesk$Troupe" "sizes" "[I", Cond.methodLink RX6 234 yX1_clear, Cond.instanceMethod yX1_clear, Cond.selects RX1 yX1_clear yX1_clear, Cond.initialized RX1, Cond.code yX1_clear cX1_clear 2 none, Cond.fieldLink RX1 11 "CastDesk$Casting" "actors" "[I", Cond.fieldLink RX1 25 "CastDesk$Casting" "setsBound" "I", Cond.methodLink RX6 193 yX3_actorAt, Cond.instanceMethod yX3_actorAt, Cond.selects RX3 yX3_actorAt yX3_actorAt, Cond.initialized RX3, Cond.code yX3_actorAt cX3_actorAt 3 (some .int), Cond.fieldLink RX3 15 "CastDesk$Rows" "lengths" "[I", Cond.fieldLink RX3 9 "CastDesk$Rows" "actors" "[I", Cond.methodLink RX6 146 yX6_isReady, Cond.instanceMethod yX6_isReady]
def wsL_chain_r3 : List Cond := [Cond.selects RX6 yX6_isReady yX6_isReady, Cond.code yX6_isReady cX6_isReady 5 (some .boolean), Cond.fieldLink RX6 79 "CastDesk$Troupe" "known" "[I", Cond.methodLink RX6 142 yX6_has, Cond.static yX6_has, Cond.code yX6_has cX6_has 2 (some .boolean), Cond.methodLink RX6 228 yX5_lowestFitting, Cond.instanceMethod yX5_lowestFitting, Cond.selects RX5 yX5_lowestFitting yX5_lowestFitting, Cond.initialized RX5, Cond.code yX5_lowestFitting cX5_lowestFitting 4 (some .int), Cond.fieldLink RX5 22 "CastDesk$Wardrobe" "count" "I", Cond.fieldLink RX5 15 "CastDesk$Wardrobe" "parts" "[I", Cond.fieldLink RX5 9 "CastDesk$Wardrobe" "sizes" "[I", Cond.methodLink RX6 231 yX5_lowestToLetOut, Cond.instanceMethod yX5_lowestToLetOut, Cond.selects RX5 yX5_lowestToLetOut yX5_lowestToLetOut, Cond.code yX5_lowestToLetOut cX5_lowestToLetOut 4 (some .int), Cond.fieldLink RX5 18 "CastDesk$Wardrobe" "isLetOut" "[Z", Cond.methodLink RX6 237 yX1_offer, Cond.instanceMethod yX1_offer, Cond.selects RX1 yX1_offer yX1_offer, Cond.code yX1_offer cX1_offer 6 none, Cond.fieldLink RX1 15 "CastDesk$Casting" "keys" "[I"]
def wsL_chain_r4 : List Cond := [Cond.methodLink RX1 29 Lib.Math.max.name, Cond.static Lib.Math.max.name, Cond.initialized "java/lang/Math", Cond.code Lib.Math.max.name Lib.Math.max.code 2 (some .int), Cond.methodLink RX1 21 yX1_rankShift, Cond.static yX1_rankShift, Cond.code yX1_rankShift cX1_rankShift 1 (some .int), Cond.methodLink RX6 241 yX1_leastKey, Cond.instanceMethod yX1_leastKey, Cond.selects RX1 yX1_leastKey yX1_leastKey, Cond.code yX1_leastKey cX1_leastKey 6 (some .int), Cond.fieldLink RX1 18 "CastDesk$Casting" "leastOfSet" "[I", Cond.methodLink RX1 35 yJ6_bitCount_0f7a4, Cond.static yJ6_bitCount_0f7a4, Cond.initialized RJ6, Cond.code yJ6_bitCount_0f7a4 cJ6_bitCount_0f7a4 1 (some .int), Cond.constant RJ6 265 (1431655765), Cond.constant RJ6 266 (858993459), Cond.constant RJ6 267 (252645135), Cond.methodLink RX1 40 yX1_castPart, Cond.instanceMethod yX1_castPart, Cond.selects RX1 yX1_castPart yX1_castPart, Cond.code yX1_castPart cX1_castPart 9 none, Cond.static yX6_with]
def wsL_chain_r5 : List Cond := [Cond.code yX6_with cX6_with 2 (some .int), Cond.methodLink RX6 82 yX6_with, Cond.methodLink RX6 168 yX6_countOthers, Cond.instanceMethod yX6_countOthers, Cond.selects RX6 yX6_countOthers yX6_countOthers, Cond.code yX6_countOthers cX6_countOthers 5 (some .int), Cond.methodLink RX6 165 yX6_actorIn, Cond.instanceMethod yX6_actorIn, Cond.selects RX6 yX6_actorIn yX6_actorIn, Cond.code yX6_actorIn cX6_actorIn 3 (some .int), Cond.methodLink RX6 244 yX1_rankOf, Cond.static yX1_rankOf, Cond.code yX1_rankOf cX1_rankOf 2 (some .int)]
def wsL_chain : List Cond := .codeWith yL_chain cL_chain 5 (some .int) [(0, 10, 13, 19), (0, 10, 17, 13)] :: ((wsL_chain_r1 ++ (wsL_chain_r2 ++ (wsL_chain_r3 ++ (wsL_chain_r4 ++ wsL_chain_r5)))) ++ wsX60 ++ wsX40 ++ wsX10 ++ wsX30 ++ wsX50 ++ (vx_atS RX6 219 "java/lang/IndexOutOfBoundsException" ["java/lang/RuntimeException", "java/lang/Exception"]).filter goodWord ++ (vx_atS RX6 62 "java/lang/IllegalArgumentException" ["java/lang/RuntimeException", "java/lang/Exception"]).filter goodWord)
def wsL_show_r1 : List Cond := [Cond.classLink RL 13 "java/lang/IllegalArgumentException", Cond.classLink RL 25 "java/lang/IllegalStateException", Cond.methodLink RL 66 yX6_show, Cond.instanceMethod yX6_show, Cond.selects RX6 yX6_show yX6_show, Cond.initialized RX6, Cond.code yX6_show cX6_show 2 (some .int), Cond.classLink RX6 95 "java/lang/IllegalStateException", Cond.initialized "java/lang/IllegalStateException", Cond.fieldLink RX6 55 "CastDesk" "today" "I", Cond.fieldLink RX6 40 "CastDesk" "programme" "LCastDesk$Programme;", Cond.fieldLink RX6 176 "CastDesk$Programme" "count" "I", Cond.methodLink RX6 132 yX6_needDay, Cond.static yX6_needDay, Cond.code yX6_needDay cX6_needDay 2 none, Cond.classLink RX6 58 "java/lang/IllegalArgumentException", Cond.initialized "java/lang/IllegalArgumentException", Cond.methodLink RX6 171 yX2_showOn, Cond.instanceMethod yX2_showOn, Cond.selects RX2 yX2_showOn yX2_showOn, Cond.initialized RX2, Cond.code yX2_showOn cX2_showOn 3 (some .int), Cond.fieldLink RX2 21 "CastDesk$Programme" "count" "I", Cond.fieldLink RX2 18 "CastDesk$Programme" "days" "[I"]
def wsL_show_r2 : List Cond := [Cond.methodLink RX6 179 yX2_add, Cond.instanceMethod yX2_add, Cond.selects RX2 yX2_add yX2_add, Cond.code yX2_add cX2_add 2 (some .int), Cond.fieldLink RX2 9 "CastDesk$Programme" "states" "[I"]
def wsL_show : List Cond := .codeWith yL_show cL_show 4 (some .int) [(0, 9, 12, 13), (0, 9, 15, 25)] :: ((wsL_show_r1 ++ wsL_show_r2) ++ wsX60 ++ wsX20 ++ (vx_atS RX6 99 "java/lang/IllegalStateException" ["java/lang/RuntimeException", "java/lang/Exception"]).filter goodWord ++ (vx_atS RX6 62 "java/lang/IllegalArgumentException" ["java/lang/RuntimeException", "java/lang/Exception"]).filter goodWord)
def wsL_sell_r1 : List Cond := [Cond.classLink RL 19 "java/lang/IndexOutOfBoundsException", Cond.classLink RL 13 "java/lang/IllegalArgumentException", Cond.classLink RL 25 "java/lang/IllegalStateException", Cond.methodLink RL 69 yX6_sell, Cond.instanceMethod yX6_sell, Cond.selects RX6 yX6_sell yX6_sell, Cond.initialized RX6, Cond.code yX6_sell cX6_sell 6 (some .int), Cond.classLink RX6 58 "java/lang/IllegalArgumentException", Cond.initialized "java/lang/IllegalArgumentException", Cond.classLink RX6 95 "java/lang/IllegalStateException", Cond.initialized "java/lang/IllegalStateException", Cond.fieldLink RX6 40 "CastDesk" "programme" "LCastDesk$Programme;", Cond.fieldLink RX6 176 "CastDesk$Programme" "count" "I", Cond.fieldLink RX6 185 "CastDesk$Programme" "states" "[I", Cond.fieldLink RX6 47 "CastDesk" "office" "LCastDesk$BoxOffice;", Cond.fieldLink RX6 190 "CastDesk$BoxOffice" "count" "I", Cond.fieldLink RX6 19 "CastDesk" "rows" "LCastDesk$Rows;", Cond.methodLink RX6 128 yX6_needOneOf, Cond.static yX6_needOneOf, Cond.code yX6_needOneOf cX6_needOneOf 2 none, Cond.classLink RX6 215 "java/lang/IndexOutOfBoundsException", Cond.initialized "java/lang/IndexOutOfBoundsException", Cond.methodLink RX6 76 yX6_needPart]
def wsL_sell_r2 : List Cond := [Cond.static yX6_needPart, Cond.code yX6_needPart cX6_needPart 1 none, Cond.methodLink RX6 193 yX3_actorAt, Cond.instanceMethod yX3_actorAt, Cond.selects RX3 yX3_actorAt yX3_actorAt, Cond.initialized RX3, Cond.code yX3_actorAt cX3_actorAt 3 (some .int), Cond.fieldLink RX3 15 "CastDesk$Rows" "lengths" "[I", Cond.fieldLink RX3 9 "CastDesk$Rows" "actors" "[I", Cond.methodLink RX6 198 yX0_add, Cond.instanceMethod yX0_add, Cond.selects RX0 yX0_add yX0_add, Cond.initialized RX0, Cond.code yX0_add cX0_add 6 (some .int), Cond.fieldLink RX0 9 "CastDesk$BoxOffice" "shows" "[I", Cond.fieldLink RX0 30 "CastDesk$BoxOffice" "count" "I", Cond.fieldLink RX0 27 "CastDesk$BoxOffice" "prices" "[I", Cond.fieldLink RX0 15 "CastDesk$BoxOffice" "promises" "[I", Cond.fieldLink RX0 18 "CastDesk$BoxOffice" "parts" "[I", Cond.fieldLink RX0 21 "CastDesk$BoxOffice" "stars" "[I", Cond.fieldLink RX0 34 "CastDesk$BoxOffice" "money" "I"]
def wsL_sell : List Cond := .codeWith yL_sell cL_sell 7 (some .int) [(0, 14, 17, 19), (0, 14, 21, 13), (0, 14, 25, 25)] :: ((wsL_sell_r1 ++ wsL_sell_r2) ++ wsX60 ++ wsX20 ++ wsX00 ++ wsX30 ++ (vx_atS RX6 62 "java/lang/IllegalArgumentException" ["java/lang/RuntimeException", "java/lang/Exception"]).filter goodWord ++ (vx_atS RX6 99 "java/lang/IllegalStateException" ["java/lang/RuntimeException", "java/lang/Exception"]).filter goodWord ++ (vx_atS RX6 219 "java/lang/IndexOutOfBoundsException" ["java/lang/RuntimeException", "java/lang/Exception"]).filter goodWord)
def wsL_play_r1 : List Cond := [Cond.classLink RL 25 "java/lang/IllegalStateException", Cond.methodLink RL 73 yX6_play, Cond.instanceMethod yX6_play, Cond.selects RX6 yX6_play yX6_play, Cond.initialized RX6, Cond.code yX6_play cX6_play 3 (some .int), Cond.classLink RX6 95 "java/lang/IllegalStateException", Cond.initialized "java/lang/IllegalStateException", Cond.fieldLink RX6 55 "CastDesk" "today" "I", Cond.fieldLink RX6 40 "CastDesk" "programme" "LCastDesk$Programme;", Cond.methodLink RX6 171 yX2_showOn, Cond.instanceMethod yX2_showOn, Cond.selects RX2 yX2_showOn yX2_showOn, Cond.initialized RX2, Cond.code yX2_showOn cX2_showOn 3 (some .int), Cond.fieldLink RX2 21 "CastDesk$Programme" "count" "I", Cond.fieldLink RX2 18 "CastDesk$Programme" "days" "[I", Cond.methodLink RX6 203 yX6_perform, Cond.instanceMethod yX6_perform, Cond.selects RX6 yX6_perform yX6_perform, Cond.code yX6_perform cX6_perform 5 (some .int), Cond.fieldLink RX6 10 "CastDesk" "troupe" "LCastDesk$Troupe;", Cond.fieldLink RX6 139 "CastDesk$Troupe" "ill" "[I", Cond.fieldLink RX6 185 "CastDesk$Programme" "states" "[I"]
def wsL_play_r2 : List Cond := [Cond.fieldLink RX6 51 "CastDesk" "partCount" "I", Cond.fieldLink RX6 206 "CastDesk$Programme" "casts" "[I", Cond.methodLink RX6 150 yX6_bestCast, Cond.instanceMethod yX6_bestCast, Cond.selects RX6 yX6_bestCast yX6_bestCast, Cond.code yX6_bestCast cX6_bestCast 2 (some .int), Cond.fieldLink RX6 33 "CastDesk" "casting" "LCastDesk$Casting;", Cond.methodLink RX6 156 yX6_offerActors, Cond.instanceMethod yX6_offerActors, Cond.selects RX6 yX6_offerActors yX6_offerActors, Cond.code yX6_offerActors cX6_offerActors 6 none, Cond.fieldLink RX6 19 "CastDesk" "rows" "LCastDesk$Rows;", Cond.fieldLink RX6 26 "CastDesk" "wardrobe" "LCastDesk$Wardrobe;", Cond.fieldLink RX6 72 "CastDesk$Troupe" "sizes" "[I", Cond.methodLink RX6 234 yX1_clear, Cond.instanceMethod yX1_clear, Cond.selects RX1 yX1_clear yX1_clear, Cond.initialized RX1, Cond.code yX1_clear cX1_clear 2 none, Cond.fieldLink RX1 11 "CastDesk$Casting" "actors" "[I", Cond.fieldLink RX1 25 "CastDesk$Casting" "setsBound" "I", Cond.methodLink RX6 193 yX3_actorAt, Cond.instanceMethod yX3_actorAt, Cond.selects RX3 yX3_actorAt yX3_actorAt]
def wsL_play_r3 : List Cond := [Cond.initialized RX3, Cond.code yX3_actorAt cX3_actorAt 3 (some .int), Cond.fieldLink RX3 15 "CastDesk$Rows" "lengths" "[I", Cond.fieldLink RX3 9 "CastDesk$Rows" "actors" "[I", Cond.methodLink RX6 146 yX6_isReady, Cond.instanceMethod yX6_isReady, Cond.selects RX6 yX6_isReady yX6_isReady, Cond.code yX6_isReady cX6_isReady 5 (some .boolean), Cond.fieldLink RX6 79 "CastDesk$Troupe" "known" "[I", Cond.methodLink RX6 142 yX6_has, Cond.static yX6_has, Cond.code yX6_has cX6_has 2 (some .boolean), Cond.methodLink RX6 228 yX5_lowestFitting, Cond.instanceMethod yX5_lowestFitting, Cond.selects RX5 yX5_lowestFitting yX5_lowestFitting, Cond.initialized RX5, Cond.code yX5_lowestFitting cX5_lowestFitting 4 (some .int), Cond.fieldLink RX5 22 "CastDesk$Wardrobe" "count" "I", Cond.fieldLink RX5 15 "CastDesk$Wardrobe" "parts" "[I", Cond.fieldLink RX5 9 "CastDesk$Wardrobe" "sizes" "[I", Cond.methodLink RX6 231 yX5_lowestToLetOut, Cond.instanceMethod yX5_lowestToLetOut, Cond.selects RX5 yX5_lowestToLetOut yX5_lowestToLetOut, Cond.code yX5_lowestToLetOut cX5_lowestToLetOut 4 (some .int)]
def wsL_play_r4 : List Cond := [Cond.fieldLink RX5 18 "CastDesk$Wardrobe" "isLetOut" "[Z", Cond.methodLink RX6 237 yX1_offer, Cond.instanceMethod yX1_offer, Cond.selects RX1 yX1_offer yX1_offer, Cond.code yX1_offer cX1_offer 6 none, Cond.fieldLink RX1 15 "CastDesk$Casting" "keys" "[I", Cond.methodLink RX1 29 Lib.Math.max.name, Cond.static Lib.Math.max.name, Cond.initialized "java/lang/Math", Cond.code Lib.Math.max.name Lib.Math.max.code 2 (some .int), Cond.methodLink RX1 21 yX1_rankShift, Cond.static yX1_rankShift, Cond.code yX1_rankShift cX1_rankShift 1 (some .int), Cond.methodLink RX6 241 yX1_leastKey, Cond.instanceMethod yX1_leastKey, Cond.selects RX1 yX1_leastKey yX1_leastKey, Cond.code yX1_leastKey cX1_leastKey 6 (some .int), Cond.fieldLink RX1 18 "CastDesk$Casting" "leastOfSet" "[I", Cond.methodLink RX1 35 yJ6_bitCount_0f7a4, Cond.static yJ6_bitCount_0f7a4, Cond.initialized RJ6, Cond.code yJ6_bitCount_0f7a4 cJ6_bitCount_0f7a4 1 (some .int), Cond.constant RJ6 265 (1431655765), Cond.constant RJ6 266 (858993459)]
def wsL_play_r5 : List Cond := [Cond.constant RJ6 267 (252645135), Cond.methodLink RX1 40 yX1_castPart, Cond.instanceMethod yX1_castPart, Cond.selects RX1 yX1_castPart yX1_castPart, Cond.code yX1_castPart cX1_castPart 9 none, Cond.static yX6_with, Cond.code yX6_with cX6_with 2 (some .int), Cond.methodLink RX6 165 yX6_actorIn, Cond.instanceMethod yX6_actorIn, Cond.selects RX6 yX6_actorIn yX6_actorIn, Cond.code yX6_actorIn cX6_actorIn 3 (some .int), Cond.methodLink RX6 244 yX1_rankOf, Cond.static yX1_rankOf, Cond.code yX1_rankOf cX1_rankOf 2 (some .int), Cond.methodLink RX6 247 yX6_dress, Cond.instanceMethod yX6_dress, Cond.selects RX6 yX6_dress yX6_dress, Cond.code yX6_dress cX6_dress 4 none, Cond.methodLink RX6 253 yX5_letOut, Cond.instanceMethod yX5_letOut, Cond.selects RX5 yX5_letOut yX5_letOut, Cond.code yX5_letOut cX5_letOut 2 none, Cond.methodLink RX6 250 yX6_refundSeats, Cond.instanceMethod yX6_refundSeats]
def wsL_play_r6 : List Cond := [Cond.selects RX6 yX6_refundSeats yX6_refundSeats, Cond.code yX6_refundSeats cX6_refundSeats 6 (some .int), Cond.fieldLink RX6 47 "CastDesk" "office" "LCastDesk$BoxOffice;", Cond.fieldLink RX6 190 "CastDesk$BoxOffice" "count" "I", Cond.fieldLink RX6 256 "CastDesk$BoxOffice" "shows" "[I", Cond.methodLink RX6 259 yX6_shareBack, Cond.instanceMethod yX6_shareBack, Cond.selects RX6 yX6_shareBack yX6_shareBack, Cond.code yX6_shareBack cX6_shareBack 5 (some .int), Cond.fieldLink RX6 265 "CastDesk$BoxOffice" "parts" "[I", Cond.fieldLink RX6 268 "CastDesk$BoxOffice" "promises" "[I", Cond.fieldLink RX6 271 "CastDesk$BoxOffice" "stars" "[I", Cond.methodLink RX6 153 yX1_strainOf, Cond.static yX1_strainOf, Cond.code yX1_strainOf cX1_strainOf 1 (some .int), Cond.methodLink RX6 262 yX0_giveBack, Cond.instanceMethod yX0_giveBack, Cond.selects RX0 yX0_giveBack yX0_giveBack, Cond.initialized RX0, Cond.code yX0_giveBack cX0_giveBack 4 (some .int), Cond.fieldLink RX0 27 "CastDesk$BoxOffice" "prices" "[I", Cond.fieldLink RX0 24 "CastDesk$BoxOffice" "refunds" "[I", Cond.fieldLink RX0 34 "CastDesk$BoxOffice" "money" "I"]
def wsL_play : List Cond := .codeWith yL_play cL_play 3 (some .int) [(0, 8, 11, 25)] :: ((wsL_play_r1 ++ (wsL_play_r2 ++ (wsL_play_r3 ++ (wsL_play_r4 ++ (wsL_play_r5 ++ wsL_play_r6))))) ++ wsX60 ++ wsX20 ++ wsX40 ++ wsX10 ++ wsX30 ++ wsX50 ++ wsX00 ++ (vx_atS RX6 99 "java/lang/IllegalStateException" ["java/lang/RuntimeException", "java/lang/Exception"]).filter goodWord)
def wsL_stateOf : List Cond := .codeWith yL_stateOf cL_stateOf 4 (some .int) [(0, 9, 12, 19)] :: ([.classLink RL 19 "java/lang/IndexOutOfBoundsException", .methodLink RL 77 yX6_stateOf, .instanceMethod yX6_stateOf, .selects RX6 yX6_stateOf yX6_stateOf, .initialized RX6, .code yX6_stateOf cX6_stateOf 2 (some .int), .fieldLink RX6 40 "CastDesk" "programme" "LCastDesk$Programme;", .fieldLink RX6 176 "CastDesk$Programme" "count" "I", .fieldLink RX6 185 "CastDesk$Programme" "states" "[I", .methodLink RX6 128 yX6_needOneOf, .static yX6_needOneOf, .code yX6_needOneOf cX6_needOneOf 2 none, .classLink RX6 215 "java/lang/IndexOutOfBoundsException", .initialized "java/lang/IndexOutOfBoundsException"] ++ wsX60 ++ wsX20 ++ (vx_atS RX6 219 "java/lang/IndexOutOfBoundsException" ["java/lang/RuntimeException", "java/lang/Exception"]).filter goodWord)
def wsL_played : List Cond := .codeWith yL_played cL_played 5 (some .int) [(0, 10, 13, 19)] :: ([.classLink RL 19 "java/lang/IndexOutOfBoundsException", .methodLink RL 80 yX6_played, .instanceMethod yX6_played, .selects RX6 yX6_played yX6_played, .initialized RX6, .code yX6_played cX6_played 3 (some .int), .fieldLink RX6 40 "CastDesk" "programme" "LCastDesk$Programme;", .fieldLink RX6 176 "CastDesk$Programme" "count" "I", .fieldLink RX6 206 "CastDesk$Programme" "casts" "[I", .methodLink RX6 128 yX6_needOneOf, .static yX6_needOneOf, .code yX6_needOneOf cX6_needOneOf 2 none, .classLink RX6 215 "java/lang/IndexOutOfBoundsException", .initialized "java/lang/IndexOutOfBoundsException", .methodLink RX6 76 yX6_needPart, .static yX6_needPart, .code yX6_needPart cX6_needPart 1 none] ++ wsX60 ++ wsX20 ++ (vx_atS RX6 219 "java/lang/IndexOutOfBoundsException" ["java/lang/RuntimeException", "java/lang/Exception"]).filter goodWord)
def wsL_refund : List Cond := .codeWith yL_refund cL_refund 4 (some .int) [(0, 9, 12, 19)] :: ([.classLink RL 19 "java/lang/IndexOutOfBoundsException", .methodLink RL 83 yX6_refund, .instanceMethod yX6_refund, .selects RX6 yX6_refund yX6_refund, .initialized RX6, .code yX6_refund cX6_refund 2 (some .int), .fieldLink RX6 47 "CastDesk" "office" "LCastDesk$BoxOffice;", .fieldLink RX6 190 "CastDesk$BoxOffice" "count" "I", .fieldLink RX6 209 "CastDesk$BoxOffice" "refunds" "[I", .methodLink RX6 128 yX6_needOneOf, .static yX6_needOneOf, .code yX6_needOneOf cX6_needOneOf 2 none, .classLink RX6 215 "java/lang/IndexOutOfBoundsException", .initialized "java/lang/IndexOutOfBoundsException"] ++ wsX60 ++ wsX00 ++ (vx_atS RX6 219 "java/lang/IndexOutOfBoundsException" ["java/lang/RuntimeException", "java/lang/Exception"]).filter goodWord)
def wsL_law0_r1 : List Cond := [Cond.classLink RL 8 RX6, Cond.instantiable RX6 8, Cond.initialized RX6, Cond.classLink RL 87 RX7, Cond.instantiable RX7 29, Cond.initialized RX7, Cond.arrayClass .long, Cond.methodLink RL 86 yX6_init, Cond.instanceMethod yX6_init, Cond.code yX6_init cX6_init 1 none, Cond.methodLink RX6 1 objectInit, Cond.instanceMethod objectInit, Cond.code objectInit ⟨#[0xb1]⟩ 1 none, Cond.classLink RX6 7 RX4, Cond.instantiable RX4 3, Cond.initialized RX4, Cond.fieldLink RX6 10 "CastDesk" "troupe" "LCastDesk$Troupe;", Cond.classLink RX6 16 RX3, Cond.instantiable RX3 2, Cond.initialized RX3, Cond.fieldLink RX6 19 "CastDesk" "rows" "LCastDesk$Rows;", Cond.classLink RX6 23 RX5, Cond.instantiable RX5 4, Cond.initialized RX5]
def wsL_law0_r2 : List Cond := [Cond.fieldLink RX6 26 "CastDesk" "wardrobe" "LCastDesk$Wardrobe;", Cond.classLink RX6 30 RX1, Cond.instantiable RX1 4, Cond.initialized RX1, Cond.fieldLink RX6 33 "CastDesk" "casting" "LCastDesk$Casting;", Cond.classLink RX6 37 RX2, Cond.instantiable RX2 4, Cond.initialized RX2, Cond.fieldLink RX6 40 "CastDesk" "programme" "LCastDesk$Programme;", Cond.classLink RX6 44 RX0, Cond.instantiable RX0 8, Cond.initialized RX0, Cond.fieldLink RX6 47 "CastDesk" "office" "LCastDesk$BoxOffice;", Cond.fieldLink RX6 51 "CastDesk" "partCount" "I", Cond.fieldLink RX6 55 "CastDesk" "today" "I", Cond.methodLink RX6 9 yX4_init, Cond.instanceMethod yX4_init, Cond.code yX4_init cX4_init 2 none, Cond.methodLink RX4 3 objectInit, Cond.arrayClass .int, Cond.fieldLink RX4 9 "CastDesk$Troupe" "sizes" "[I", Cond.fieldLink RX4 15 "CastDesk$Troupe" "known" "[I", Cond.fieldLink RX4 18 "CastDesk$Troupe" "ill" "[I", Cond.instanceMethod yX3_init]
def wsL_law0_r3 : List Cond := [Cond.code yX3_init cX3_init 1 none, Cond.methodLink RX3 3 objectInit, Cond.fieldLink RX3 9 "CastDesk$Rows" "actors" "[I", Cond.fieldLink RX3 15 "CastDesk$Rows" "lengths" "[I", Cond.instanceMethod yX5_init, Cond.code yX5_init cX5_init 1 none, Cond.methodLink RX5 3 objectInit, Cond.fieldLink RX5 9 "CastDesk$Wardrobe" "sizes" "[I", Cond.fieldLink RX5 15 "CastDesk$Wardrobe" "parts" "[I", Cond.arrayClass .boolean, Cond.fieldLink RX5 18 "CastDesk$Wardrobe" "isLetOut" "[Z", Cond.methodLink RX6 32 yX1_init, Cond.instanceMethod yX1_init, Cond.code yX1_init cX1_init 2 none, Cond.methodLink RX1 5 objectInit, Cond.fieldLink RX1 11 "CastDesk$Casting" "actors" "[I", Cond.fieldLink RX1 15 "CastDesk$Casting" "keys" "[I", Cond.fieldLink RX1 18 "CastDesk$Casting" "leastOfSet" "[I", Cond.methodLink RX6 39 yX2_init, Cond.instanceMethod yX2_init, Cond.code yX2_init cX2_init 2 none, Cond.methodLink RX2 3 objectInit, Cond.fieldLink RX2 9 "CastDesk$Programme" "states" "[I", Cond.fieldLink RX2 15 "CastDesk$Programme" "casts" "[I"]
def wsL_law0_r4 : List Cond := [Cond.fieldLink RX2 18 "CastDesk$Programme" "days" "[I", Cond.instanceMethod yX0_init, Cond.code yX0_init cX0_init 1 none, Cond.methodLink RX0 3 objectInit, Cond.fieldLink RX0 9 "CastDesk$BoxOffice" "shows" "[I", Cond.fieldLink RX0 15 "CastDesk$BoxOffice" "promises" "[I", Cond.fieldLink RX0 18 "CastDesk$BoxOffice" "parts" "[I", Cond.fieldLink RX0 21 "CastDesk$BoxOffice" "stars" "[I", Cond.fieldLink RX0 24 "CastDesk$BoxOffice" "refunds" "[I", Cond.fieldLink RX0 27 "CastDesk$BoxOffice" "prices" "[I", Cond.methodLink RL 89 yX7_init, Cond.instanceMethod yX7_init, Cond.code yX7_init cX7_init 2 none, Cond.methodLink RX7 1 objectInit, Cond.fieldLink RX7 7 "CastDeskModel" "parts" "I", Cond.fieldLink RX7 13 "CastDeskModel" "sizes" "[I", Cond.fieldLink RX7 17 "CastDeskModel" "known" "[I", Cond.fieldLink RX7 20 "CastDeskModel" "rows" "[I", Cond.fieldLink RX7 23 "CastDeskModel" "lengths" "[I", Cond.fieldLink RX7 26 "CastDeskModel" "costumePart" "[I", Cond.fieldLink RX7 29 "CastDeskModel" "costumeSize" "[I", Cond.fieldLink RX7 32 "CastDeskModel" "letOut" "[I", Cond.fieldLink RX7 35 "CastDeskModel" "ill" "[I", Cond.fieldLink RX7 38 "CastDeskModel" "showDay" "[I"]
def wsL_law0_r5 : List Cond := [Cond.fieldLink RX7 41 "CastDeskModel" "showState" "[I", Cond.fieldLink RX7 44 "CastDeskModel" "showCast" "[I", Cond.fieldLink RX7 47 "CastDeskModel" "seatShow" "[I", Cond.fieldLink RX7 50 "CastDeskModel" "seatPrice" "[I", Cond.fieldLink RX7 53 "CastDeskModel" "seatPromise" "[I", Cond.fieldLink RX7 56 "CastDeskModel" "seatPart" "[I", Cond.fieldLink RX7 59 "CastDeskModel" "seatStar" "[I", Cond.fieldLink RX7 62 "CastDeskModel" "seatRefund" "[I", Cond.fieldLink RX7 65 "CastDeskModel" "able" "[I", Cond.fieldLink RX7 68 "CastDeskModel" "cast" "[I", Cond.fieldLink RX7 71 "CastDeskModel" "before" "[I", Cond.methodLink RL 90 yL_setParts, Cond.static yL_setParts, Cond.initialized RL, Cond.codeWith yL_setParts cL_setParts 4 (some .int) [(0, 9, 12, 13)], Cond.classLink RL 13 "java/lang/IllegalArgumentException", Cond.methodLink RL 7 yX6_setParts, Cond.instanceMethod yX6_setParts, Cond.selects RX6 yX6_setParts yX6_setParts, Cond.code yX6_setParts cX6_setParts 3 (some .int), Cond.classLink RX6 58 "java/lang/IllegalArgumentException", Cond.initialized "java/lang/IllegalArgumentException", Cond.methodLink RL 95 yX7_setParts, Cond.instanceMethod yX7_setParts]
def wsL_law0_r6 : List Cond := [Cond.selects RX7 yX7_setParts yX7_setParts, Cond.code yX7_setParts cX7_setParts 3 (some .int), Cond.fieldLink RX7 74 "CastDeskModel" "thrown" "I", Cond.methodLink RX7 77 yX7_in, Cond.static yX7_in, Cond.code yX7_in cX7_in 3 (some .boolean), Cond.methodLink RX7 81 yX7_fails, Cond.instanceMethod yX7_fails, Cond.selects RX7 yX7_fails yX7_fails, Cond.code yX7_fails cX7_fails 2 (some .int), Cond.methodLink RL 96 yX7_thrown, Cond.instanceMethod yX7_thrown, Cond.selects RX7 yX7_thrown yX7_thrown, Cond.code yX7_thrown cX7_thrown 1 (some .int), Cond.methodLink RL 99 yL_setSize, Cond.static yL_setSize, Cond.codeWith yL_setSize cL_setSize 5 (some .int) [(0, 10, 13, 19), (0, 10, 17, 13)], Cond.classLink RL 19 "java/lang/IndexOutOfBoundsException", Cond.methodLink RL 15 yX6_setSize, Cond.instanceMethod yX6_setSize, Cond.selects RX6 yX6_setSize yX6_setSize, Cond.code yX6_setSize cX6_setSize 4 (some .int), Cond.fieldLink RX6 72 "CastDesk$Troupe" "sizes" "[I", Cond.methodLink RX6 65 yX6_needActor]
def wsL_law0_r7 : List Cond := [Cond.static yX6_needActor, Cond.code yX6_needActor cX6_needActor 1 none, Cond.classLink RX6 215 "java/lang/IndexOutOfBoundsException", Cond.initialized "java/lang/IndexOutOfBoundsException", Cond.methodLink RX6 69 yX6_needSize, Cond.static yX6_needSize, Cond.code yX6_needSize cX6_needSize 1 none, Cond.methodLink RL 102 yX7_setSize, Cond.instanceMethod yX7_setSize, Cond.selects RX7 yX7_setSize yX7_setSize, Cond.code yX7_setSize cX7_setSize 4 (some .int), Cond.methodLink RX7 85 yX7_isActor, Cond.static yX7_isActor, Cond.code yX7_isActor cX7_isActor 1 (some .boolean), Cond.methodLink RL 103 yL_learn, Cond.static yL_learn, Cond.codeWith yL_learn cL_learn 6 (some .int) [(0, 12, 15, 19), (0, 12, 19, 25)], Cond.classLink RL 25 "java/lang/IllegalStateException", Cond.methodLink RL 21 yX6_learn, Cond.instanceMethod yX6_learn, Cond.selects RX6 yX6_learn yX6_learn, Cond.code yX6_learn cX6_learn 6 (some .int), Cond.classLink RX6 95 "java/lang/IllegalStateException", Cond.initialized "java/lang/IllegalStateException"]
def wsL_law0_r8 : List Cond := [Cond.fieldLink RX6 79 "CastDesk$Troupe" "known" "[I", Cond.methodLink RX6 76 yX6_needPart, Cond.static yX6_needPart, Cond.code yX6_needPart cX6_needPart 1 none, Cond.methodLink RX6 82 yX6_with, Cond.static yX6_with, Cond.code yX6_with cX6_with 2 (some .int), Cond.methodLink RX6 86 yX6_without, Cond.static yX6_without, Cond.code yX6_without cX6_without 2 (some .int), Cond.methodLink RX6 89 yJ6_bitCount_0f7a4, Cond.static yJ6_bitCount_0f7a4, Cond.initialized RJ6, Cond.code yJ6_bitCount_0f7a4 cJ6_bitCount_0f7a4 1 (some .int), Cond.constant RJ6 265 (1431655765), Cond.constant RJ6 266 (858993459), Cond.constant RJ6 267 (252645135), Cond.methodLink RL 106 yX7_learn, Cond.instanceMethod yX7_learn, Cond.selects RX7 yX7_learn yX7_learn, Cond.code yX7_learn cX7_learn 4 (some .int), Cond.methodLink RX7 89 yX7_isPart, Cond.static yX7_isPart, Cond.code yX7_isPart cX7_isPart 1 (some .boolean)]
def wsL_law0_r9 : List Cond := [Cond.methodLink RX7 92 yX7_knows, Cond.instanceMethod yX7_knows, Cond.selects RX7 yX7_knows yX7_knows, Cond.code yX7_knows cX7_knows 3 (some .boolean), Cond.methodLink RX7 96 yX7_knownBy, Cond.instanceMethod yX7_knownBy, Cond.selects RX7 yX7_knownBy yX7_knownBy, Cond.code yX7_knownBy cX7_knownBy 4 (some .int), Cond.methodLink RL 107 yL_put, Cond.static yL_put, Cond.codeWith yL_put cL_put 5 (some .int) [(0, 10, 13, 19), (0, 10, 17, 25)], Cond.methodLink RL 27 yX6_put, Cond.instanceMethod yX6_put, Cond.selects RX6 yX6_put yX6_put, Cond.code yX6_put cX6_put 3 (some .int), Cond.methodLink RX6 100 yX3_rankIn, Cond.instanceMethod yX3_rankIn, Cond.selects RX3 yX3_rankIn yX3_rankIn, Cond.code yX3_rankIn cX3_rankIn 4 (some .int), Cond.methodLink RX6 105 yX3_isFull, Cond.instanceMethod yX3_isFull, Cond.selects RX3 yX3_isFull yX3_isFull, Cond.code yX3_isFull cX3_isFull 2 (some .boolean), Cond.methodLink RX6 111 yX3_append]
def wsL_law0_r10 : List Cond := [Cond.instanceMethod yX3_append, Cond.selects RX3 yX3_append yX3_append, Cond.code yX3_append cX3_append 4 (some .int), Cond.methodLink RL 109 yX7_put, Cond.instanceMethod yX7_put, Cond.selects RX7 yX7_put yX7_put, Cond.code yX7_put cX7_put 3 (some .int), Cond.methodLink RX7 99 yX7_rankOf, Cond.instanceMethod yX7_rankOf, Cond.selects RX7 yX7_rankOf yX7_rankOf, Cond.code yX7_rankOf cX7_rankOf 4 (some .int), Cond.methodLink RL 110 yL_take, Cond.static yL_take, Cond.codeWith yL_take cL_take 5 (some .int) [(0, 10, 13, 19), (0, 10, 17, 25)], Cond.methodLink RL 30 yX6_take, Cond.instanceMethod yX6_take, Cond.selects RX6 yX6_take yX6_take, Cond.code yX6_take cX6_take 4 (some .int), Cond.methodLink RX6 116 yX3_remove, Cond.instanceMethod yX3_remove, Cond.selects RX3 yX3_remove yX3_remove, Cond.code yX3_remove cX3_remove 4 none, Cond.methodLink RL 112 yX7_take, Cond.instanceMethod yX7_take]
def wsL_law0_r11 : List Cond := [Cond.selects RX7 yX7_take yX7_take, Cond.code yX7_take cX7_take 5 (some .int), Cond.methodLink RL 113 yL_costume, Cond.static yL_costume, Cond.codeWith yL_costume cL_costume 5 (some .int) [(0, 10, 13, 19), (0, 10, 17, 13), (0, 10, 21, 25)], Cond.methodLink RL 33 yX6_costume, Cond.instanceMethod yX6_costume, Cond.selects RX6 yX6_costume yX6_costume, Cond.code yX6_costume cX6_costume 3 (some .int), Cond.fieldLink RX6 120 "CastDesk$Wardrobe" "count" "I", Cond.methodLink RX6 125 yX5_add, Cond.instanceMethod yX5_add, Cond.selects RX5 yX5_add yX5_add, Cond.code yX5_add cX5_add 3 (some .int), Cond.fieldLink RX5 22 "CastDesk$Wardrobe" "count" "I", Cond.methodLink RL 115 yX7_costume, Cond.instanceMethod yX7_costume, Cond.selects RX7 yX7_costume yX7_costume, Cond.code yX7_costume cX7_costume 3 (some .int), Cond.fieldLink RX7 103 "CastDeskModel" "costumes" "I", Cond.methodLink RL 116 yL_sizeOf, Cond.static yL_sizeOf, Cond.codeWith yL_sizeOf cL_sizeOf 4 (some .int) [(0, 9, 12, 19)], Cond.methodLink RL 36 yX6_sizeOf]
def wsL_law0_r12 : List Cond := [Cond.instanceMethod yX6_sizeOf, Cond.selects RX6 yX6_sizeOf yX6_sizeOf, Cond.code yX6_sizeOf cX6_sizeOf 2 (some .int), Cond.fieldLink RX6 131 "CastDesk$Wardrobe" "sizes" "[I", Cond.methodLink RX6 128 yX6_needOneOf, Cond.static yX6_needOneOf, Cond.code yX6_needOneOf cX6_needOneOf 2 none, Cond.methodLink RL 118 yX7_sizeOf, Cond.instanceMethod yX7_sizeOf, Cond.selects RX7 yX7_sizeOf yX7_sizeOf, Cond.code yX7_sizeOf cX7_sizeOf 2 (some .int), Cond.methodLink RL 119 yL_cold, Cond.static yL_cold, Cond.codeWith yL_cold cL_cold 6 (some .int) [(0, 12, 15, 19), (0, 12, 19, 13)], Cond.methodLink RL 39 yX6_cold, Cond.instanceMethod yX6_cold, Cond.selects RX6 yX6_cold yX6_cold, Cond.code yX6_cold cX6_cold 4 (some .int), Cond.methodLink RX6 132 yX6_needDay, Cond.static yX6_needDay, Cond.code yX6_needDay cX6_needDay 2 none, Cond.methodLink RX6 135 yX4_fallIll, Cond.instanceMethod yX4_fallIll, Cond.selects RX4 yX4_fallIll yX4_fallIll]
def wsL_law0_r13 : List Cond := [Cond.code yX4_fallIll cX4_fallIll 6 (some .int), Cond.static yX6_has, Cond.code yX6_has cX6_has 2 (some .boolean), Cond.methodLink RL 122 yX7_cold, Cond.instanceMethod yX7_cold, Cond.selects RX7 yX7_cold yX7_cold, Cond.code yX7_cold cX7_cold 6 (some .int), Cond.fieldLink RX7 106 "CastDeskModel" "today" "I", Cond.methodLink RL 123 yL_isIll, Cond.static yL_isIll, Cond.codeWith yL_isIll cL_isIll 5 (some .int) [(0, 17, 20, 19), (0, 17, 24, 13)], Cond.methodLink RL 43 yX6_isIll, Cond.instanceMethod yX6_isIll, Cond.selects RX6 yX6_isIll yX6_isIll, Cond.code yX6_isIll cX6_isIll 3 (some .boolean), Cond.fieldLink RX6 139 "CastDesk$Troupe" "ill" "[I", Cond.methodLink RX6 142 yX6_has, Cond.methodLink RL 125 yX7_isIll, Cond.instanceMethod yX7_isIll, Cond.selects RX7 yX7_isIll yX7_isIll, Cond.code yX7_isIll cX7_isIll 3 (some .boolean), Cond.methodLink RX7 109 yX7_isDay, Cond.static yX7_isDay, Cond.code yX7_isDay cX7_isDay 1 (some .boolean)]
def wsL_law0_r14 : List Cond := [Cond.methodLink RL 126 yL_canPlay, Cond.static yL_canPlay, Cond.codeWith yL_canPlay cL_canPlay 6 (some .int) [(0, 19, 22, 19), (0, 19, 26, 13)], Cond.methodLink RL 47 yX6_canPlay, Cond.instanceMethod yX6_canPlay, Cond.selects RX6 yX6_canPlay yX6_canPlay, Cond.code yX6_canPlay cX6_canPlay 4 (some .boolean), Cond.methodLink RX6 146 yX6_isReady, Cond.instanceMethod yX6_isReady, Cond.selects RX6 yX6_isReady yX6_isReady, Cond.code yX6_isReady cX6_isReady 5 (some .boolean), Cond.methodLink RX6 228 yX5_lowestFitting, Cond.instanceMethod yX5_lowestFitting, Cond.selects RX5 yX5_lowestFitting yX5_lowestFitting, Cond.code yX5_lowestFitting cX5_lowestFitting 4 (some .int), Cond.methodLink RX6 231 yX5_lowestToLetOut, Cond.instanceMethod yX5_lowestToLetOut, Cond.selects RX5 yX5_lowestToLetOut yX5_lowestToLetOut, Cond.code yX5_lowestToLetOut cX5_lowestToLetOut 4 (some .int), Cond.methodLink RL 128 yX7_canPlay, Cond.instanceMethod yX7_canPlay, Cond.selects RX7 yX7_canPlay yX7_canPlay, Cond.code yX7_canPlay cX7_canPlay 4 (some .boolean), Cond.methodLink RX7 118 yX7_can]
def wsL_law0_r15 : List Cond := [Cond.instanceMethod yX7_can, Cond.selects RX7 yX7_can yX7_can, Cond.code yX7_can cX7_can 5 (some .boolean), Cond.methodLink RX7 112 yX7_fits, Cond.instanceMethod yX7_fits, Cond.selects RX7 yX7_fits yX7_fits, Cond.code yX7_fits cX7_fits 5 (some .boolean), Cond.methodLink RX7 115 yX7_toLetOut, Cond.instanceMethod yX7_toLetOut, Cond.selects RX7 yX7_toLetOut yX7_toLetOut, Cond.code yX7_toLetOut cX7_toLetOut 4 (some .int), Cond.methodLink RL 129 yL_strain, Cond.static yL_strain, Cond.codeWith yL_strain cL_strain 4 (some .int) [(0, 9, 12, 13)], Cond.methodLink RL 51 yX6_strain, Cond.instanceMethod yX6_strain, Cond.selects RX6 yX6_strain yX6_strain, Cond.code yX6_strain cX6_strain 3 (some .int), Cond.methodLink RX6 150 yX6_bestCast, Cond.instanceMethod yX6_bestCast, Cond.selects RX6 yX6_bestCast yX6_bestCast, Cond.code yX6_bestCast cX6_bestCast 2 (some .int), Cond.methodLink RX6 156 yX6_offerActors, Cond.instanceMethod yX6_offerActors]
def wsL_law0_r16 : List Cond := [Cond.selects RX6 yX6_offerActors yX6_offerActors, Cond.code yX6_offerActors cX6_offerActors 6 none, Cond.methodLink RX6 234 yX1_clear, Cond.instanceMethod yX1_clear, Cond.selects RX1 yX1_clear yX1_clear, Cond.code yX1_clear cX1_clear 2 none, Cond.fieldLink RX1 25 "CastDesk$Casting" "setsBound" "I", Cond.methodLink RX6 193 yX3_actorAt, Cond.instanceMethod yX3_actorAt, Cond.selects RX3 yX3_actorAt yX3_actorAt, Cond.code yX3_actorAt cX3_actorAt 3 (some .int), Cond.methodLink RX6 237 yX1_offer, Cond.instanceMethod yX1_offer, Cond.selects RX1 yX1_offer yX1_offer, Cond.code yX1_offer cX1_offer 6 none, Cond.methodLink RX1 29 Lib.Math.max.name, Cond.static Lib.Math.max.name, Cond.initialized "java/lang/Math", Cond.code Lib.Math.max.name Lib.Math.max.code 2 (some .int), Cond.methodLink RX1 21 yX1_rankShift, Cond.static yX1_rankShift, Cond.code yX1_rankShift cX1_rankShift 1 (some .int), Cond.methodLink RX6 241 yX1_leastKey, Cond.instanceMethod yX1_leastKey]
def wsL_law0_r17 : List Cond := [Cond.selects RX1 yX1_leastKey yX1_leastKey, Cond.code yX1_leastKey cX1_leastKey 6 (some .int), Cond.methodLink RX1 35 yJ6_bitCount_0f7a4, Cond.methodLink RX1 40 yX1_castPart, Cond.instanceMethod yX1_castPart, Cond.selects RX1 yX1_castPart yX1_castPart, Cond.code yX1_castPart cX1_castPart 9 none, Cond.methodLink RX6 153 yX1_strainOf, Cond.static yX1_strainOf, Cond.code yX1_strainOf cX1_strainOf 1 (some .int), Cond.methodLink RL 131 yX7_strain, Cond.instanceMethod yX7_strain, Cond.selects RX7 yX7_strain yX7_strain, Cond.code yX7_strain cX7_strain 2 (some .int), Cond.fieldLink RX7 121 "CastDeskModel" "leastStrain" "I", Cond.methodLink RX7 138 yX7_lay, Cond.instanceMethod yX7_lay, Cond.selects RX7 yX7_lay yX7_lay, Cond.code yX7_lay cX7_lay 6 (some .boolean), Cond.fieldLink RX7 124 "CastDeskModel" "leastWork" "I", Cond.methodLink RX7 127 yX7_layAble, Cond.instanceMethod yX7_layAble, Cond.selects RX7 yX7_layAble yX7_layAble, Cond.code yX7_layAble cX7_layAble 6 none]
def wsL_law0_r18 : List Cond := [Cond.methodLink RX7 131 yX7_firstBad, Cond.instanceMethod yX7_firstBad, Cond.selects RX7 yX7_firstBad yX7_firstBad, Cond.code yX7_firstBad cX7_firstBad 5 (some .int), Cond.methodLink RX7 134 yX7_keep, Cond.instanceMethod yX7_keep, Cond.selects RX7 yX7_keep yX7_keep, Cond.code yX7_keep cX7_keep 6 none, Cond.methodLink RL 132 yL_strainByAll, Cond.static yL_strainByAll, Cond.codeWith yL_strainByAll cL_strainByAll 4 (some .int) [(0, 9, 12, 13)], Cond.methodLink RL 54 yX6_strainByAll, Cond.instanceMethod yX6_strainByAll, Cond.selects RX6 yX6_strainByAll yX6_strainByAll, Cond.code yX6_strainByAll cX6_strainByAll 2 (some .int), Cond.methodLink RX6 159 yX1_leastStrain, Cond.instanceMethod yX1_leastStrain, Cond.selects RX1 yX1_leastStrain yX1_leastStrain, Cond.code yX1_leastStrain cX1_leastStrain 2 (some .int), Cond.methodLink RX1 51 yX1_leastFrom, Cond.static yX1_leastFrom, Cond.code yX1_leastFrom cX1_leastFrom 8 (some .int), Cond.methodLink RL 134 yX7_strainByAll, Cond.instanceMethod yX7_strainByAll]
def wsL_law0_r19 : List Cond := [Cond.selects RX7 yX7_strainByAll yX7_strainByAll, Cond.code yX7_strainByAll cX7_strainByAll 2 (some .int), Cond.methodLink RL 135 yL_work, Cond.static yL_work, Cond.codeWith yL_work cL_work 4 (some .int) [(0, 9, 12, 13)], Cond.methodLink RL 57 yX6_work, Cond.instanceMethod yX6_work, Cond.selects RX6 yX6_work yX6_work, Cond.code yX6_work cX6_work 3 (some .int), Cond.methodLink RX6 162 yX1_workOf, Cond.static yX1_workOf, Cond.code yX1_workOf cX1_workOf 1 (some .int), Cond.methodLink RL 137 yX7_work, Cond.instanceMethod yX7_work, Cond.selects RX7 yX7_work yX7_work, Cond.code yX7_work cX7_work 2 (some .int), Cond.methodLink RL 138 yL_actorFor, Cond.static yL_actorFor, Cond.codeWith yL_actorFor cL_actorFor 5 (some .int) [(0, 10, 13, 19), (0, 10, 17, 13)], Cond.methodLink RL 60 yX6_actorFor, Cond.instanceMethod yX6_actorFor, Cond.selects RX6 yX6_actorFor yX6_actorFor, Cond.code yX6_actorFor cX6_actorFor 4 (some .int), Cond.methodLink RX6 165 yX6_actorIn]
def wsL_law0_r20 : List Cond := [Cond.instanceMethod yX6_actorIn, Cond.selects RX6 yX6_actorIn yX6_actorIn, Cond.code yX6_actorIn cX6_actorIn 3 (some .int), Cond.methodLink RX6 244 yX1_rankOf, Cond.static yX1_rankOf, Cond.code yX1_rankOf cX1_rankOf 2 (some .int), Cond.methodLink RL 140 yX7_actorFor, Cond.instanceMethod yX7_actorFor, Cond.selects RX7 yX7_actorFor yX7_actorFor, Cond.code yX7_actorFor cX7_actorFor 3 (some .int), Cond.methodLink RL 141 yL_chain, Cond.static yL_chain, Cond.codeWith yL_chain cL_chain 5 (some .int) [(0, 10, 13, 19), (0, 10, 17, 13)], Cond.methodLink RL 63 yX6_chain, Cond.instanceMethod yX6_chain, Cond.selects RX6 yX6_chain yX6_chain, Cond.code yX6_chain cX6_chain 5 (some .int), Cond.methodLink RX6 168 yX6_countOthers, Cond.instanceMethod yX6_countOthers, Cond.selects RX6 yX6_countOthers yX6_countOthers, Cond.code yX6_countOthers cX6_countOthers 5 (some .int), Cond.methodLink RL 143 yX7_chain, Cond.instanceMethod yX7_chain, Cond.selects RX7 yX7_chain yX7_chain]
def wsL_law0_r21 : List Cond := [Cond.code yX7_chain cX7_chain 5 (some .int), Cond.methodLink RL 144 yL_show, Cond.static yL_show, Cond.codeWith yL_show cL_show 4 (some .int) [(0, 9, 12, 13), (0, 9, 15, 25)], Cond.methodLink RL 66 yX6_show, Cond.instanceMethod yX6_show, Cond.selects RX6 yX6_show yX6_show, Cond.code yX6_show cX6_show 2 (some .int), Cond.fieldLink RX6 176 "CastDesk$Programme" "count" "I", Cond.methodLink RX6 171 yX2_showOn, Cond.instanceMethod yX2_showOn, Cond.selects RX2 yX2_showOn yX2_showOn, Cond.code yX2_showOn cX2_showOn 3 (some .int), Cond.fieldLink RX2 21 "CastDesk$Programme" "count" "I", Cond.methodLink RX6 179 yX2_add, Cond.instanceMethod yX2_add, Cond.selects RX2 yX2_add yX2_add, Cond.code yX2_add cX2_add 2 (some .int), Cond.methodLink RL 146 yX7_show, Cond.instanceMethod yX7_show, Cond.selects RX7 yX7_show yX7_show, Cond.code yX7_show cX7_show 3 (some .int), Cond.fieldLink RX7 141 "CastDeskModel" "shows" "I", Cond.methodLink RX7 144 yX7_showOn]
def wsL_law0_r22 : List Cond := [Cond.instanceMethod yX7_showOn, Cond.selects RX7 yX7_showOn yX7_showOn, Cond.code yX7_showOn cX7_showOn 4 (some .int), Cond.methodLink RL 147 yL_sell, Cond.static yL_sell, Cond.codeWith yL_sell cL_sell 7 (some .int) [(0, 14, 17, 19), (0, 14, 21, 13), (0, 14, 25, 25)], Cond.methodLink RL 69 yX6_sell, Cond.instanceMethod yX6_sell, Cond.selects RX6 yX6_sell yX6_sell, Cond.code yX6_sell cX6_sell 6 (some .int), Cond.fieldLink RX6 185 "CastDesk$Programme" "states" "[I", Cond.fieldLink RX6 190 "CastDesk$BoxOffice" "count" "I", Cond.methodLink RX6 198 yX0_add, Cond.instanceMethod yX0_add, Cond.selects RX0 yX0_add yX0_add, Cond.code yX0_add cX0_add 6 (some .int), Cond.fieldLink RX0 30 "CastDesk$BoxOffice" "count" "I", Cond.fieldLink RX0 34 "CastDesk$BoxOffice" "money" "I", Cond.methodLink RL 150 yX7_sell, Cond.instanceMethod yX7_sell, Cond.selects RX7 yX7_sell yX7_sell, Cond.code yX7_sell cX7_sell 5 (some .int), Cond.fieldLink RX7 147 "CastDeskModel" "seats" "I", Cond.fieldLink RX7 150 "CastDeskModel" "taken" "I"]
def wsL_law0_r23 : List Cond := [Cond.methodLink RL 151 yL_play, Cond.static yL_play, Cond.codeWith yL_play cL_play 3 (some .int) [(0, 8, 11, 25)], Cond.methodLink RL 73 yX6_play, Cond.instanceMethod yX6_play, Cond.selects RX6 yX6_play yX6_play, Cond.code yX6_play cX6_play 3 (some .int), Cond.methodLink RX6 203 yX6_perform, Cond.instanceMethod yX6_perform, Cond.selects RX6 yX6_perform yX6_perform, Cond.code yX6_perform cX6_perform 5 (some .int), Cond.fieldLink RX6 206 "CastDesk$Programme" "casts" "[I", Cond.methodLink RX6 247 yX6_dress, Cond.instanceMethod yX6_dress, Cond.selects RX6 yX6_dress yX6_dress, Cond.code yX6_dress cX6_dress 4 none, Cond.methodLink RX6 253 yX5_letOut, Cond.instanceMethod yX5_letOut, Cond.selects RX5 yX5_letOut yX5_letOut, Cond.code yX5_letOut cX5_letOut 2 none, Cond.methodLink RX6 250 yX6_refundSeats, Cond.instanceMethod yX6_refundSeats, Cond.selects RX6 yX6_refundSeats yX6_refundSeats, Cond.code yX6_refundSeats cX6_refundSeats 6 (some .int)]
def wsL_law0_r24 : List Cond := [Cond.fieldLink RX6 256 "CastDesk$BoxOffice" "shows" "[I", Cond.methodLink RX6 259 yX6_shareBack, Cond.instanceMethod yX6_shareBack, Cond.selects RX6 yX6_shareBack yX6_shareBack, Cond.code yX6_shareBack cX6_shareBack 5 (some .int), Cond.fieldLink RX6 265 "CastDesk$BoxOffice" "parts" "[I", Cond.fieldLink RX6 268 "CastDesk$BoxOffice" "promises" "[I", Cond.fieldLink RX6 271 "CastDesk$BoxOffice" "stars" "[I", Cond.methodLink RX6 262 yX0_giveBack, Cond.instanceMethod yX0_giveBack, Cond.selects RX0 yX0_giveBack yX0_giveBack, Cond.code yX0_giveBack cX0_giveBack 4 (some .int), Cond.methodLink RL 154 yX7_play, Cond.instanceMethod yX7_play, Cond.selects RX7 yX7_play yX7_play, Cond.code yX7_play cX7_play 4 (some .int), Cond.methodLink RX7 156 yX7_refundAll, Cond.instanceMethod yX7_refundAll, Cond.selects RX7 yX7_refundAll yX7_refundAll, Cond.code yX7_refundAll cX7_refundAll 5 (some .int), Cond.methodLink RX7 153 yX7_refundOf, Cond.instanceMethod yX7_refundOf, Cond.selects RX7 yX7_refundOf yX7_refundOf, Cond.code yX7_refundOf cX7_refundOf 4 (some .int)]
def wsL_law0_r25 : List Cond := [Cond.methodLink RX7 160 yX7_perform, Cond.instanceMethod yX7_perform, Cond.selects RX7 yX7_perform yX7_perform, Cond.code yX7_perform cX7_perform 4 none, Cond.methodLink RL 155 yX6_day, Cond.instanceMethod yX6_day, Cond.selects RX6 yX6_day yX6_day, Cond.code yX6_day cX6_day 1 (some .int), Cond.methodLink RL 158 yX7_day, Cond.instanceMethod yX7_day, Cond.selects RX7 yX7_day yX7_day, Cond.code yX7_day cX7_day 1 (some .int), Cond.methodLink RL 159 yL_stateOf, Cond.static yL_stateOf, Cond.codeWith yL_stateOf cL_stateOf 4 (some .int) [(0, 9, 12, 19)], Cond.methodLink RL 77 yX6_stateOf, Cond.instanceMethod yX6_stateOf, Cond.selects RX6 yX6_stateOf yX6_stateOf, Cond.code yX6_stateOf cX6_stateOf 2 (some .int), Cond.methodLink RL 161 yX7_stateOf, Cond.instanceMethod yX7_stateOf, Cond.selects RX7 yX7_stateOf yX7_stateOf, Cond.code yX7_stateOf cX7_stateOf 2 (some .int), Cond.methodLink RL 162 yL_played]
def wsL_law0_r26 : List Cond := [Cond.static yL_played, Cond.codeWith yL_played cL_played 5 (some .int) [(0, 10, 13, 19)], Cond.methodLink RL 80 yX6_played, Cond.instanceMethod yX6_played, Cond.selects RX6 yX6_played yX6_played, Cond.code yX6_played cX6_played 3 (some .int), Cond.methodLink RL 164 yX7_played, Cond.instanceMethod yX7_played, Cond.selects RX7 yX7_played yX7_played, Cond.code yX7_played cX7_played 3 (some .int), Cond.methodLink RL 165 yL_refund, Cond.static yL_refund, Cond.codeWith yL_refund cL_refund 4 (some .int) [(0, 9, 12, 19)], Cond.methodLink RL 83 yX6_refund, Cond.instanceMethod yX6_refund, Cond.selects RX6 yX6_refund yX6_refund, Cond.code yX6_refund cX6_refund 2 (some .int), Cond.fieldLink RX6 209 "CastDesk$BoxOffice" "refunds" "[I", Cond.methodLink RL 167 yX7_refund, Cond.instanceMethod yX7_refund, Cond.selects RX7 yX7_refund yX7_refund, Cond.code yX7_refund cX7_refund 2 (some .int), Cond.methodLink RL 168 yX6_takings, Cond.instanceMethod yX6_takings]
def wsL_law0_r27 : List Cond := [Cond.selects RX6 yX6_takings yX6_takings, Cond.code yX6_takings cX6_takings 1 (some .int), Cond.fieldLink RX6 212 "CastDesk$BoxOffice" "money" "I", Cond.methodLink RL 171 yX7_takings, Cond.instanceMethod yX7_takings, Cond.selects RX7 yX7_takings yX7_takings, Cond.code yX7_takings cX7_takings 1 (some .int)]
def wsL_law0 : List Cond := (wsL_law0_r1 ++ (wsL_law0_r2 ++ (wsL_law0_r3 ++ (wsL_law0_r4 ++ (wsL_law0_r5 ++ (wsL_law0_r6 ++ (wsL_law0_r7 ++ (wsL_law0_r8 ++ (wsL_law0_r9 ++ (wsL_law0_r10 ++ (wsL_law0_r11 ++ (wsL_law0_r12 ++ (wsL_law0_r13 ++ (wsL_law0_r14 ++ (wsL_law0_r15 ++ (wsL_law0_r16 ++ (wsL_law0_r17 ++ (wsL_law0_r18 ++ (wsL_law0_r19 ++ (wsL_law0_r20 ++ (wsL_law0_r21 ++ (wsL_law0_r22 ++ (wsL_law0_r23 ++ (wsL_law0_r24 ++ (wsL_law0_r25 ++ (wsL_law0_r26 ++ wsL_law0_r27)))))))))))))))))))))))))) ++ wsX60 ++ wsX70 ++ wsX40 ++ wsX30 ++ wsX50 ++ wsX10 ++ wsX20 ++ wsX00 ++ ([] : List Cond)
def wsL_law : List Cond := wsL_law0 ++ (vx_atS RX6 62 "java/lang/IllegalArgumentException" ["java/lang/RuntimeException", "java/lang/Exception"]).filter goodWord ++ (vx_atS RX6 219 "java/lang/IndexOutOfBoundsException" ["java/lang/RuntimeException", "java/lang/Exception"]).filter goodWord ++ (vx_atS RX6 99 "java/lang/IllegalStateException" ["java/lang/RuntimeException", "java/lang/Exception"]).filter goodWord
theorem mem_r {big ws : List Cond} (ps : List Nat) (hp : ws = ps.filterMap (fun i => big[i]?)) : ∀ w ∈ ws, w ∈ big := by
  intro w hw
  rw [hp] at hw
  obtain ⟨i, -, hi⟩ := List.mem_filterMap.mp hw
  exact List.mem_of_getElem? hi
set_option maxRecDepth 20000 in
theorem wsL_law0_r1_q : ∀ w ∈ wsL_law0_r1, w ∈ lw_tbl := mem_r [43, 44, 27, 649, 650, 34, 911, 45, 46, 47, 48, 49, 50, 51, 52, 28, 185, 71, 72, 29, 186, 84, 85, 30] (by decide +kernel)
set_option maxRecDepth 20000 in
theorem wsL_law0_r2_q : ∀ w ∈ wsL_law0_r2, w ∈ lw_tbl := mem_r [187, 106, 107, 31, 188, 125, 126, 32, 189, 147, 148, 33, 190, 191, 192, 53, 54, 55, 56, 70, 57, 59, 61, 74] (by decide +kernel)
set_option maxRecDepth 20000 in
theorem wsL_law0_r3_q : ∀ w ∈ wsL_law0_r3, w ∈ lw_tbl := mem_r [75, 76, 77, 78, 87, 88, 89, 90, 92, 105, 93, 108, 109, 110, 111, 112, 113, 114, 127, 128, 129, 130, 131, 133] (by decide +kernel)
set_option maxRecDepth 20000 in
theorem wsL_law0_r4_q : ∀ w ∈ wsL_law0_r4, w ∈ lw_tbl := mem_r [135, 150, 151, 152, 153, 155, 157, 159, 161, 163, 651, 652, 653, 654, 655, 656, 657, 658, 659, 660, 661, 662, 664, 665] (by decide +kernel)
set_option maxRecDepth 20000 in
theorem wsL_law0_r5_q : ∀ w ∈ wsL_law0_r5, w ∈ lw_tbl := mem_r [666, 667, 669, 670, 671, 672, 673, 674, 678, 679, 680, 218, 219, 26, 220, 221, 222, 223, 224, 225, 226, 38, 747, 748] (by decide +kernel)
set_option maxRecDepth 20000 in
theorem wsL_law0_r6_q : ∀ w ∈ wsL_law0_r6, w ∈ lw_tbl := mem_r [749, 750, 683, 751, 752, 753, 754, 756, 11, 757, 743, 744, 745, 746, 294, 295, 296, 297, 298, 299, 300, 301, 58, 302] (by decide +kernel)
set_option maxRecDepth 20000 in
theorem wsL_law0_r7_q : ∀ w ∈ wsL_law0_r7, w ∈ lw_tbl := mem_r [303, 304, 305, 39, 321, 322, 323, 758, 759, 760, 761, 762, 763, 764, 325, 326, 327, 328, 329, 330, 331, 332, 349, 41] (by decide +kernel)
set_option maxRecDepth 20000 in
theorem wsL_law0_r8_q : ∀ w ∈ wsL_law0_r8, w ∈ lw_tbl := mem_r [60, 333, 334, 335, 337, 338, 339, 340, 341, 342, 343, 344, 40, 345, 346, 347, 348, 765, 766, 767, 768, 769, 770, 771] (by decide +kernel)
set_option maxRecDepth 20000 in
theorem wsL_law0_r9_q : ∀ w ∈ wsL_law0_r9, w ∈ lw_tbl := mem_r [772, 774, 12, 775, 776, 778, 13, 779, 365, 366, 367, 368, 369, 370, 371, 372, 373, 374, 375, 377, 378, 379, 380, 382] (by decide +kernel)
set_option maxRecDepth 20000 in
theorem wsL_law0_r10_q : ∀ w ∈ wsL_law0_r10, w ∈ lw_tbl := mem_r [383, 384, 385, 780, 781, 782, 783, 784, 786, 14, 787, 386, 387, 388, 389, 390, 391, 392, 394, 395, 396, 397, 788, 789] (by decide +kernel)
set_option maxRecDepth 20000 in
theorem wsL_law0_r11_q : ∀ w ∈ wsL_law0_r11, w ∈ lw_tbl := mem_r [790, 791, 398, 399, 400, 401, 402, 403, 404, 95, 406, 407, 408, 409, 94, 792, 793, 794, 795, 663, 410, 411, 412, 413] (by decide +kernel)
set_option maxRecDepth 20000 in
theorem wsL_law0_r12_q : ∀ w ∈ wsL_law0_r12, w ∈ lw_tbl := mem_r [414, 415, 416, 91, 417, 418, 419, 796, 797, 798, 799, 421, 422, 423, 424, 425, 426, 427, 428, 429, 430, 432, 433, 434] (by decide +kernel)
set_option maxRecDepth 20000 in
theorem wsL_law0_r13_q : ∀ w ∈ wsL_law0_r13, w ∈ lw_tbl := mem_r [435, 437, 438, 800, 801, 802, 803, 676, 440, 441, 442, 443, 444, 445, 446, 62, 447, 804, 805, 806, 807, 808, 809, 810] (by decide +kernel)
set_option maxRecDepth 20000 in
theorem wsL_law0_r14_q : ∀ w ∈ wsL_law0_r14, w ∈ lw_tbl := mem_r [448, 449, 450, 451, 452, 453, 454, 455, 457, 1, 458, 459, 460, 461, 462, 463, 464, 465, 466, 811, 812, 813, 814, 815] (by decide +kernel)
set_option maxRecDepth 20000 in
theorem wsL_law0_r15_q : ∀ w ∈ wsL_law0_r15, w ∈ lw_tbl := mem_r [817, 15, 818, 819, 821, 16, 822, 823, 825, 17, 826, 467, 468, 469, 470, 471, 472, 473, 474, 476, 2, 477, 478, 480] (by decide +kernel)
set_option maxRecDepth 20000 in
theorem wsL_law0_r16_q : ∀ w ∈ wsL_law0_r16, w ∈ lw_tbl := mem_r [3, 481, 482, 483, 484, 485, 115, 486, 487, 488, 489, 490, 491, 492, 493, 497, 498, 42, 499, 494, 495, 496, 500, 501] (by decide +kernel)
set_option maxRecDepth 20000 in
theorem wsL_law0_r17_q : ∀ w ∈ wsL_law0_r17, w ∈ lw_tbl := mem_r [502, 503, 504, 505, 507, 4, 508, 511, 512, 513, 827, 828, 829, 830, 681, 831, 833, 18, 834, 682, 835, 837, 19, 838] (by decide +kernel)
set_option maxRecDepth 20000 in
theorem wsL_law0_r18_q : ∀ w ∈ wsL_law0_r18, w ∈ lw_tbl := mem_r [839, 841, 20, 842, 843, 845, 21, 846, 514, 515, 516, 517, 518, 519, 520, 521, 522, 523, 524, 525, 526, 527, 847, 848] (by decide +kernel)
set_option maxRecDepth 20000 in
theorem wsL_law0_r19_q : ∀ w ∈ wsL_law0_r19, w ∈ lw_tbl := mem_r [849, 850, 528, 529, 530, 531, 532, 533, 534, 535, 536, 537, 851, 852, 853, 854, 538, 539, 540, 541, 542, 543, 544, 545] (by decide +kernel)
set_option maxRecDepth 20000 in
theorem wsL_law0_r20_q : ∀ w ∈ wsL_law0_r20, w ∈ lw_tbl := mem_r [547, 5, 548, 549, 550, 551, 855, 856, 857, 858, 552, 553, 554, 555, 556, 557, 558, 559, 561, 6, 562, 859, 860, 861] (by decide +kernel)
set_option maxRecDepth 20000 in
theorem wsL_law0_r21_q : ∀ w ∈ wsL_law0_r21, w ∈ lw_tbl := mem_r [862, 563, 564, 565, 566, 567, 568, 569, 137, 570, 571, 572, 573, 136, 576, 577, 578, 579, 863, 864, 865, 866, 668, 867] (by decide +kernel)
set_option maxRecDepth 20000 in
theorem wsL_law0_r22_q : ∀ w ∈ wsL_law0_r22, w ∈ lw_tbl := mem_r [869, 22, 870, 580, 581, 582, 583, 584, 585, 586, 132, 165, 592, 593, 594, 595, 164, 166, 871, 872, 873, 874, 675, 677] (by decide +kernel)
set_option maxRecDepth 20000 in
theorem wsL_law0_r23_q : ∀ w ∈ wsL_law0_r23, w ∈ lw_tbl := mem_r [596, 597, 598, 599, 600, 601, 602, 604, 606, 7, 607, 134, 608, 610, 8, 611, 612, 613, 614, 615, 616, 618, 9, 619] (by decide +kernel)
set_option maxRecDepth 20000 in
theorem wsL_law0_r24_q : ∀ w ∈ wsL_law0_r24, w ∈ lw_tbl := mem_r [154, 620, 622, 10, 623, 158, 156, 160, 624, 625, 626, 627, 875, 876, 877, 878, 879, 881, 23, 882, 883, 885, 24, 886] (by decide +kernel)
set_option maxRecDepth 20000 in
theorem wsL_law0_r25_q : ∀ w ∈ wsL_law0_r25, w ∈ lw_tbl := mem_r [887, 889, 25, 890, 210, 211, 212, 213, 891, 892, 893, 894, 628, 629, 630, 631, 632, 633, 634, 895, 896, 897, 898, 635] (by decide +kernel)
set_option maxRecDepth 20000 in
theorem wsL_law0_r26_q : ∀ w ∈ wsL_law0_r26, w ∈ lw_tbl := mem_r [636, 637, 638, 639, 640, 641, 899, 900, 901, 902, 642, 643, 644, 645, 646, 647, 648, 162, 903, 904, 905, 906, 214, 215] (by decide +kernel)
set_option maxRecDepth 20000 in
theorem wsL_law0_r27_q : ∀ w ∈ wsL_law0_r27, w ∈ lw_tbl := mem_r [216, 217, 167, 907, 908, 909, 910] (by decide +kernel)
set_option maxRecDepth 20000 in
theorem wsX60_q : ∀ w ∈ wsX60, w ∈ lw_tbl := mem_r [193, 195, 197, 199, 201, 203, 205, 207] (by decide +kernel)
set_option maxRecDepth 20000 in
theorem wsX70_q : ∀ w ∈ wsX70, w ∈ lw_tbl := mem_r [684, 686, 688, 690, 692, 694, 696, 698, 700, 702, 704, 706, 708, 710, 712, 714, 716, 718, 720, 722, 724, 726, 728, 730, 732, 734, 736, 738, 740] (by decide +kernel)
set_option maxRecDepth 20000 in
theorem wsX40_q : ∀ w ∈ wsX40, w ∈ lw_tbl := mem_r [63, 65, 67] (by decide +kernel)
set_option maxRecDepth 20000 in
theorem wsX30_q : ∀ w ∈ wsX30, w ∈ lw_tbl := mem_r [79, 81] (by decide +kernel)
set_option maxRecDepth 20000 in
theorem wsX50_q : ∀ w ∈ wsX50, w ∈ lw_tbl := mem_r [96, 98, 100, 102] (by decide +kernel)
set_option maxRecDepth 20000 in
theorem wsX10_q : ∀ w ∈ wsX10, w ∈ lw_tbl := mem_r [116, 118, 120, 122] (by decide +kernel)
set_option maxRecDepth 20000 in
theorem wsX20_q : ∀ w ∈ wsX20, w ∈ lw_tbl := mem_r [138, 140, 142, 144] (by decide +kernel)
set_option maxRecDepth 20000 in
theorem wsX00_q : ∀ w ∈ wsX00, w ∈ lw_tbl := mem_r [168, 170, 172, 174, 176, 178, 180, 182] (by decide +kernel)
theorem wsL_law_in0 : ∀ w ∈ wsL_law0, w ∈ lw_tbl := by
  show ∀ w ∈ (wsL_law0_r1 ++ (wsL_law0_r2 ++ (wsL_law0_r3 ++ (wsL_law0_r4 ++ (wsL_law0_r5 ++ (wsL_law0_r6 ++ (wsL_law0_r7 ++ (wsL_law0_r8 ++ (wsL_law0_r9 ++ (wsL_law0_r10 ++ (wsL_law0_r11 ++ (wsL_law0_r12 ++ (wsL_law0_r13 ++ (wsL_law0_r14 ++ (wsL_law0_r15 ++ (wsL_law0_r16 ++ (wsL_law0_r17 ++ (wsL_law0_r18 ++ (wsL_law0_r19 ++ (wsL_law0_r20 ++ (wsL_law0_r21 ++ (wsL_law0_r22 ++ (wsL_law0_r23 ++ (wsL_law0_r24 ++ (wsL_law0_r25 ++ (wsL_law0_r26 ++ (wsL_law0_r27))))))))))))))))))))))))))) ++ wsX60 ++ wsX70 ++ wsX40 ++ wsX30 ++ wsX50 ++ wsX10 ++ wsX20 ++ wsX00 ++ ([] : List Cond), w ∈ lw_tbl
  exact List.forall_mem_append.mpr ⟨List.forall_mem_append.mpr ⟨List.forall_mem_append.mpr ⟨List.forall_mem_append.mpr ⟨List.forall_mem_append.mpr ⟨List.forall_mem_append.mpr ⟨List.forall_mem_append.mpr ⟨List.forall_mem_append.mpr ⟨List.forall_mem_append.mpr ⟨List.forall_mem_append.mpr ⟨wsL_law0_r1_q, List.forall_mem_append.mpr ⟨wsL_law0_r2_q, List.forall_mem_append.mpr ⟨wsL_law0_r3_q, List.forall_mem_append.mpr ⟨wsL_law0_r4_q, List.forall_mem_append.mpr ⟨wsL_law0_r5_q, List.forall_mem_append.mpr ⟨wsL_law0_r6_q, List.forall_mem_append.mpr ⟨wsL_law0_r7_q, List.forall_mem_append.mpr ⟨wsL_law0_r8_q, List.forall_mem_append.mpr ⟨wsL_law0_r9_q, List.forall_mem_append.mpr ⟨wsL_law0_r10_q, List.forall_mem_append.mpr ⟨wsL_law0_r11_q, List.forall_mem_append.mpr ⟨wsL_law0_r12_q, List.forall_mem_append.mpr ⟨wsL_law0_r13_q, List.forall_mem_append.mpr ⟨wsL_law0_r14_q, List.forall_mem_append.mpr ⟨wsL_law0_r15_q, List.forall_mem_append.mpr ⟨wsL_law0_r16_q, List.forall_mem_append.mpr ⟨wsL_law0_r17_q, List.forall_mem_append.mpr ⟨wsL_law0_r18_q, List.forall_mem_append.mpr ⟨wsL_law0_r19_q, List.forall_mem_append.mpr ⟨wsL_law0_r20_q, List.forall_mem_append.mpr ⟨wsL_law0_r21_q, List.forall_mem_append.mpr ⟨wsL_law0_r22_q, List.forall_mem_append.mpr ⟨wsL_law0_r23_q, List.forall_mem_append.mpr ⟨wsL_law0_r24_q, List.forall_mem_append.mpr ⟨wsL_law0_r25_q, List.forall_mem_append.mpr ⟨wsL_law0_r26_q, wsL_law0_r27_q⟩⟩⟩⟩⟩⟩⟩⟩⟩⟩⟩⟩⟩⟩⟩⟩⟩⟩⟩⟩⟩⟩⟩⟩⟩⟩, wsX60_q⟩, wsX70_q⟩, wsX40_q⟩, wsX30_q⟩, wsX50_q⟩, wsX10_q⟩, wsX20_q⟩, wsX00_q⟩, fun _ h => absurd h List.not_mem_nil⟩
theorem wsL_law_x0 : ∀ w ∈ (vx_atS RX6 62 "java/lang/IllegalArgumentException" ["java/lang/RuntimeException", "java/lang/Exception"]).filter goodWord, w ∈ lw_tbl := by decide +kernel
theorem wsL_law_x1 : ∀ w ∈ (vx_atS RX6 219 "java/lang/IndexOutOfBoundsException" ["java/lang/RuntimeException", "java/lang/Exception"]).filter goodWord, w ∈ lw_tbl := by decide +kernel
theorem wsL_law_x2 : ∀ w ∈ (vx_atS RX6 99 "java/lang/IllegalStateException" ["java/lang/RuntimeException", "java/lang/Exception"]).filter goodWord, w ∈ lw_tbl := by decide +kernel
theorem wsL_law_in : ∀ w ∈ wsL_law, w ∈ lw_tbl := fun w h => (List.mem_append.mp h).elim (fun h => (List.mem_append.mp h).elim (fun h => (List.mem_append.mp h).elim (fun h => wsL_law_in0 w h) (fun h => wsL_law_x0 w h)) (fun h => wsL_law_x1 w h)) (fun h => wsL_law_x2 w h)
theorem inlX0 : ∀ w ∈ wsX00, w ∈ wsL_law := fun _ h => List.mem_append_left _ (List.mem_append_left _ (List.mem_append_left _ (List.mem_append_left _ (List.mem_append_right _ h))))
theorem inX0 : ∀ w ∈ wsX00, w ∈ lw_tbl := fun w h => wsL_law_in w (inlX0 w h)
theorem inlX1 : ∀ w ∈ wsX10, w ∈ wsL_law := fun _ h => List.mem_append_left _ (List.mem_append_left _ (List.mem_append_left _ (List.mem_append_left _ (List.mem_append_left _ (List.mem_append_left _ (List.mem_append_right _ h))))))
theorem inX1 : ∀ w ∈ wsX10, w ∈ lw_tbl := fun w h => wsL_law_in w (inlX1 w h)
theorem inlX2 : ∀ w ∈ wsX20, w ∈ wsL_law := fun _ h => List.mem_append_left _ (List.mem_append_left _ (List.mem_append_left _ (List.mem_append_left _ (List.mem_append_left _ (List.mem_append_right _ h)))))
theorem inX2 : ∀ w ∈ wsX20, w ∈ lw_tbl := fun w h => wsL_law_in w (inlX2 w h)
theorem inlX3 : ∀ w ∈ wsX30, w ∈ wsL_law := fun _ h => List.mem_append_left _ (List.mem_append_left _ (List.mem_append_left _ (List.mem_append_left _ (List.mem_append_left _ (List.mem_append_left _ (List.mem_append_left _ (List.mem_append_left _ (List.mem_append_right _ h))))))))
theorem inX3 : ∀ w ∈ wsX30, w ∈ lw_tbl := fun w h => wsL_law_in w (inlX3 w h)
theorem inlX4 : ∀ w ∈ wsX40, w ∈ wsL_law := fun _ h => List.mem_append_left _ (List.mem_append_left _ (List.mem_append_left _ (List.mem_append_left _ (List.mem_append_left _ (List.mem_append_left _ (List.mem_append_left _ (List.mem_append_left _ (List.mem_append_left _ (List.mem_append_right _ h)))))))))
theorem inX4 : ∀ w ∈ wsX40, w ∈ lw_tbl := fun w h => wsL_law_in w (inlX4 w h)
theorem inlX5 : ∀ w ∈ wsX50, w ∈ wsL_law := fun _ h => List.mem_append_left _ (List.mem_append_left _ (List.mem_append_left _ (List.mem_append_left _ (List.mem_append_left _ (List.mem_append_left _ (List.mem_append_left _ (List.mem_append_right _ h)))))))
theorem inX5 : ∀ w ∈ wsX50, w ∈ lw_tbl := fun w h => wsL_law_in w (inlX5 w h)
theorem inlX6 : ∀ w ∈ wsX60, w ∈ wsL_law := fun _ h => List.mem_append_left _ (List.mem_append_left _ (List.mem_append_left _ (List.mem_append_left _ (List.mem_append_left _ (List.mem_append_left _ (List.mem_append_left _ (List.mem_append_left _ (List.mem_append_left _ (List.mem_append_left _ (List.mem_append_left _ (List.mem_append_right _ h)))))))))))
theorem inX6 : ∀ w ∈ wsX60, w ∈ lw_tbl := fun w h => wsL_law_in w (inlX6 w h)
theorem inlX7 : ∀ w ∈ wsX70, w ∈ wsL_law := fun _ h => List.mem_append_left _ (List.mem_append_left _ (List.mem_append_left _ (List.mem_append_left _ (List.mem_append_left _ (List.mem_append_left _ (List.mem_append_left _ (List.mem_append_left _ (List.mem_append_left _ (List.mem_append_left _ (List.mem_append_right _ h))))))))))
theorem inX7 : ∀ w ∈ wsX70, w ∈ lw_tbl := fun w h => wsL_law_in w (inlX7 w h)
theorem inJ6 : ∀ w ∈ wsJ60, w ∈ lw_tbl := by decide +kernel
theorem inJ9 : ∀ w ∈ wsJ90, w ∈ lw_tbl := by decide +kernel
theorem inJ0 : ∀ w ∈ wsJ00, w ∈ lw_tbl := by decide +kernel
set_option maxRecDepth 20000 in
theorem ggX1_rankOf_X1_rankShift : GoodIn wsX1_rankOf wsX1_rankShift := goodIn_r _ [4] (by decide +kernel) (by decide +kernel)
set_option maxRecDepth 20000 in
theorem gX1_rankOf_X1_rankShift : GoodIn wsX1_rankOf (va_wsS RX1 21 yX1_rankShift wsX1_rankShift) := goodIn_app (goodIn_of _ (by decide +kernel)) ggX1_rankOf_X1_rankShift
set_option maxRecDepth 20000 in
theorem ggX1_offer_X1_rankShift : GoodIn wsX1_offer wsX1_rankShift := goodIn_r _ [11] (by decide +kernel) (by decide +kernel)
set_option maxRecDepth 20000 in
theorem gX1_offer_X1_rankShift : GoodIn wsX1_offer (va_wsS RX1 21 yX1_rankShift wsX1_rankShift) := goodIn_app (goodIn_of _ (by decide +kernel)) ggX1_offer_X1_rankShift
set_option maxRecDepth 20000 in
theorem ggX1_leastKey_J6_bitCount_0f7a4 : GoodIn wsX1_leastKey wsJ6_bitCount_0f7a4 := goodIn_r _ [6, 7, 8, 9] (by decide +kernel) (by decide +kernel)
set_option maxRecDepth 20000 in
theorem gX1_leastKey_J6_bitCount_0f7a4 : GoodIn wsX1_leastKey (va_wsS RX1 35 yJ6_bitCount_0f7a4 wsJ6_bitCount_0f7a4) := goodIn_app (goodIn_of _ (by decide +kernel)) ggX1_leastKey_J6_bitCount_0f7a4
set_option maxRecDepth 20000 in
theorem ggX1_leastKey_X1_castPart : GoodIn wsX1_leastKey wsX1_castPart := goodIn_r _ [14, 15, 16, 1, 17, 18, 19, 20, 21, 22, 23, 24, 25] (by decide +kernel) (by decide +kernel)
set_option maxRecDepth 20000 in
theorem gX1_leastKey_X1_castPart : GoodIn wsX1_leastKey (wsV RX1 40 RX1 yX1_castPart wsX1_castPart) := goodIn_app (goodIn_of _ (by decide +kernel)) ggX1_leastKey_X1_castPart
set_option maxRecDepth 20000 in
theorem ggX1_castPart_X6_has : GoodIn wsX1_castPart wsX6_has := goodIn_r _ [6] (by decide +kernel) (by decide +kernel)
set_option maxRecDepth 20000 in
theorem gX1_castPart_X6_has_n44 : GoodIn wsX1_castPart (wsX6_has) := ggX1_castPart_X6_has
set_option maxRecDepth 20000 in
theorem ggX1_castPart_X6_with : GoodIn wsX1_castPart wsX6_with := goodIn_r _ [8] (by decide +kernel) (by decide +kernel)
set_option maxRecDepth 20000 in
theorem gX1_castPart_X6_with_n48 : GoodIn wsX1_castPart (wsX6_with) := ggX1_castPart_X6_with
set_option maxRecDepth 20000 in
theorem ggX1_leastStrain_X1_leastFrom : GoodIn wsX1_leastStrain wsX1_leastFrom := goodIn_r _ [5, 6, 7, 8, 9, 10, 2, 3, 4] (by decide +kernel) (by decide +kernel)
set_option maxRecDepth 20000 in
theorem gX1_leastStrain_X1_leastFrom : GoodIn wsX1_leastStrain (va_wsS RX1 51 yX1_leastFrom wsX1_leastFrom) := goodIn_app (goodIn_of _ (by decide +kernel)) ggX1_leastStrain_X1_leastFrom
set_option maxRecDepth 20000 in
theorem ggX1_leastFrom_X6_has : GoodIn wsX1_leastFrom wsX6_has := goodIn_r _ [3] (by decide +kernel) (by decide +kernel)
set_option maxRecDepth 20000 in
theorem gX1_leastFrom_X6_has_n44 : GoodIn wsX1_leastFrom (wsX6_has) := ggX1_leastFrom_X6_has
set_option maxRecDepth 20000 in
theorem ggX1_leastFrom_X6_with : GoodIn wsX1_leastFrom wsX6_with := goodIn_r _ [5] (by decide +kernel) (by decide +kernel)
set_option maxRecDepth 20000 in
theorem gX1_leastFrom_X6_with_n48 : GoodIn wsX1_leastFrom (wsX6_with) := ggX1_leastFrom_X6_with
set_option maxRecDepth 20000 in
theorem ggX1_leastFrom_X1_leastFrom : GoodIn wsX1_leastFrom wsX1_leastFrom := goodIn_r _ [0, 1, 2, 3, 4, 5, 6, 7, 8] (by decide +kernel) (by decide +kernel)
set_option maxRecDepth 20000 in
theorem gX1_leastFrom_X1_leastFrom : GoodIn wsX1_leastFrom (va_wsS RX1 51 yX1_leastFrom wsX1_leastFrom) := goodIn_app (goodIn_of _ (by decide +kernel)) ggX1_leastFrom_X1_leastFrom
set_option maxRecDepth 20000 in
theorem ggX4_fallIll_X6_has : GoodIn wsX4_fallIll wsX6_has := goodIn_r _ [4] (by decide +kernel) (by decide +kernel)
set_option maxRecDepth 20000 in
theorem gX4_fallIll_X6_has_n21 : GoodIn wsX4_fallIll (wsX6_has) := ggX4_fallIll_X6_has
set_option maxRecDepth 20000 in
theorem ggX4_fallIll_X6_with : GoodIn wsX4_fallIll wsX6_with := goodIn_r _ [6] (by decide +kernel) (by decide +kernel)
set_option maxRecDepth 20000 in
theorem gX4_fallIll_X6_with_n25 : GoodIn wsX4_fallIll (wsX6_with) := ggX4_fallIll_X6_with
set_option maxRecDepth 20000 in
theorem ggX6_init_X4_init : GoodIn wsX6_init wsX4_init := goodIn_r _ [32, 33, 2, 3, 34, 35, 36, 37, 73, 74, 75] (by decide +kernel) (by decide +kernel)
set_option maxRecDepth 20000 in
theorem gX6_init_X4_init : GoodIn wsX6_init (wsX4_init) := ggX6_init_X4_init
set_option maxRecDepth 20000 in
theorem ggX6_init_X3_init : GoodIn wsX6_init wsX3_init := goodIn_r _ [39, 40, 2, 3, 34, 41, 42, 84, 85] (by decide +kernel) (by decide +kernel)
set_option maxRecDepth 20000 in
theorem gX6_init_X3_init_n18 : GoodIn wsX6_init (wsX3_init) := ggX6_init_X3_init
set_option maxRecDepth 20000 in
theorem ggX6_init_X5_init : GoodIn wsX6_init wsX5_init := goodIn_r _ [44, 45, 2, 3, 34, 46, 47, 48, 49, 86, 87, 88, 89] (by decide +kernel) (by decide +kernel)
set_option maxRecDepth 20000 in
theorem gX6_init_X5_init_n25 : GoodIn wsX6_init (wsX5_init) := ggX6_init_X5_init
set_option maxRecDepth 20000 in
theorem ggX6_init_X1_init : GoodIn wsX6_init wsX1_init := goodIn_r _ [52, 53, 2, 3, 34, 54, 55, 56, 90, 91, 92, 93] (by decide +kernel) (by decide +kernel)
set_option maxRecDepth 20000 in
theorem gX6_init_X1_init : GoodIn wsX6_init (wsX1_init) := ggX6_init_X1_init
set_option maxRecDepth 20000 in
theorem ggX6_init_X2_init : GoodIn wsX6_init wsX2_init := goodIn_r _ [59, 60, 2, 3, 34, 61, 62, 63, 94, 95, 96, 97] (by decide +kernel) (by decide +kernel)
set_option maxRecDepth 20000 in
theorem gX6_init_X2_init : GoodIn wsX6_init (wsX2_init) := ggX6_init_X2_init
set_option maxRecDepth 20000 in
theorem ggX6_init_X0_init : GoodIn wsX6_init wsX0_init := goodIn_r _ [65, 66, 2, 3, 34, 67, 68, 69, 70, 71, 72, 98, 99, 100, 101, 102, 103, 104, 105] (by decide +kernel) (by decide +kernel)
set_option maxRecDepth 20000 in
theorem gX6_init_X0_init_n46 : GoodIn wsX6_init (wsX0_init) := ggX6_init_X0_init
set_option maxRecDepth 20000 in
theorem ggX6_setSize_X6_needActor : GoodIn wsX6_setSize wsX6_needActor := goodIn_ca (goodIn_r _ [6, 7, 8] (by decide +kernel) (by decide +kernel)) (goodIn_sub (fun _ h => List.mem_cons_of_mem _ (List.mem_append_left _ (List.mem_append_right _ h))) (by decide +kernel))
set_option maxRecDepth 20000 in
theorem gX6_setSize_X6_needActor : GoodIn wsX6_setSize (va_wsS RX6 65 yX6_needActor wsX6_needActor) := goodIn_app (goodIn_of _ (by decide +kernel)) ggX6_setSize_X6_needActor
set_option maxRecDepth 20000 in
theorem ggX6_setSize_X6_needSize : GoodIn wsX6_setSize wsX6_needSize := goodIn_ca (goodIn_r _ [11, 12, 13] (by decide +kernel) (by decide +kernel)) (goodIn_sub (fun _ h => List.mem_cons_of_mem _ (List.mem_append_right _ h)) (by decide +kernel))
set_option maxRecDepth 20000 in
theorem gX6_setSize_X6_needSize : GoodIn wsX6_setSize (va_wsS RX6 69 yX6_needSize wsX6_needSize) := goodIn_app (goodIn_of _ (by decide +kernel)) ggX6_setSize_X6_needSize
set_option maxRecDepth 20000 in
theorem ggX6_learn_X6_needActor : GoodIn wsX6_learn wsX6_needActor := goodIn_ca (goodIn_r _ [8, 9, 10] (by decide +kernel) (by decide +kernel)) (goodIn_sub (fun _ h => List.mem_cons_of_mem _ (List.mem_append_right _ h)) (by decide +kernel))
set_option maxRecDepth 20000 in
theorem gX6_learn_X6_needActor : GoodIn wsX6_learn (va_wsS RX6 65 yX6_needActor wsX6_needActor) := goodIn_app (goodIn_of _ (by decide +kernel)) ggX6_learn_X6_needActor
set_option maxRecDepth 20000 in
theorem ggX6_learn_X6_needPart : GoodIn wsX6_learn wsX6_needPart := goodIn_ca (goodIn_r _ [13, 9, 10] (by decide +kernel) (by decide +kernel)) (goodIn_sub (fun _ h => List.mem_cons_of_mem _ (List.mem_append_right _ h)) (by decide +kernel))
set_option maxRecDepth 20000 in
theorem gX6_learn_X6_needPart : GoodIn wsX6_learn (va_wsS RX6 76 yX6_needPart wsX6_needPart) := goodIn_app (goodIn_of _ (by decide +kernel)) ggX6_learn_X6_needPart
set_option maxRecDepth 20000 in
theorem ggX6_learn_X6_with : GoodIn wsX6_learn wsX6_with := goodIn_r _ [16] (by decide +kernel) (by decide +kernel)
set_option maxRecDepth 20000 in
theorem gX6_learn_X6_with : GoodIn wsX6_learn (va_wsS RX6 82 yX6_with wsX6_with) := goodIn_app (goodIn_of _ (by decide +kernel)) ggX6_learn_X6_with
set_option maxRecDepth 20000 in
theorem ggX6_learn_X6_without : GoodIn wsX6_learn wsX6_without := goodIn_r _ [19] (by decide +kernel) (by decide +kernel)
set_option maxRecDepth 20000 in
theorem gX6_learn_X6_without : GoodIn wsX6_learn (va_wsS RX6 86 yX6_without wsX6_without) := goodIn_app (goodIn_of _ (by decide +kernel)) ggX6_learn_X6_without
set_option maxRecDepth 20000 in
theorem ggX6_learn_J6_bitCount_0f7a4 : GoodIn wsX6_learn wsJ6_bitCount_0f7a4 := goodIn_r _ [23, 24, 25, 26] (by decide +kernel) (by decide +kernel)
set_option maxRecDepth 20000 in
theorem gX6_learn_J6_bitCount_0f7a4 : GoodIn wsX6_learn (va_wsS RX6 89 yJ6_bitCount_0f7a4 wsJ6_bitCount_0f7a4) := goodIn_app (goodIn_of _ (by decide +kernel)) ggX6_learn_J6_bitCount_0f7a4
set_option maxRecDepth 20000 in
theorem ggX6_put_X6_needPart : GoodIn wsX6_put wsX6_needPart := goodIn_ca (goodIn_r _ [7, 8, 9] (by decide +kernel) (by decide +kernel)) (goodIn_sub (fun _ h => List.mem_cons_of_mem _ (List.mem_append_right _ h)) (by decide +kernel))
set_option maxRecDepth 20000 in
theorem gX6_put_X6_needPart : GoodIn wsX6_put (va_wsS RX6 76 yX6_needPart wsX6_needPart) := goodIn_app (goodIn_of _ (by decide +kernel)) ggX6_put_X6_needPart
set_option maxRecDepth 20000 in
theorem ggX6_put_X6_needActor : GoodIn wsX6_put wsX6_needActor := goodIn_ca (goodIn_r _ [12, 8, 9] (by decide +kernel) (by decide +kernel)) (goodIn_sub (fun _ h => List.mem_cons_of_mem _ (List.mem_append_right _ h)) (by decide +kernel))
set_option maxRecDepth 20000 in
theorem gX6_put_X6_needActor : GoodIn wsX6_put (va_wsS RX6 65 yX6_needActor wsX6_needActor) := goodIn_app (goodIn_of _ (by decide +kernel)) ggX6_put_X6_needActor
set_option maxRecDepth 20000 in
theorem ggX6_put_X3_rankIn : GoodIn wsX6_put wsX3_rankIn := goodIn_r _ [17, 18, 19, 36, 37] (by decide +kernel) (by decide +kernel)
set_option maxRecDepth 20000 in
theorem gX6_put_X3_rankIn : GoodIn wsX6_put (wsV RX6 100 RX3 yX3_rankIn wsX3_rankIn) := goodIn_app (goodIn_of _ (by decide +kernel)) ggX6_put_X3_rankIn
set_option maxRecDepth 20000 in
theorem ggX6_put_X3_isFull : GoodIn wsX6_put wsX3_isFull := goodIn_r _ [23, 18, 36, 37] (by decide +kernel) (by decide +kernel)
set_option maxRecDepth 20000 in
theorem gX6_put_X3_isFull : GoodIn wsX6_put (wsV RX6 105 RX3 yX3_isFull wsX3_isFull) := goodIn_app (goodIn_of _ (by decide +kernel)) ggX6_put_X3_isFull
set_option maxRecDepth 20000 in
theorem ggX6_put_X3_append : GoodIn wsX6_put wsX3_append := goodIn_r _ [27, 18, 19, 36, 37] (by decide +kernel) (by decide +kernel)
set_option maxRecDepth 20000 in
theorem gX6_put_X3_append : GoodIn wsX6_put (wsV RX6 111 RX3 yX3_append wsX3_append) := goodIn_app (goodIn_of _ (by decide +kernel)) ggX6_put_X3_append
set_option maxRecDepth 20000 in
theorem ggX6_take_X6_needPart : GoodIn wsX6_take wsX6_needPart := goodIn_ca (goodIn_r _ [7, 8, 9] (by decide +kernel) (by decide +kernel)) (goodIn_sub (fun _ h => List.mem_cons_of_mem _ (List.mem_append_right _ h)) (by decide +kernel))
set_option maxRecDepth 20000 in
theorem gX6_take_X6_needPart : GoodIn wsX6_take (va_wsS RX6 76 yX6_needPart wsX6_needPart) := goodIn_app (goodIn_of _ (by decide +kernel)) ggX6_take_X6_needPart
set_option maxRecDepth 20000 in
theorem ggX6_take_X6_needActor : GoodIn wsX6_take wsX6_needActor := goodIn_ca (goodIn_r _ [12, 8, 9] (by decide +kernel) (by decide +kernel)) (goodIn_sub (fun _ h => List.mem_cons_of_mem _ (List.mem_append_right _ h)) (by decide +kernel))
set_option maxRecDepth 20000 in
theorem gX6_take_X6_needActor : GoodIn wsX6_take (va_wsS RX6 65 yX6_needActor wsX6_needActor) := goodIn_app (goodIn_of _ (by decide +kernel)) ggX6_take_X6_needActor
set_option maxRecDepth 20000 in
theorem ggX6_take_X3_rankIn : GoodIn wsX6_take wsX3_rankIn := goodIn_r _ [17, 18, 19, 32, 33] (by decide +kernel) (by decide +kernel)
set_option maxRecDepth 20000 in
theorem gX6_take_X3_rankIn : GoodIn wsX6_take (wsV RX6 100 RX3 yX3_rankIn wsX3_rankIn) := goodIn_app (goodIn_of _ (by decide +kernel)) ggX6_take_X3_rankIn
set_option maxRecDepth 20000 in
theorem ggX6_take_X3_remove : GoodIn wsX6_take wsX3_remove := goodIn_r _ [23, 18, 19, 32, 33] (by decide +kernel) (by decide +kernel)
set_option maxRecDepth 20000 in
theorem gX6_take_X3_remove : GoodIn wsX6_take (wsV RX6 116 RX3 yX3_remove wsX3_remove) := goodIn_app (goodIn_of _ (by decide +kernel)) ggX6_take_X3_remove
set_option maxRecDepth 20000 in
theorem ggX6_costume_X6_needPart : GoodIn wsX6_costume wsX6_needPart := goodIn_ca (goodIn_r _ [8, 9, 10] (by decide +kernel) (by decide +kernel)) (goodIn_sub (fun _ h => List.mem_cons_of_mem _ (List.mem_append_left _ (List.mem_append_right _ h))) (by decide +kernel))
set_option maxRecDepth 20000 in
theorem gX6_costume_X6_needPart : GoodIn wsX6_costume (va_wsS RX6 76 yX6_needPart wsX6_needPart) := goodIn_app (goodIn_of _ (by decide +kernel)) ggX6_costume_X6_needPart
set_option maxRecDepth 20000 in
theorem ggX6_costume_X6_needSize : GoodIn wsX6_costume wsX6_needSize := goodIn_ca (goodIn_r _ [13, 14, 15] (by decide +kernel) (by decide +kernel)) (goodIn_sub (fun _ h => List.mem_cons_of_mem _ (List.mem_append_right _ h)) (by decide +kernel))
set_option maxRecDepth 20000 in
theorem gX6_costume_X6_needSize : GoodIn wsX6_costume (va_wsS RX6 69 yX6_needSize wsX6_needSize) := goodIn_app (goodIn_of _ (by decide +kernel)) ggX6_costume_X6_needSize
set_option maxRecDepth 20000 in
theorem ggX6_costume_X5_add : GoodIn wsX6_costume wsX5_add := goodIn_r _ [20, 21, 22, 23, 32, 33, 34, 35] (by decide +kernel) (by decide +kernel)
set_option maxRecDepth 20000 in
theorem gX6_costume_X5_add : GoodIn wsX6_costume (wsV RX6 125 RX5 yX5_add wsX5_add) := goodIn_app (goodIn_of _ (by decide +kernel)) ggX6_costume_X5_add
set_option maxRecDepth 20000 in
theorem ggX6_sizeOf_X6_needOneOf : GoodIn wsX6_sizeOf wsX6_needOneOf := goodIn_ca (goodIn_r _ [7, 8, 9] (by decide +kernel) (by decide +kernel)) (goodIn_sub (fun _ h => List.mem_cons_of_mem _ (List.mem_append_right _ h)) (by decide +kernel))
set_option maxRecDepth 20000 in
theorem gX6_sizeOf_X6_needOneOf : GoodIn wsX6_sizeOf (va_wsS RX6 128 yX6_needOneOf wsX6_needOneOf) := goodIn_app (goodIn_of _ (by decide +kernel)) ggX6_sizeOf_X6_needOneOf
set_option maxRecDepth 20000 in
theorem ggX6_cold_X6_needActor : GoodIn wsX6_cold wsX6_needActor := goodIn_ca (goodIn_r _ [6, 7, 8] (by decide +kernel) (by decide +kernel)) (goodIn_sub (fun _ h => List.mem_cons_of_mem _ (List.mem_append_left _ (List.mem_append_right _ h))) (by decide +kernel))
set_option maxRecDepth 20000 in
theorem gX6_cold_X6_needActor : GoodIn wsX6_cold (va_wsS RX6 65 yX6_needActor wsX6_needActor) := goodIn_app (goodIn_of _ (by decide +kernel)) ggX6_cold_X6_needActor
set_option maxRecDepth 20000 in
theorem ggX6_cold_X6_needDay : GoodIn wsX6_cold wsX6_needDay := goodIn_ca (goodIn_r _ [11, 12, 13] (by decide +kernel) (by decide +kernel)) (goodIn_sub (fun _ h => List.mem_cons_of_mem _ (List.mem_append_right _ h)) (by decide +kernel))
set_option maxRecDepth 20000 in
theorem gX6_cold_X6_needDay : GoodIn wsX6_cold (va_wsS RX6 132 yX6_needDay wsX6_needDay) := goodIn_app (goodIn_of _ (by decide +kernel)) ggX6_cold_X6_needDay
set_option maxRecDepth 20000 in
theorem ggX6_cold_X4_fallIll : GoodIn wsX6_cold wsX4_fallIll := goodIn_r _ [18, 19, 20, 5, 21, 22, 23, 32, 33, 34] (by decide +kernel) (by decide +kernel)
set_option maxRecDepth 20000 in
theorem gX6_cold_X4_fallIll : GoodIn wsX6_cold (wsV RX6 135 RX4 yX4_fallIll wsX4_fallIll) := goodIn_app (goodIn_of _ (by decide +kernel)) ggX6_cold_X4_fallIll
set_option maxRecDepth 20000 in
theorem ggX6_isIll_X6_needActor : GoodIn wsX6_isIll wsX6_needActor := goodIn_ca (goodIn_r _ [6, 7, 8] (by decide +kernel) (by decide +kernel)) (goodIn_sub (fun _ h => List.mem_cons_of_mem _ (List.mem_append_left _ (List.mem_append_right _ h))) (by decide +kernel))
set_option maxRecDepth 20000 in
theorem gX6_isIll_X6_needActor : GoodIn wsX6_isIll (va_wsS RX6 65 yX6_needActor wsX6_needActor) := goodIn_app (goodIn_of _ (by decide +kernel)) ggX6_isIll_X6_needActor
set_option maxRecDepth 20000 in
theorem ggX6_isIll_X6_needDay : GoodIn wsX6_isIll wsX6_needDay := goodIn_ca (goodIn_r _ [11, 12, 13] (by decide +kernel) (by decide +kernel)) (goodIn_sub (fun _ h => List.mem_cons_of_mem _ (List.mem_append_right _ h)) (by decide +kernel))
set_option maxRecDepth 20000 in
theorem gX6_isIll_X6_needDay : GoodIn wsX6_isIll (va_wsS RX6 132 yX6_needDay wsX6_needDay) := goodIn_app (goodIn_of _ (by decide +kernel)) ggX6_isIll_X6_needDay
set_option maxRecDepth 20000 in
theorem ggX6_isIll_X6_has : GoodIn wsX6_isIll wsX6_has := goodIn_r _ [16] (by decide +kernel) (by decide +kernel)
set_option maxRecDepth 20000 in
theorem gX6_isIll_X6_has : GoodIn wsX6_isIll (va_wsS RX6 142 yX6_has wsX6_has) := goodIn_app (goodIn_of _ (by decide +kernel)) ggX6_isIll_X6_has
set_option maxRecDepth 20000 in
theorem ggX6_canPlay_X6_needActor : GoodIn wsX6_canPlay wsX6_needActor := goodIn_ca (goodIn_r _ [7, 8, 9] (by decide +kernel) (by decide +kernel)) (goodIn_sub (fun _ h => List.mem_cons_of_mem _ (List.mem_append_left _ (List.mem_append_right _ h))) (by decide +kernel))
set_option maxRecDepth 20000 in
theorem gX6_canPlay_X6_needActor : GoodIn wsX6_canPlay (va_wsS RX6 65 yX6_needActor wsX6_needActor) := goodIn_app (goodIn_of _ (by decide +kernel)) ggX6_canPlay_X6_needActor
set_option maxRecDepth 20000 in
theorem ggX6_canPlay_X6_needPart : GoodIn wsX6_canPlay wsX6_needPart := goodIn_ca (goodIn_r _ [12, 8, 9] (by decide +kernel) (by decide +kernel)) (goodIn_sub (fun _ h => List.mem_cons_of_mem _ (List.mem_append_left _ (List.mem_append_right _ h))) (by decide +kernel))
set_option maxRecDepth 20000 in
theorem gX6_canPlay_X6_needPart : GoodIn wsX6_canPlay (va_wsS RX6 76 yX6_needPart wsX6_needPart) := goodIn_app (goodIn_of _ (by decide +kernel)) ggX6_canPlay_X6_needPart
set_option maxRecDepth 20000 in
theorem ggX6_canPlay_X6_needDay : GoodIn wsX6_canPlay wsX6_needDay := goodIn_ca (goodIn_r _ [15, 16, 17] (by decide +kernel) (by decide +kernel)) (goodIn_sub (fun _ h => List.mem_cons_of_mem _ (List.mem_append_right _ h)) (by decide +kernel))
set_option maxRecDepth 20000 in
theorem gX6_canPlay_X6_needDay : GoodIn wsX6_canPlay (va_wsS RX6 132 yX6_needDay wsX6_needDay) := goodIn_app (goodIn_of _ (by decide +kernel)) ggX6_canPlay_X6_needDay
set_option maxRecDepth 20000 in
theorem ggX6_canPlay_X3_rankIn : GoodIn wsX6_canPlay wsX3_rankIn := goodIn_r _ [22, 23, 24, 59, 60] (by decide +kernel) (by decide +kernel)
set_option maxRecDepth 20000 in
theorem gX6_canPlay_X3_rankIn : GoodIn wsX6_canPlay (wsV RX6 100 RX3 yX3_rankIn wsX3_rankIn) := goodIn_app (goodIn_of _ (by decide +kernel)) ggX6_canPlay_X3_rankIn
set_option maxRecDepth 20000 in
theorem ggX6_canPlay_X6_isReady : GoodIn wsX6_canPlay wsX6_isReady := goodIn_r _ [28, 2, 29, 30, 31, 32, 33, 6, 34, 35, 36, 37, 38, 39, 40, 41, 42, 43, 44, 45, 46, 47, 48, 49, 50, 51, 52, 53, 54, 55, 56, 57, 58, 61, 62, 63, 64] (by decide +kernel) (by decide +kernel)
set_option maxRecDepth 20000 in
theorem gX6_canPlay_X6_isReady : GoodIn wsX6_canPlay (wsV RX6 146 RX6 yX6_isReady wsX6_isReady) := goodIn_app (goodIn_of _ (by decide +kernel)) ggX6_canPlay_X6_isReady
set_option maxRecDepth 20000 in
theorem ggX6_strain_X6_needDay : GoodIn wsX6_strain wsX6_needDay := goodIn_ca (goodIn_r _ [6, 7, 8] (by decide +kernel) (by decide +kernel)) (goodIn_sub (fun _ h => List.mem_cons_of_mem _ (List.mem_append_right _ h)) (by decide +kernel))
set_option maxRecDepth 20000 in
theorem gX6_strain_X6_needDay : GoodIn wsX6_strain (va_wsS RX6 132 yX6_needDay wsX6_needDay) := goodIn_app (goodIn_of _ (by decide +kernel)) ggX6_strain_X6_needDay
set_option maxRecDepth 20000 in
theorem ggX6_strain_X6_bestCast : GoodIn wsX6_strain wsX6_bestCast := goodIn_r _ [12, 13, 14, 15, 16, 17, 5, 18, 19, 20, 1, 21, 22, 23, 24, 25, 26, 27, 28, 29, 30, 31, 32, 33, 34, 35, 36, 37, 38, 39, 40, 41, 42, 43, 44, 45, 46, 47, 48, 49, 50, 51, 52, 53, 54, 55, 56, 57, 58, 59, 60, 61, 62, 63, 64, 65, 66, 67, 68, 69, 70, 71, 72, 73, 74, 75, 76, 77, 78, 79, 80, 81, 82, 83, 84, 85, 86, 90, 91, 92, 93, 94, 95, 96, 97, 98, 99, 100, 101, 102, 103, 104, 105, 106, 107, 108, 109, 110] (by decide +kernel) (by decide +kernel)
set_option maxRecDepth 20000 in
theorem gX6_strain_X6_bestCast : GoodIn wsX6_strain (wsV RX6 150 RX6 yX6_bestCast wsX6_bestCast) := goodIn_app (goodIn_of _ (by decide +kernel)) ggX6_strain_X6_bestCast
set_option maxRecDepth 20000 in
theorem ggX6_strain_X1_strainOf : GoodIn wsX6_strain wsX1_strainOf := goodIn_r _ [89] (by decide +kernel) (by decide +kernel)
set_option maxRecDepth 20000 in
theorem gX6_strain_X1_strainOf : GoodIn wsX6_strain (va_wsS RX6 153 yX1_strainOf wsX1_strainOf) := goodIn_app (goodIn_of _ (by decide +kernel)) ggX6_strain_X1_strainOf
set_option maxRecDepth 20000 in
theorem ggX6_strainByAll_X6_needDay : GoodIn wsX6_strainByAll wsX6_needDay := goodIn_ca (goodIn_r _ [8, 9, 10] (by decide +kernel) (by decide +kernel)) (goodIn_sub (fun _ h => List.mem_cons_of_mem _ (List.mem_append_right _ h)) (by decide +kernel))
set_option maxRecDepth 20000 in
theorem gX6_strainByAll_X6_needDay : GoodIn wsX6_strainByAll (va_wsS RX6 132 yX6_needDay wsX6_needDay) := goodIn_app (goodIn_of _ (by decide +kernel)) ggX6_strainByAll_X6_needDay
set_option maxRecDepth 20000 in
theorem ggX6_strainByAll_X6_offerActors : GoodIn wsX6_strainByAll wsX6_offerActors := goodIn_r _ [14, 3, 4, 15, 16, 1, 17, 18, 19, 20, 21, 22, 23, 24, 25, 26, 27, 28, 29, 30, 31, 32, 33, 34, 7, 35, 36, 37, 38, 39, 40, 41, 42, 43, 44, 45, 46, 47, 48, 49, 50, 51, 52, 53, 54, 55, 56, 57, 58, 59, 60, 61, 62, 63, 64, 74, 75, 76, 77, 78, 79, 80, 81, 82, 83, 84, 85, 86, 87, 88, 89, 90, 91, 92, 93, 94] (by decide +kernel) (by decide +kernel)
set_option maxRecDepth 20000 in
theorem gX6_strainByAll_X6_offerActors : GoodIn wsX6_strainByAll (wsV RX6 156 RX6 yX6_offerActors wsX6_offerActors) := goodIn_app (goodIn_of _ (by decide +kernel)) ggX6_strainByAll_X6_offerActors
set_option maxRecDepth 20000 in
theorem ggX6_strainByAll_X1_leastStrain : GoodIn wsX6_strainByAll wsX1_leastStrain := goodIn_r _ [68, 23, 69, 70, 21, 71, 38, 7, 39, 72, 73, 85, 86, 87, 88] (by decide +kernel) (by decide +kernel)
set_option maxRecDepth 20000 in
theorem gX6_strainByAll_X1_leastStrain : GoodIn wsX6_strainByAll (wsV RX6 159 RX1 yX1_leastStrain wsX1_leastStrain) := goodIn_app (goodIn_of _ (by decide +kernel)) ggX6_strainByAll_X1_leastStrain
set_option maxRecDepth 20000 in
theorem ggX6_work_X6_needDay : GoodIn wsX6_work wsX6_needDay := goodIn_ca (goodIn_r _ [6, 7, 8] (by decide +kernel) (by decide +kernel)) (goodIn_sub (fun _ h => List.mem_cons_of_mem _ (List.mem_append_right _ h)) (by decide +kernel))
set_option maxRecDepth 20000 in
theorem gX6_work_X6_needDay : GoodIn wsX6_work (va_wsS RX6 132 yX6_needDay wsX6_needDay) := goodIn_app (goodIn_of _ (by decide +kernel)) ggX6_work_X6_needDay
set_option maxRecDepth 20000 in
theorem ggX6_work_X6_bestCast : GoodIn wsX6_work wsX6_bestCast := goodIn_r _ [12, 13, 14, 15, 16, 17, 5, 18, 19, 20, 1, 21, 22, 23, 24, 25, 26, 27, 28, 29, 30, 31, 32, 33, 34, 35, 36, 37, 38, 39, 40, 41, 42, 43, 44, 45, 46, 47, 48, 49, 50, 51, 52, 53, 54, 55, 56, 57, 58, 59, 60, 61, 62, 63, 64, 65, 66, 67, 68, 69, 70, 71, 72, 73, 74, 75, 76, 77, 78, 79, 80, 81, 82, 83, 84, 85, 86, 90, 91, 92, 93, 94, 95, 96, 97, 98, 99, 100, 101, 102, 103, 104, 105, 106, 107, 108, 109, 110] (by decide +kernel) (by decide +kernel)
set_option maxRecDepth 20000 in
theorem gX6_work_X6_bestCast : GoodIn wsX6_work (wsV RX6 150 RX6 yX6_bestCast wsX6_bestCast) := goodIn_app (goodIn_of _ (by decide +kernel)) ggX6_work_X6_bestCast
set_option maxRecDepth 20000 in
theorem ggX6_work_X1_workOf : GoodIn wsX6_work wsX1_workOf := goodIn_r _ [89] (by decide +kernel) (by decide +kernel)
set_option maxRecDepth 20000 in
theorem gX6_work_X1_workOf : GoodIn wsX6_work (va_wsS RX6 162 yX1_workOf wsX1_workOf) := goodIn_app (goodIn_of _ (by decide +kernel)) ggX6_work_X1_workOf
set_option maxRecDepth 20000 in
theorem ggX6_actorFor_X6_needPart : GoodIn wsX6_actorFor wsX6_needPart := goodIn_ca (goodIn_r _ [7, 8, 9] (by decide +kernel) (by decide +kernel)) (goodIn_sub (fun _ h => List.mem_cons_of_mem _ (List.mem_append_left _ (List.mem_append_right _ h))) (by decide +kernel))
set_option maxRecDepth 20000 in
theorem gX6_actorFor_X6_needPart : GoodIn wsX6_actorFor (va_wsS RX6 76 yX6_needPart wsX6_needPart) := goodIn_app (goodIn_of _ (by decide +kernel)) ggX6_actorFor_X6_needPart
set_option maxRecDepth 20000 in
theorem ggX6_actorFor_X6_needDay : GoodIn wsX6_actorFor wsX6_needDay := goodIn_ca (goodIn_r _ [12, 13, 14] (by decide +kernel) (by decide +kernel)) (goodIn_sub (fun _ h => List.mem_cons_of_mem _ (List.mem_append_right _ h)) (by decide +kernel))
set_option maxRecDepth 20000 in
theorem gX6_actorFor_X6_needDay : GoodIn wsX6_actorFor (va_wsS RX6 132 yX6_needDay wsX6_needDay) := goodIn_app (goodIn_of _ (by decide +kernel)) ggX6_actorFor_X6_needDay
set_option maxRecDepth 20000 in
theorem ggX6_actorFor_X6_bestCast : GoodIn wsX6_actorFor wsX6_bestCast := goodIn_r _ [18, 19, 3, 20, 21, 22, 6, 23, 24, 25, 1, 26, 27, 28, 29, 30, 31, 32, 33, 34, 35, 36, 37, 38, 39, 40, 41, 42, 43, 44, 45, 46, 47, 48, 49, 50, 51, 52, 53, 54, 55, 56, 57, 58, 59, 60, 61, 62, 63, 64, 65, 66, 67, 68, 69, 70, 71, 72, 73, 74, 75, 76, 77, 78, 79, 80, 81, 82, 83, 84, 85, 86, 87, 88, 89, 90, 91, 99, 100, 101, 102, 103, 104, 105, 106, 107, 108, 109, 110, 111, 112, 113, 114, 115, 116, 117, 118, 119] (by decide +kernel) (by decide +kernel)
set_option maxRecDepth 20000 in
theorem gX6_actorFor_X6_bestCast : GoodIn wsX6_actorFor (wsV RX6 150 RX6 yX6_bestCast wsX6_bestCast) := goodIn_app (goodIn_of _ (by decide +kernel)) ggX6_actorFor_X6_bestCast
set_option maxRecDepth 20000 in
theorem ggX6_actorFor_X6_actorIn : GoodIn wsX6_actorFor wsX6_actorIn := goodIn_r _ [95, 24, 96, 97, 30, 98, 71, 72, 73, 34, 35, 36, 37, 38, 39, 40, 99, 100, 101, 102, 103, 104, 105, 106, 114, 115] (by decide +kernel) (by decide +kernel)
set_option maxRecDepth 20000 in
theorem gX6_actorFor_X6_actorIn : GoodIn wsX6_actorFor (wsV RX6 165 RX6 yX6_actorIn wsX6_actorIn) := goodIn_app (goodIn_of _ (by decide +kernel)) ggX6_actorFor_X6_actorIn
set_option maxRecDepth 20000 in
theorem ggX6_chain_X6_needActor : GoodIn wsX6_chain wsX6_needActor := goodIn_ca (goodIn_r _ [6, 7, 8] (by decide +kernel) (by decide +kernel)) (goodIn_sub (fun _ h => List.mem_cons_of_mem _ (List.mem_append_left _ (List.mem_append_right _ h))) (by decide +kernel))
set_option maxRecDepth 20000 in
theorem gX6_chain_X6_needActor : GoodIn wsX6_chain (va_wsS RX6 65 yX6_needActor wsX6_needActor) := goodIn_app (goodIn_of _ (by decide +kernel)) ggX6_chain_X6_needActor
set_option maxRecDepth 20000 in
theorem ggX6_chain_X6_needDay : GoodIn wsX6_chain wsX6_needDay := goodIn_ca (goodIn_r _ [11, 12, 13] (by decide +kernel) (by decide +kernel)) (goodIn_sub (fun _ h => List.mem_cons_of_mem _ (List.mem_append_right _ h)) (by decide +kernel))
set_option maxRecDepth 20000 in
theorem gX6_chain_X6_needDay : GoodIn wsX6_chain (va_wsS RX6 132 yX6_needDay wsX6_needDay) := goodIn_app (goodIn_of _ (by decide +kernel)) ggX6_chain_X6_needDay
set_option maxRecDepth 20000 in
theorem ggX6_chain_X6_bestCast : GoodIn wsX6_chain wsX6_bestCast := goodIn_r _ [17, 18, 19, 20, 21, 22, 5, 23, 24, 25, 1, 26, 27, 28, 29, 30, 31, 32, 33, 34, 35, 36, 37, 38, 39, 40, 41, 42, 43, 44, 45, 46, 47, 48, 49, 50, 51, 52, 53, 54, 55, 56, 57, 58, 59, 60, 61, 62, 63, 64, 65, 66, 67, 68, 69, 70, 71, 72, 73, 74, 75, 76, 77, 78, 79, 80, 81, 82, 83, 84, 85, 86, 87, 88, 89, 90, 91, 104, 105, 106, 107, 108, 109, 110, 111, 112, 113, 114, 115, 116, 117, 118, 119, 120, 121, 122, 123, 124] (by decide +kernel) (by decide +kernel)
set_option maxRecDepth 20000 in
theorem gX6_chain_X6_bestCast : GoodIn wsX6_chain (wsV RX6 150 RX6 yX6_bestCast wsX6_bestCast) := goodIn_app (goodIn_of _ (by decide +kernel)) ggX6_chain_X6_bestCast
set_option maxRecDepth 20000 in
theorem ggX6_chain_X6_with : GoodIn wsX6_chain wsX6_with := goodIn_r _ [91] (by decide +kernel) (by decide +kernel)
set_option maxRecDepth 20000 in
theorem gX6_chain_X6_with : GoodIn wsX6_chain (va_wsS RX6 82 yX6_with wsX6_with) := goodIn_app (goodIn_of _ (by decide +kernel)) ggX6_chain_X6_with
set_option maxRecDepth 20000 in
theorem ggX6_chain_X6_countOthers : GoodIn wsX6_chain wsX6_countOthers := goodIn_r _ [96, 19, 97, 98, 99, 5, 100, 24, 101, 102, 30, 103, 71, 72, 73, 34, 35, 36, 37, 38, 39, 40, 104, 105, 106, 107, 108, 109, 110, 111, 119, 120] (by decide +kernel) (by decide +kernel)
set_option maxRecDepth 20000 in
theorem gX6_chain_X6_countOthers : GoodIn wsX6_chain (wsV RX6 168 RX6 yX6_countOthers wsX6_countOthers) := goodIn_app (goodIn_of _ (by decide +kernel)) ggX6_chain_X6_countOthers
set_option maxRecDepth 20000 in
theorem ggX6_show_X6_needDay : GoodIn wsX6_show wsX6_needDay := goodIn_ca (goodIn_r _ [9, 10, 11] (by decide +kernel) (by decide +kernel)) (goodIn_sub (fun _ h => List.mem_cons_of_mem _ (List.mem_append_right _ h)) (by decide +kernel))
set_option maxRecDepth 20000 in
theorem gX6_show_X6_needDay : GoodIn wsX6_show (va_wsS RX6 132 yX6_needDay wsX6_needDay) := goodIn_app (goodIn_of _ (by decide +kernel)) ggX6_show_X6_needDay
set_option maxRecDepth 20000 in
theorem ggX6_show_X2_showOn : GoodIn wsX6_show wsX2_showOn := goodIn_r _ [16, 17, 18, 32, 33, 34, 35] (by decide +kernel) (by decide +kernel)
set_option maxRecDepth 20000 in
theorem gX6_show_X2_showOn : GoodIn wsX6_show (wsV RX6 171 RX2 yX2_showOn wsX2_showOn) := goodIn_app (goodIn_of _ (by decide +kernel)) ggX6_show_X2_showOn
set_option maxRecDepth 20000 in
theorem ggX6_show_X2_add : GoodIn wsX6_show wsX2_add := goodIn_r _ [22, 18, 17, 23, 32, 33, 34, 35] (by decide +kernel) (by decide +kernel)
set_option maxRecDepth 20000 in
theorem gX6_show_X2_add : GoodIn wsX6_show (wsV RX6 179 RX2 yX2_add wsX2_add) := goodIn_app (goodIn_of _ (by decide +kernel)) ggX6_show_X2_add
set_option maxRecDepth 20000 in
theorem ggX6_sell_X6_needOneOf : GoodIn wsX6_sell wsX6_needOneOf := goodIn_ca (goodIn_r _ [14, 15, 16] (by decide +kernel) (by decide +kernel)) (goodIn_sub (fun _ h => List.mem_cons_of_mem _ (List.mem_append_right _ h)) (by decide +kernel))
set_option maxRecDepth 20000 in
theorem gX6_sell_X6_needOneOf : GoodIn wsX6_sell (va_wsS RX6 128 yX6_needOneOf wsX6_needOneOf) := goodIn_app (goodIn_of _ (by decide +kernel)) ggX6_sell_X6_needOneOf
set_option maxRecDepth 20000 in
theorem ggX6_sell_X6_needPart : GoodIn wsX6_sell wsX6_needPart := goodIn_ca (goodIn_r _ [19, 15, 16] (by decide +kernel) (by decide +kernel)) (goodIn_sub (fun _ h => List.mem_cons_of_mem _ (List.mem_append_right _ h)) (by decide +kernel))
set_option maxRecDepth 20000 in
theorem gX6_sell_X6_needPart : GoodIn wsX6_sell (va_wsS RX6 76 yX6_needPart wsX6_needPart) := goodIn_app (goodIn_of _ (by decide +kernel)) ggX6_sell_X6_needPart
set_option maxRecDepth 20000 in
theorem ggX6_sell_X3_actorAt : GoodIn wsX6_sell wsX3_actorAt := goodIn_r _ [24, 25, 26, 59, 60] (by decide +kernel) (by decide +kernel)
set_option maxRecDepth 20000 in
theorem gX6_sell_X3_actorAt : GoodIn wsX6_sell (wsV RX6 193 RX3 yX3_actorAt wsX3_actorAt) := goodIn_app (goodIn_of _ (by decide +kernel)) ggX6_sell_X3_actorAt
set_option maxRecDepth 20000 in
theorem ggX6_sell_X0_add : GoodIn wsX6_sell wsX0_add := goodIn_r _ [31, 32, 33, 34, 35, 36, 37, 38, 51, 52, 53, 54, 55, 56, 57, 58] (by decide +kernel) (by decide +kernel)
set_option maxRecDepth 20000 in
theorem gX6_sell_X0_add : GoodIn wsX6_sell (wsV RX6 198 RX0 yX0_add wsX0_add) := goodIn_app (goodIn_of _ (by decide +kernel)) ggX6_sell_X0_add
set_option maxRecDepth 20000 in
theorem ggX6_play_X2_showOn : GoodIn wsX6_play wsX2_showOn := goodIn_r _ [9, 10, 11, 147, 148, 149, 150] (by decide +kernel) (by decide +kernel)
set_option maxRecDepth 20000 in
theorem gX6_play_X2_showOn : GoodIn wsX6_play (wsV RX6 171 RX2 yX2_showOn wsX2_showOn) := goodIn_app (goodIn_of _ (by decide +kernel)) ggX6_play_X2_showOn
set_option maxRecDepth 20000 in
theorem ggX6_play_X6_perform : GoodIn wsX6_play wsX6_perform := goodIn_r _ [16, 17, 18, 3, 4, 19, 20, 21, 22, 23, 24, 15, 25, 26, 27, 28, 29, 30, 31, 32, 33, 34, 35, 36, 37, 38, 39, 40, 41, 42, 43, 44, 45, 46, 47, 48, 49, 50, 51, 52, 53, 54, 55, 56, 57, 58, 59, 60, 61, 62, 63, 64, 65, 66, 67, 68, 69, 70, 71, 72, 73, 74, 75, 76, 77, 78, 79, 80, 81, 82, 83, 84, 85, 86, 87, 88, 89, 90, 91, 92, 93, 94, 95, 96, 97, 98, 99, 100, 101, 102, 103, 104, 105, 106, 107, 108, 109, 110, 111, 112, 113, 114, 115, 116, 117, 118, 119, 120, 121, 122, 123, 124, 125, 126, 127, 128, 129, 130, 131, 132, 133, 134, 135, 136, 137, 138, 139, 140, 141, 142, 143, 144, 145, 146, 151, 152, 153, 147, 148, 149, 150, 154, 155, 156, 157, 158, 159, 160, 161, 162, 163, 164, 165, 166, 167, 168, 169, 170, 171] (by decide +kernel) (by decide +kernel)
set_option maxRecDepth 20000 in
theorem gX6_play_X6_perform : GoodIn wsX6_play (wsV RX6 203 RX6 yX6_perform wsX6_perform) := goodIn_app (goodIn_of _ (by decide +kernel)) ggX6_play_X6_perform
set_option maxRecDepth 20000 in
theorem ggX6_stateOf_X6_needOneOf : GoodIn wsX6_stateOf wsX6_needOneOf := goodIn_ca (goodIn_r _ [7, 8, 9] (by decide +kernel) (by decide +kernel)) (goodIn_sub (fun _ h => List.mem_cons_of_mem _ (List.mem_append_right _ h)) (by decide +kernel))
set_option maxRecDepth 20000 in
theorem gX6_stateOf_X6_needOneOf : GoodIn wsX6_stateOf (va_wsS RX6 128 yX6_needOneOf wsX6_needOneOf) := goodIn_app (goodIn_of _ (by decide +kernel)) ggX6_stateOf_X6_needOneOf
set_option maxRecDepth 20000 in
theorem ggX6_played_X6_needOneOf : GoodIn wsX6_played wsX6_needOneOf := goodIn_ca (goodIn_r _ [7, 8, 9] (by decide +kernel) (by decide +kernel)) (goodIn_sub (fun _ h => List.mem_cons_of_mem _ (List.mem_append_right _ h)) (by decide +kernel))
set_option maxRecDepth 20000 in
theorem gX6_played_X6_needOneOf : GoodIn wsX6_played (va_wsS RX6 128 yX6_needOneOf wsX6_needOneOf) := goodIn_app (goodIn_of _ (by decide +kernel)) ggX6_played_X6_needOneOf
set_option maxRecDepth 20000 in
theorem ggX6_played_X6_needPart : GoodIn wsX6_played wsX6_needPart := goodIn_ca (goodIn_r _ [12, 8, 9] (by decide +kernel) (by decide +kernel)) (goodIn_sub (fun _ h => List.mem_cons_of_mem _ (List.mem_append_right _ h)) (by decide +kernel))
set_option maxRecDepth 20000 in
theorem gX6_played_X6_needPart : GoodIn wsX6_played (va_wsS RX6 76 yX6_needPart wsX6_needPart) := goodIn_app (goodIn_of _ (by decide +kernel)) ggX6_played_X6_needPart
set_option maxRecDepth 20000 in
theorem ggX6_refund_X6_needOneOf : GoodIn wsX6_refund wsX6_needOneOf := goodIn_ca (goodIn_r _ [7, 8, 9] (by decide +kernel) (by decide +kernel)) (goodIn_sub (fun _ h => List.mem_cons_of_mem _ (List.mem_append_right _ h)) (by decide +kernel))
set_option maxRecDepth 20000 in
theorem gX6_refund_X6_needOneOf : GoodIn wsX6_refund (va_wsS RX6 128 yX6_needOneOf wsX6_needOneOf) := goodIn_app (goodIn_of _ (by decide +kernel)) ggX6_refund_X6_needOneOf
set_option maxRecDepth 20000 in
theorem ggX6_isReady_X6_has : GoodIn wsX6_isReady wsX6_has := goodIn_r _ [8] (by decide +kernel) (by decide +kernel)
set_option maxRecDepth 20000 in
theorem gX6_isReady_X6_has : GoodIn wsX6_isReady (va_wsS RX6 142 yX6_has wsX6_has) := goodIn_app (goodIn_of _ (by decide +kernel)) ggX6_isReady_X6_has
set_option maxRecDepth 20000 in
theorem ggX6_isReady_X5_lowestFitting : GoodIn wsX6_isReady wsX5_lowestFitting := goodIn_r _ [13, 14, 15, 16, 33, 34, 35, 36] (by decide +kernel) (by decide +kernel)
set_option maxRecDepth 20000 in
theorem gX6_isReady_X5_lowestFitting : GoodIn wsX6_isReady (wsV RX6 228 RX5 yX5_lowestFitting wsX5_lowestFitting) := goodIn_app (goodIn_of _ (by decide +kernel)) ggX6_isReady_X5_lowestFitting
set_option maxRecDepth 20000 in
theorem ggX6_isReady_X5_lowestToLetOut : GoodIn wsX6_isReady wsX5_lowestToLetOut := goodIn_r _ [20, 14, 15, 16, 21, 33, 34, 35, 36] (by decide +kernel) (by decide +kernel)
set_option maxRecDepth 20000 in
theorem gX6_isReady_X5_lowestToLetOut : GoodIn wsX6_isReady (wsV RX6 231 RX5 yX5_lowestToLetOut wsX5_lowestToLetOut) := goodIn_app (goodIn_of _ (by decide +kernel)) ggX6_isReady_X5_lowestToLetOut
set_option maxRecDepth 20000 in
theorem ggX6_offerActors_X1_clear : GoodIn wsX6_offerActors wsX1_clear := goodIn_r _ [11, 12, 13, 66, 67, 68, 69] (by decide +kernel) (by decide +kernel)
set_option maxRecDepth 20000 in
theorem gX6_offerActors_X1_clear : GoodIn wsX6_offerActors (wsV RX6 234 RX1 yX1_clear wsX1_clear) := goodIn_app (goodIn_of _ (by decide +kernel)) ggX6_offerActors_X1_clear
set_option maxRecDepth 20000 in
theorem ggX6_offerActors_X3_actorAt : GoodIn wsX6_offerActors wsX3_actorAt := goodIn_r _ [18, 19, 20, 70, 71] (by decide +kernel) (by decide +kernel)
set_option maxRecDepth 20000 in
theorem gX6_offerActors_X3_actorAt : GoodIn wsX6_offerActors (wsV RX6 193 RX3 yX3_actorAt wsX3_actorAt) := goodIn_app (goodIn_of _ (by decide +kernel)) ggX6_offerActors_X3_actorAt
set_option maxRecDepth 20000 in
theorem ggX6_offerActors_X6_isReady : GoodIn wsX6_offerActors wsX6_isReady := goodIn_r _ [25, 5, 6, 26, 4, 27, 28, 24, 29, 30, 31, 32, 33, 34, 35, 36, 37, 38, 39, 40, 41, 42, 55, 56, 57, 58, 59, 60, 61, 62, 63, 64, 65, 72, 73, 74, 75] (by decide +kernel) (by decide +kernel)
set_option maxRecDepth 20000 in
theorem gX6_offerActors_X6_isReady : GoodIn wsX6_offerActors (wsV RX6 146 RX6 yX6_isReady wsX6_isReady) := goodIn_app (goodIn_of _ (by decide +kernel)) ggX6_offerActors_X6_isReady
set_option maxRecDepth 20000 in
theorem ggX6_offerActors_X5_lowestFitting : GoodIn wsX6_offerActors wsX5_lowestFitting := goodIn_r _ [34, 35, 36, 37, 72, 73, 74, 75] (by decide +kernel) (by decide +kernel)
set_option maxRecDepth 20000 in
theorem gX6_offerActors_X5_lowestFitting : GoodIn wsX6_offerActors (wsV RX6 228 RX5 yX5_lowestFitting wsX5_lowestFitting) := goodIn_app (goodIn_of _ (by decide +kernel)) ggX6_offerActors_X5_lowestFitting
set_option maxRecDepth 20000 in
theorem ggX6_offerActors_X1_offer : GoodIn wsX6_offerActors wsX1_offer := goodIn_r _ [46, 12, 47, 13, 48, 49, 50, 51, 52, 53, 10, 54, 66, 67, 68, 69] (by decide +kernel) (by decide +kernel)
set_option maxRecDepth 20000 in
theorem gX6_offerActors_X1_offer : GoodIn wsX6_offerActors (wsV RX6 237 RX1 yX1_offer wsX1_offer) := goodIn_app (goodIn_of _ (by decide +kernel)) ggX6_offerActors_X1_offer
set_option maxRecDepth 20000 in
theorem ggX6_bestCast_X6_offerActors : GoodIn wsX6_bestCast wsX6_offerActors := goodIn_r _ [7, 1, 2, 8, 9, 10, 11, 12, 13, 14, 15, 16, 17, 18, 19, 20, 21, 22, 23, 24, 25, 26, 27, 28, 6, 29, 30, 31, 32, 33, 34, 35, 36, 37, 38, 39, 40, 41, 42, 43, 44, 45, 46, 47, 48, 49, 50, 51, 52, 53, 54, 55, 56, 57, 58, 77, 78, 79, 80, 81, 82, 83, 84, 85, 86, 87, 88, 89, 90, 91, 92, 93, 94, 95, 96, 97] (by decide +kernel) (by decide +kernel)
set_option maxRecDepth 20000 in
theorem gX6_bestCast_X6_offerActors : GoodIn wsX6_bestCast (wsV RX6 156 RX6 yX6_offerActors wsX6_offerActors) := goodIn_app (goodIn_of _ (by decide +kernel)) ggX6_bestCast_X6_offerActors
set_option maxRecDepth 20000 in
theorem ggX6_bestCast_X1_leastKey : GoodIn wsX6_bestCast wsX1_leastKey := goodIn_r _ [62, 63, 18, 64, 65, 66, 67, 68, 69, 70, 71, 72, 73, 15, 74, 17, 51, 32, 6, 33, 75, 76, 88, 89, 90, 91] (by decide +kernel) (by decide +kernel)
set_option maxRecDepth 20000 in
theorem gX6_bestCast_X1_leastKey : GoodIn wsX6_bestCast (wsV RX6 241 RX1 yX1_leastKey wsX1_leastKey) := goodIn_app (goodIn_of _ (by decide +kernel)) ggX6_bestCast_X1_leastKey
set_option maxRecDepth 20000 in
theorem ggX6_actorIn_X1_rankOf : GoodIn wsX6_actorIn wsX1_rankOf := goodIn_r _ [5, 6, 7, 4, 8] (by decide +kernel) (by decide +kernel)
set_option maxRecDepth 20000 in
theorem gX6_actorIn_X1_rankOf : GoodIn wsX6_actorIn (va_wsS RX6 244 yX1_rankOf wsX1_rankOf) := goodIn_app (goodIn_of _ (by decide +kernel)) ggX6_actorIn_X1_rankOf
set_option maxRecDepth 20000 in
theorem ggX6_actorIn_X3_actorAt : GoodIn wsX6_actorIn wsX3_actorAt := goodIn_r _ [13, 14, 15, 24, 25] (by decide +kernel) (by decide +kernel)
set_option maxRecDepth 20000 in
theorem gX6_actorIn_X3_actorAt : GoodIn wsX6_actorIn (wsV RX6 193 RX3 yX3_actorAt wsX3_actorAt) := goodIn_app (goodIn_of _ (by decide +kernel)) ggX6_actorIn_X3_actorAt
set_option maxRecDepth 20000 in
theorem ggX6_countOthers_X6_actorIn : GoodIn wsX6_countOthers wsX6_actorIn := goodIn_r _ [6, 7, 8, 9, 10, 11, 12, 13, 14, 15, 16, 17, 18, 19, 20, 21, 22, 23, 24, 25, 26, 27, 28, 29, 30, 31] (by decide +kernel) (by decide +kernel)
set_option maxRecDepth 20000 in
theorem gX6_countOthers_X6_actorIn : GoodIn wsX6_countOthers (wsV RX6 165 RX6 yX6_actorIn wsX6_actorIn) := goodIn_app (goodIn_of _ (by decide +kernel)) ggX6_countOthers_X6_actorIn
set_option maxRecDepth 20000 in
theorem ggX6_perform_X6_bestCast : GoodIn wsX6_perform wsX6_bestCast := goodIn_r _ [12, 13, 6, 14, 15, 16, 11, 17, 18, 19, 1, 20, 21, 22, 23, 24, 25, 26, 27, 28, 29, 30, 31, 32, 33, 34, 35, 36, 37, 38, 39, 40, 41, 42, 43, 44, 45, 46, 47, 48, 49, 50, 51, 52, 53, 54, 55, 56, 57, 58, 59, 60, 61, 62, 63, 64, 65, 66, 67, 68, 69, 70, 71, 72, 73, 74, 75, 76, 77, 78, 79, 80, 81, 82, 83, 84, 85, 126, 127, 128, 129, 130, 131, 132, 133, 134, 135, 136, 141, 142, 143, 144, 145, 146, 147, 148, 149, 150] (by decide +kernel) (by decide +kernel)
set_option maxRecDepth 20000 in
theorem gX6_perform_X6_bestCast : GoodIn wsX6_perform (wsV RX6 150 RX6 yX6_bestCast wsX6_bestCast) := goodIn_app (goodIn_of _ (by decide +kernel)) ggX6_perform_X6_bestCast
set_option maxRecDepth 20000 in
theorem ggX6_perform_X6_actorIn : GoodIn wsX6_perform wsX6_actorIn := goodIn_r _ [89, 18, 90, 91, 24, 92, 65, 66, 67, 28, 29, 30, 31, 32, 33, 34, 126, 127, 128, 129, 130, 131, 132, 133, 145, 146] (by decide +kernel) (by decide +kernel)
set_option maxRecDepth 20000 in
theorem gX6_perform_X6_actorIn : GoodIn wsX6_perform (wsV RX6 165 RX6 yX6_actorIn wsX6_actorIn) := goodIn_app (goodIn_of _ (by decide +kernel)) ggX6_perform_X6_actorIn
set_option maxRecDepth 20000 in
theorem ggX6_perform_X6_dress : GoodIn wsX6_perform wsX6_dress := goodIn_r _ [96, 1, 20, 19, 43, 44, 45, 46, 47, 48, 49, 50, 51, 52, 53, 54, 55, 97, 98, 99, 100, 126, 127, 128, 129, 130, 131, 132, 133, 134, 135, 136, 147, 148, 149, 150] (by decide +kernel) (by decide +kernel)
set_option maxRecDepth 20000 in
theorem gX6_perform_X6_dress : GoodIn wsX6_perform (wsV RX6 247 RX6 yX6_dress wsX6_dress) := goodIn_app (goodIn_of _ (by decide +kernel)) ggX6_perform_X6_dress
set_option maxRecDepth 20000 in
theorem ggX6_perform_X6_refundSeats : GoodIn wsX6_perform wsX6_refundSeats := goodIn_r _ [104, 105, 106, 107, 108, 109, 110, 11, 111, 112, 6, 113, 114, 86, 87, 88, 89, 18, 90, 91, 24, 92, 65, 66, 67, 28, 29, 30, 31, 32, 33, 34, 115, 116, 117, 118, 119, 120, 121, 122, 123, 124, 125, 126, 127, 128, 129, 130, 131, 132, 133, 151, 152, 153, 154, 155, 156, 157, 158, 145, 146] (by decide +kernel) (by decide +kernel)
set_option maxRecDepth 20000 in
theorem gX6_perform_X6_refundSeats : GoodIn wsX6_perform (wsV RX6 250 RX6 yX6_refundSeats wsX6_refundSeats) := goodIn_app (goodIn_of _ (by decide +kernel)) ggX6_perform_X6_refundSeats
set_option maxRecDepth 20000 in
theorem ggX6_dress_X5_lowestFitting : GoodIn wsX6_dress wsX5_lowestFitting := goodIn_r _ [8, 9, 10, 11, 32, 33, 34, 35] (by decide +kernel) (by decide +kernel)
set_option maxRecDepth 20000 in
theorem gX6_dress_X5_lowestFitting : GoodIn wsX6_dress (wsV RX6 228 RX5 yX5_lowestFitting wsX5_lowestFitting) := goodIn_app (goodIn_of _ (by decide +kernel)) ggX6_dress_X5_lowestFitting
set_option maxRecDepth 20000 in
theorem ggX6_dress_X5_lowestToLetOut : GoodIn wsX6_dress wsX5_lowestToLetOut := goodIn_r _ [15, 9, 10, 11, 16, 32, 33, 34, 35] (by decide +kernel) (by decide +kernel)
set_option maxRecDepth 20000 in
theorem gX6_dress_X5_lowestToLetOut : GoodIn wsX6_dress (wsV RX6 231 RX5 yX5_lowestToLetOut wsX5_lowestToLetOut) := goodIn_app (goodIn_of _ (by decide +kernel)) ggX6_dress_X5_lowestToLetOut
set_option maxRecDepth 20000 in
theorem ggX6_dress_X5_letOut : GoodIn wsX6_dress wsX5_letOut := goodIn_r _ [20, 11, 16, 32, 33, 34, 35] (by decide +kernel) (by decide +kernel)
set_option maxRecDepth 20000 in
theorem gX6_dress_X5_letOut : GoodIn wsX6_dress (wsV RX6 253 RX5 yX5_letOut wsX5_letOut) := goodIn_app (goodIn_of _ (by decide +kernel)) ggX6_dress_X5_letOut
set_option maxRecDepth 20000 in
theorem ggX6_refundSeats_X6_shareBack : GoodIn wsX6_refundSeats wsX6_shareBack := goodIn_r _ [8, 1, 9, 10, 11, 12, 13, 14, 15, 7, 16, 17, 18, 19, 20, 21, 22, 23, 24, 25, 26, 27, 28, 29, 30, 31, 32, 33, 34, 43, 44, 45, 46, 47, 48, 49, 50, 51, 52, 53, 54, 55, 56, 57, 58, 59, 60] (by decide +kernel) (by decide +kernel)
set_option maxRecDepth 20000 in
theorem gX6_refundSeats_X6_shareBack : GoodIn wsX6_refundSeats (wsV RX6 259 RX6 yX6_shareBack wsX6_shareBack) := goodIn_app (goodIn_of _ (by decide +kernel)) ggX6_refundSeats_X6_shareBack
set_option maxRecDepth 20000 in
theorem ggX6_refundSeats_X0_giveBack : GoodIn wsX6_refundSeats wsX0_giveBack := goodIn_r _ [39, 40, 41, 42, 51, 52, 53, 54, 55, 56, 57, 58] (by decide +kernel) (by decide +kernel)
set_option maxRecDepth 20000 in
theorem gX6_refundSeats_X0_giveBack : GoodIn wsX6_refundSeats (wsV RX6 262 RX0 yX0_giveBack wsX0_giveBack) := goodIn_app (goodIn_of _ (by decide +kernel)) ggX6_refundSeats_X0_giveBack
set_option maxRecDepth 20000 in
theorem ggX6_shareBack_X6_actorIn : GoodIn wsX6_shareBack wsX6_actorIn := goodIn_r _ [10, 11, 12, 13, 14, 15, 16, 17, 18, 19, 20, 21, 22, 23, 24, 25, 29, 30, 31, 32, 33, 34, 35, 36, 45, 46] (by decide +kernel) (by decide +kernel)
set_option maxRecDepth 20000 in
theorem gX6_shareBack_X6_actorIn : GoodIn wsX6_shareBack (wsV RX6 165 RX6 yX6_actorIn wsX6_actorIn) := goodIn_app (goodIn_of _ (by decide +kernel)) ggX6_shareBack_X6_actorIn
set_option maxRecDepth 20000 in
theorem ggX6_shareBack_X1_strainOf : GoodIn wsX6_shareBack wsX1_strainOf := goodIn_r _ [28] (by decide +kernel) (by decide +kernel)
set_option maxRecDepth 20000 in
theorem gX6_shareBack_X1_strainOf : GoodIn wsX6_shareBack (va_wsS RX6 153 yX1_strainOf wsX1_strainOf) := goodIn_app (goodIn_of _ (by decide +kernel)) ggX6_shareBack_X1_strainOf
set_option maxRecDepth 20000 in
theorem ggX6_shareBack_X1_rankOf : GoodIn wsX6_shareBack wsX1_rankOf := goodIn_r _ [15, 16, 17, 14, 18] (by decide +kernel) (by decide +kernel)
set_option maxRecDepth 20000 in
theorem gX6_shareBack_X1_rankOf : GoodIn wsX6_shareBack (va_wsS RX6 244 yX1_rankOf wsX1_rankOf) := goodIn_app (goodIn_of _ (by decide +kernel)) ggX6_shareBack_X1_rankOf
set_option maxRecDepth 20000 in
theorem ggX7_isActor_X7_in : GoodIn wsX7_isActor wsX7_in := goodIn_r _ [4] (by decide +kernel) (by decide +kernel)
set_option maxRecDepth 20000 in
theorem gX7_isActor_X7_in : GoodIn wsX7_isActor (va_wsS RX7 77 yX7_in wsX7_in) := goodIn_app (goodIn_of _ (by decide +kernel)) ggX7_isActor_X7_in
set_option maxRecDepth 20000 in
theorem ggX7_isPart_X7_in : GoodIn wsX7_isPart wsX7_in := goodIn_r _ [4] (by decide +kernel) (by decide +kernel)
set_option maxRecDepth 20000 in
theorem gX7_isPart_X7_in : GoodIn wsX7_isPart (va_wsS RX7 77 yX7_in wsX7_in) := goodIn_app (goodIn_of _ (by decide +kernel)) ggX7_isPart_X7_in
set_option maxRecDepth 20000 in
theorem ggX7_isDay_X7_in : GoodIn wsX7_isDay wsX7_in := goodIn_r _ [4] (by decide +kernel) (by decide +kernel)
set_option maxRecDepth 20000 in
theorem gX7_isDay_X7_in : GoodIn wsX7_isDay (va_wsS RX7 77 yX7_in wsX7_in) := goodIn_app (goodIn_of _ (by decide +kernel)) ggX7_isDay_X7_in
set_option maxRecDepth 20000 in
theorem ggX7_setParts_X7_in : GoodIn wsX7_setParts wsX7_in := goodIn_r _ [6] (by decide +kernel) (by decide +kernel)
set_option maxRecDepth 20000 in
theorem gX7_setParts_X7_in : GoodIn wsX7_setParts (va_wsS RX7 77 yX7_in wsX7_in) := goodIn_app (goodIn_of _ (by decide +kernel)) ggX7_setParts_X7_in
set_option maxRecDepth 20000 in
theorem ggX7_setParts_X7_fails : GoodIn wsX7_setParts wsX7_fails := goodIn_r _ [10, 1, 11, 12, 13, 14, 15, 16, 17, 18, 19, 20, 21, 22, 23, 24, 25, 26, 27, 28, 29, 30, 31, 32, 33, 34, 35, 36, 37, 38, 39] (by decide +kernel) (by decide +kernel)
set_option maxRecDepth 20000 in
theorem gX7_setParts_X7_fails : GoodIn wsX7_setParts (wsV RX7 81 RX7 yX7_fails wsX7_fails) := goodIn_app (goodIn_of _ (by decide +kernel)) ggX7_setParts_X7_fails
set_option maxRecDepth 20000 in
theorem ggX7_setSize_X7_isActor : GoodIn wsX7_setSize wsX7_isActor := goodIn_r _ [6, 7, 8, 5, 9] (by decide +kernel) (by decide +kernel)
set_option maxRecDepth 20000 in
theorem gX7_setSize_X7_isActor : GoodIn wsX7_setSize (va_wsS RX7 85 yX7_isActor wsX7_isActor) := goodIn_app (goodIn_of _ (by decide +kernel)) ggX7_setSize_X7_isActor
set_option maxRecDepth 20000 in
theorem ggX7_setSize_X7_fails : GoodIn wsX7_setSize wsX7_fails := goodIn_r _ [13, 1, 14, 15, 16, 17, 18, 19, 20, 21, 22, 23, 24, 25, 26, 27, 28, 29, 30, 31, 32, 33, 34, 35, 36, 37, 38, 39, 40, 41, 42] (by decide +kernel) (by decide +kernel)
set_option maxRecDepth 20000 in
theorem gX7_setSize_X7_fails : GoodIn wsX7_setSize (wsV RX7 81 RX7 yX7_fails wsX7_fails) := goodIn_app (goodIn_of _ (by decide +kernel)) ggX7_setSize_X7_fails
set_option maxRecDepth 20000 in
theorem ggX7_setSize_X7_in : GoodIn wsX7_setSize wsX7_in := goodIn_r _ [9] (by decide +kernel) (by decide +kernel)
set_option maxRecDepth 20000 in
theorem gX7_setSize_X7_in : GoodIn wsX7_setSize (va_wsS RX7 77 yX7_in wsX7_in) := goodIn_app (goodIn_of _ (by decide +kernel)) ggX7_setSize_X7_in
set_option maxRecDepth 20000 in
theorem ggX7_learn_X7_isActor : GoodIn wsX7_learn wsX7_isActor := goodIn_r _ [6, 7, 8, 5, 9] (by decide +kernel) (by decide +kernel)
set_option maxRecDepth 20000 in
theorem gX7_learn_X7_isActor : GoodIn wsX7_learn (va_wsS RX7 85 yX7_isActor wsX7_isActor) := goodIn_app (goodIn_of _ (by decide +kernel)) ggX7_learn_X7_isActor
set_option maxRecDepth 20000 in
theorem ggX7_learn_X7_isPart : GoodIn wsX7_learn wsX7_isPart := goodIn_r _ [12, 7, 8, 5, 9] (by decide +kernel) (by decide +kernel)
set_option maxRecDepth 20000 in
theorem gX7_learn_X7_isPart : GoodIn wsX7_learn (va_wsS RX7 89 yX7_isPart wsX7_isPart) := goodIn_app (goodIn_of _ (by decide +kernel)) ggX7_learn_X7_isPart
set_option maxRecDepth 20000 in
theorem ggX7_learn_X7_fails : GoodIn wsX7_learn wsX7_fails := goodIn_r _ [16, 1, 25, 26, 27, 28, 29, 30, 31, 32, 33, 34, 35, 36, 37, 38, 39, 40, 41, 42, 43, 44, 45, 46, 47, 48, 49, 50, 51, 52, 53] (by decide +kernel) (by decide +kernel)
set_option maxRecDepth 20000 in
theorem gX7_learn_X7_fails : GoodIn wsX7_learn (wsV RX7 81 RX7 yX7_fails wsX7_fails) := goodIn_app (goodIn_of _ (by decide +kernel)) ggX7_learn_X7_fails
set_option maxRecDepth 20000 in
theorem ggX7_learn_X7_knows : GoodIn wsX7_learn wsX7_knows := goodIn_r _ [20, 2, 25, 26, 27, 28, 29, 30, 31, 32, 33, 34, 35, 36, 37, 38, 39, 40, 41, 42, 43, 44, 45, 46, 47, 48, 49, 50, 51, 52, 53] (by decide +kernel) (by decide +kernel)
set_option maxRecDepth 20000 in
theorem gX7_learn_X7_knows : GoodIn wsX7_learn (wsV RX7 92 RX7 yX7_knows wsX7_knows) := goodIn_app (goodIn_of _ (by decide +kernel)) ggX7_learn_X7_knows
set_option maxRecDepth 20000 in
theorem ggX7_learn_X7_knownBy : GoodIn wsX7_learn wsX7_knownBy := goodIn_r _ [24, 2, 25, 26, 27, 28, 29, 30, 31, 32, 33, 34, 35, 36, 37, 38, 39, 40, 41, 42, 43, 44, 45, 46, 47, 48, 49, 50, 51, 52, 53] (by decide +kernel) (by decide +kernel)
set_option maxRecDepth 20000 in
theorem gX7_learn_X7_knownBy : GoodIn wsX7_learn (wsV RX7 96 RX7 yX7_knownBy wsX7_knownBy) := goodIn_app (goodIn_of _ (by decide +kernel)) ggX7_learn_X7_knownBy
set_option maxRecDepth 20000 in
theorem ggX7_put_X7_isPart : GoodIn wsX7_put wsX7_isPart := goodIn_r _ [7, 8, 9, 6, 10] (by decide +kernel) (by decide +kernel)
set_option maxRecDepth 20000 in
theorem gX7_put_X7_isPart : GoodIn wsX7_put (va_wsS RX7 89 yX7_isPart wsX7_isPart) := goodIn_app (goodIn_of _ (by decide +kernel)) ggX7_put_X7_isPart
set_option maxRecDepth 20000 in
theorem ggX7_put_X7_isActor : GoodIn wsX7_put wsX7_isActor := goodIn_r _ [13, 8, 9, 6, 10] (by decide +kernel) (by decide +kernel)
set_option maxRecDepth 20000 in
theorem gX7_put_X7_isActor : GoodIn wsX7_put (va_wsS RX7 85 yX7_isActor wsX7_isActor) := goodIn_app (goodIn_of _ (by decide +kernel)) ggX7_put_X7_isActor
set_option maxRecDepth 20000 in
theorem ggX7_put_X7_fails : GoodIn wsX7_put wsX7_fails := goodIn_r _ [17, 1, 22, 23, 24, 25, 26, 27, 28, 29, 30, 31, 32, 33, 34, 35, 36, 37, 38, 39, 40, 41, 42, 43, 44, 45, 46, 47, 48, 49, 50] (by decide +kernel) (by decide +kernel)
set_option maxRecDepth 20000 in
theorem gX7_put_X7_fails : GoodIn wsX7_put (wsV RX7 81 RX7 yX7_fails wsX7_fails) := goodIn_app (goodIn_of _ (by decide +kernel)) ggX7_put_X7_fails
set_option maxRecDepth 20000 in
theorem ggX7_put_X7_rankOf : GoodIn wsX7_put wsX7_rankOf := goodIn_r _ [21, 2, 3, 22, 23, 24, 25, 26, 27, 28, 29, 30, 31, 32, 33, 34, 35, 36, 37, 38, 39, 40, 41, 42, 43, 44, 45, 46, 47, 48, 49, 50] (by decide +kernel) (by decide +kernel)
set_option maxRecDepth 20000 in
theorem gX7_put_X7_rankOf : GoodIn wsX7_put (wsV RX7 99 RX7 yX7_rankOf wsX7_rankOf) := goodIn_app (goodIn_of _ (by decide +kernel)) ggX7_put_X7_rankOf
set_option maxRecDepth 20000 in
theorem ggX7_take_X7_isPart : GoodIn wsX7_take wsX7_isPart := goodIn_r _ [7, 8, 9, 6, 10] (by decide +kernel) (by decide +kernel)
set_option maxRecDepth 20000 in
theorem gX7_take_X7_isPart : GoodIn wsX7_take (va_wsS RX7 89 yX7_isPart wsX7_isPart) := goodIn_app (goodIn_of _ (by decide +kernel)) ggX7_take_X7_isPart
set_option maxRecDepth 20000 in
theorem ggX7_take_X7_isActor : GoodIn wsX7_take wsX7_isActor := goodIn_r _ [13, 8, 9, 6, 10] (by decide +kernel) (by decide +kernel)
set_option maxRecDepth 20000 in
theorem gX7_take_X7_isActor : GoodIn wsX7_take (va_wsS RX7 85 yX7_isActor wsX7_isActor) := goodIn_app (goodIn_of _ (by decide +kernel)) ggX7_take_X7_isActor
set_option maxRecDepth 20000 in
theorem ggX7_take_X7_fails : GoodIn wsX7_take wsX7_fails := goodIn_r _ [17, 1, 22, 23, 24, 25, 26, 27, 28, 29, 30, 31, 32, 33, 34, 35, 36, 37, 38, 39, 40, 41, 42, 43, 44, 45, 46, 47, 48, 49, 50] (by decide +kernel) (by decide +kernel)
set_option maxRecDepth 20000 in
theorem gX7_take_X7_fails : GoodIn wsX7_take (wsV RX7 81 RX7 yX7_fails wsX7_fails) := goodIn_app (goodIn_of _ (by decide +kernel)) ggX7_take_X7_fails
set_option maxRecDepth 20000 in
theorem ggX7_take_X7_rankOf : GoodIn wsX7_take wsX7_rankOf := goodIn_r _ [21, 2, 3, 22, 23, 24, 25, 26, 27, 28, 29, 30, 31, 32, 33, 34, 35, 36, 37, 38, 39, 40, 41, 42, 43, 44, 45, 46, 47, 48, 49, 50] (by decide +kernel) (by decide +kernel)
set_option maxRecDepth 20000 in
theorem gX7_take_X7_rankOf : GoodIn wsX7_take (wsV RX7 99 RX7 yX7_rankOf wsX7_rankOf) := goodIn_app (goodIn_of _ (by decide +kernel)) ggX7_take_X7_rankOf
set_option maxRecDepth 20000 in
theorem ggX7_costume_X7_isPart : GoodIn wsX7_costume wsX7_isPart := goodIn_r _ [8, 9, 10, 7, 11] (by decide +kernel) (by decide +kernel)
set_option maxRecDepth 20000 in
theorem gX7_costume_X7_isPart : GoodIn wsX7_costume (va_wsS RX7 89 yX7_isPart wsX7_isPart) := goodIn_app (goodIn_of _ (by decide +kernel)) ggX7_costume_X7_isPart
set_option maxRecDepth 20000 in
theorem ggX7_costume_X7_fails : GoodIn wsX7_costume wsX7_fails := goodIn_r _ [15, 1, 16, 17, 18, 19, 20, 21, 22, 23, 24, 25, 26, 27, 28, 29, 30, 31, 32, 33, 34, 35, 36, 37, 38, 39, 40, 41, 42, 43, 44] (by decide +kernel) (by decide +kernel)
set_option maxRecDepth 20000 in
theorem gX7_costume_X7_fails : GoodIn wsX7_costume (wsV RX7 81 RX7 yX7_fails wsX7_fails) := goodIn_app (goodIn_of _ (by decide +kernel)) ggX7_costume_X7_fails
set_option maxRecDepth 20000 in
theorem ggX7_costume_X7_in : GoodIn wsX7_costume wsX7_in := goodIn_r _ [11] (by decide +kernel) (by decide +kernel)
set_option maxRecDepth 20000 in
theorem gX7_costume_X7_in : GoodIn wsX7_costume (va_wsS RX7 77 yX7_in wsX7_in) := goodIn_app (goodIn_of _ (by decide +kernel)) ggX7_costume_X7_in
set_option maxRecDepth 20000 in
theorem ggX7_sizeOf_X7_in : GoodIn wsX7_sizeOf wsX7_in := goodIn_r _ [7] (by decide +kernel) (by decide +kernel)
set_option maxRecDepth 20000 in
theorem gX7_sizeOf_X7_in : GoodIn wsX7_sizeOf (va_wsS RX7 77 yX7_in wsX7_in) := goodIn_app (goodIn_of _ (by decide +kernel)) ggX7_sizeOf_X7_in
set_option maxRecDepth 20000 in
theorem ggX7_sizeOf_X7_fails : GoodIn wsX7_sizeOf wsX7_fails := goodIn_r _ [11, 1, 12, 13, 14, 15, 16, 17, 18, 19, 20, 21, 22, 23, 24, 25, 26, 27, 28, 29, 30, 31, 32, 33, 34, 35, 36, 37, 38, 39, 40] (by decide +kernel) (by decide +kernel)
set_option maxRecDepth 20000 in
theorem gX7_sizeOf_X7_fails : GoodIn wsX7_sizeOf (wsV RX7 81 RX7 yX7_fails wsX7_fails) := goodIn_app (goodIn_of _ (by decide +kernel)) ggX7_sizeOf_X7_fails
set_option maxRecDepth 20000 in
theorem ggX7_cold_X7_isActor : GoodIn wsX7_cold wsX7_isActor := goodIn_r _ [7, 8, 9, 6, 10] (by decide +kernel) (by decide +kernel)
set_option maxRecDepth 20000 in
theorem gX7_cold_X7_isActor : GoodIn wsX7_cold (va_wsS RX7 85 yX7_isActor wsX7_isActor) := goodIn_app (goodIn_of _ (by decide +kernel)) ggX7_cold_X7_isActor
set_option maxRecDepth 20000 in
theorem ggX7_cold_X7_fails : GoodIn wsX7_cold wsX7_fails := goodIn_r _ [14, 1, 15, 16, 17, 18, 19, 20, 21, 22, 23, 24, 25, 26, 27, 28, 29, 30, 31, 32, 33, 34, 35, 36, 37, 38, 39, 40, 41, 42, 43] (by decide +kernel) (by decide +kernel)
set_option maxRecDepth 20000 in
theorem gX7_cold_X7_fails : GoodIn wsX7_cold (wsV RX7 81 RX7 yX7_fails wsX7_fails) := goodIn_app (goodIn_of _ (by decide +kernel)) ggX7_cold_X7_fails
set_option maxRecDepth 20000 in
theorem ggX7_cold_X7_in : GoodIn wsX7_cold wsX7_in := goodIn_r _ [10] (by decide +kernel) (by decide +kernel)
set_option maxRecDepth 20000 in
theorem gX7_cold_X7_in : GoodIn wsX7_cold (va_wsS RX7 77 yX7_in wsX7_in) := goodIn_app (goodIn_of _ (by decide +kernel)) ggX7_cold_X7_in
set_option maxRecDepth 20000 in
theorem ggX7_isIll_X7_isActor : GoodIn wsX7_isIll wsX7_isActor := goodIn_r _ [6, 7, 8, 5, 9] (by decide +kernel) (by decide +kernel)
set_option maxRecDepth 20000 in
theorem gX7_isIll_X7_isActor : GoodIn wsX7_isIll (va_wsS RX7 85 yX7_isActor wsX7_isActor) := goodIn_app (goodIn_of _ (by decide +kernel)) ggX7_isIll_X7_isActor
set_option maxRecDepth 20000 in
theorem ggX7_isIll_X7_fails : GoodIn wsX7_isIll wsX7_fails := goodIn_r _ [13, 1, 17, 18, 19, 20, 21, 22, 23, 24, 25, 26, 27, 28, 29, 30, 31, 32, 33, 34, 35, 36, 37, 38, 39, 40, 41, 42, 43, 44, 45] (by decide +kernel) (by decide +kernel)
set_option maxRecDepth 20000 in
theorem gX7_isIll_X7_fails : GoodIn wsX7_isIll (wsV RX7 81 RX7 yX7_fails wsX7_fails) := goodIn_app (goodIn_of _ (by decide +kernel)) ggX7_isIll_X7_fails
set_option maxRecDepth 20000 in
theorem ggX7_isIll_X7_isDay : GoodIn wsX7_isIll wsX7_isDay := goodIn_r _ [16, 7, 8, 5, 9] (by decide +kernel) (by decide +kernel)
set_option maxRecDepth 20000 in
theorem gX7_isIll_X7_isDay : GoodIn wsX7_isIll (va_wsS RX7 109 yX7_isDay wsX7_isDay) := goodIn_app (goodIn_of _ (by decide +kernel)) ggX7_isIll_X7_isDay
set_option maxRecDepth 20000 in
theorem ggX7_can_X7_rankOf : GoodIn wsX7_can wsX7_rankOf := goodIn_r _ [6, 7, 8, 27, 28, 29, 30, 31, 32, 33, 34, 35, 36, 37, 38, 39, 40, 41, 42, 43, 44, 45, 46, 47, 48, 49, 50, 51, 52, 53, 54, 55] (by decide +kernel) (by decide +kernel)
set_option maxRecDepth 20000 in
theorem gX7_can_X7_rankOf : GoodIn wsX7_can (wsV RX7 99 RX7 yX7_rankOf wsX7_rankOf) := goodIn_app (goodIn_of _ (by decide +kernel)) ggX7_can_X7_rankOf
set_option maxRecDepth 20000 in
theorem ggX7_can_X7_knows : GoodIn wsX7_can wsX7_knows := goodIn_r _ [12, 13, 27, 28, 29, 30, 31, 32, 33, 34, 35, 36, 37, 38, 39, 40, 41, 42, 43, 44, 45, 46, 47, 48, 49, 50, 51, 52, 53, 54, 55] (by decide +kernel) (by decide +kernel)
set_option maxRecDepth 20000 in
theorem gX7_can_X7_knows : GoodIn wsX7_can (wsV RX7 92 RX7 yX7_knows wsX7_knows) := goodIn_app (goodIn_of _ (by decide +kernel)) ggX7_can_X7_knows
set_option maxRecDepth 20000 in
theorem ggX7_can_X7_fits : GoodIn wsX7_can wsX7_fits := goodIn_r _ [17, 18, 19, 20, 21, 27, 28, 29, 30, 31, 32, 33, 34, 35, 36, 37, 38, 39, 40, 41, 42, 43, 44, 45, 46, 47, 48, 49, 50, 51, 52, 53, 54, 55] (by decide +kernel) (by decide +kernel)
set_option maxRecDepth 20000 in
theorem gX7_can_X7_fits : GoodIn wsX7_can (wsV RX7 112 RX7 yX7_fits wsX7_fits) := goodIn_app (goodIn_of _ (by decide +kernel)) ggX7_can_X7_fits
set_option maxRecDepth 20000 in
theorem ggX7_can_X7_toLetOut : GoodIn wsX7_can wsX7_toLetOut := goodIn_r _ [25, 18, 19, 26, 20, 21, 27, 28, 29, 30, 31, 32, 33, 34, 35, 36, 37, 38, 39, 40, 41, 42, 43, 44, 45, 46, 47, 48, 49, 50, 51, 52, 53, 54, 55] (by decide +kernel) (by decide +kernel)
set_option maxRecDepth 20000 in
theorem gX7_can_X7_toLetOut : GoodIn wsX7_can (wsV RX7 115 RX7 yX7_toLetOut wsX7_toLetOut) := goodIn_app (goodIn_of _ (by decide +kernel)) ggX7_can_X7_toLetOut
set_option maxRecDepth 20000 in
theorem ggX7_canPlay_X7_isActor : GoodIn wsX7_canPlay wsX7_isActor := goodIn_r _ [5, 6, 7, 4, 8] (by decide +kernel) (by decide +kernel)
set_option maxRecDepth 20000 in
theorem gX7_canPlay_X7_isActor : GoodIn wsX7_canPlay (va_wsS RX7 85 yX7_isActor wsX7_isActor) := goodIn_app (goodIn_of _ (by decide +kernel)) ggX7_canPlay_X7_isActor
set_option maxRecDepth 20000 in
theorem ggX7_canPlay_X7_isPart : GoodIn wsX7_canPlay wsX7_isPart := goodIn_r _ [11, 6, 7, 4, 8] (by decide +kernel) (by decide +kernel)
set_option maxRecDepth 20000 in
theorem gX7_canPlay_X7_isPart : GoodIn wsX7_canPlay (va_wsS RX7 89 yX7_isPart wsX7_isPart) := goodIn_app (goodIn_of _ (by decide +kernel)) ggX7_canPlay_X7_isPart
set_option maxRecDepth 20000 in
theorem ggX7_canPlay_X7_fails : GoodIn wsX7_canPlay wsX7_fails := goodIn_r _ [15, 1, 48, 49, 50, 51, 52, 53, 54, 55, 56, 57, 58, 59, 60, 61, 62, 63, 64, 65, 66, 67, 68, 69, 70, 71, 72, 73, 74, 75, 76] (by decide +kernel) (by decide +kernel)
set_option maxRecDepth 20000 in
theorem gX7_canPlay_X7_fails : GoodIn wsX7_canPlay (wsV RX7 81 RX7 yX7_fails wsX7_fails) := goodIn_app (goodIn_of _ (by decide +kernel)) ggX7_canPlay_X7_fails
set_option maxRecDepth 20000 in
theorem ggX7_canPlay_X7_isDay : GoodIn wsX7_canPlay wsX7_isDay := goodIn_r _ [18, 6, 7, 4, 8] (by decide +kernel) (by decide +kernel)
set_option maxRecDepth 20000 in
theorem gX7_canPlay_X7_isDay : GoodIn wsX7_canPlay (va_wsS RX7 109 yX7_isDay wsX7_isDay) := goodIn_app (goodIn_of _ (by decide +kernel)) ggX7_canPlay_X7_isDay
set_option maxRecDepth 20000 in
theorem ggX7_canPlay_X7_can : GoodIn wsX7_canPlay wsX7_can := goodIn_r _ [22, 23, 24, 25, 26, 4, 27, 28, 29, 30, 31, 32, 33, 34, 35, 36, 37, 38, 39, 40, 41, 42, 43, 44, 45, 46, 47, 48, 49, 50, 51, 52, 53, 54, 55, 56, 57, 58, 59, 60, 61, 62, 63, 64, 65, 66, 67, 68, 69, 70, 71, 72, 73, 74, 75, 76] (by decide +kernel) (by decide +kernel)
set_option maxRecDepth 20000 in
theorem gX7_canPlay_X7_can : GoodIn wsX7_canPlay (wsV RX7 118 RX7 yX7_can wsX7_can) := goodIn_app (goodIn_of _ (by decide +kernel)) ggX7_canPlay_X7_can
set_option maxRecDepth 20000 in
theorem ggX7_layAble_X7_can : GoodIn wsX7_layAble wsX7_can := goodIn_r _ [9, 10, 11, 12, 13, 8, 14, 2, 3, 15, 16, 17, 18, 19, 20, 21, 22, 23, 24, 25, 26, 27, 28, 29, 30, 31, 32, 33, 34, 35, 36, 37, 38, 39, 40, 41, 42, 43, 44, 45, 46, 47, 48, 49, 50, 51, 52, 53, 54, 55, 56, 57, 58, 59, 60, 61] (by decide +kernel) (by decide +kernel)
set_option maxRecDepth 20000 in
theorem gX7_layAble_X7_can : GoodIn wsX7_layAble (wsV RX7 118 RX7 yX7_can wsX7_can) := goodIn_app (goodIn_of _ (by decide +kernel)) ggX7_layAble_X7_can
set_option maxRecDepth 20000 in
theorem ggX7_layAble_X7_fits : GoodIn wsX7_layAble wsX7_fits := goodIn_r _ [23, 24, 25, 26, 27, 33, 34, 35, 36, 37, 38, 39, 40, 41, 42, 43, 44, 45, 46, 47, 48, 49, 50, 51, 52, 53, 54, 55, 56, 57, 58, 59, 60, 61] (by decide +kernel) (by decide +kernel)
set_option maxRecDepth 20000 in
theorem gX7_layAble_X7_fits : GoodIn wsX7_layAble (wsV RX7 112 RX7 yX7_fits wsX7_fits) := goodIn_app (goodIn_of _ (by decide +kernel)) ggX7_layAble_X7_fits
set_option maxRecDepth 20000 in
theorem ggX7_lay_X7_layAble : GoodIn wsX7_lay wsX7_layAble := goodIn_r _ [9, 4, 10, 11, 12, 13, 14, 15, 8, 16, 17, 18, 19, 20, 21, 22, 23, 24, 25, 26, 27, 28, 29, 30, 31, 32, 33, 34, 35, 36, 37, 38, 39, 48, 49, 50, 51, 52, 53, 54, 55, 56, 57, 58, 59, 60, 61, 62, 63, 64, 65, 66, 67, 68, 69, 70, 71, 72, 73, 74, 75, 76] (by decide +kernel) (by decide +kernel)
set_option maxRecDepth 20000 in
theorem gX7_lay_X7_layAble : GoodIn wsX7_lay (wsV RX7 127 RX7 yX7_layAble wsX7_layAble) := goodIn_app (goodIn_of _ (by decide +kernel)) ggX7_lay_X7_layAble
set_option maxRecDepth 20000 in
theorem ggX7_lay_X7_firstBad : GoodIn wsX7_lay wsX7_firstBad := goodIn_r _ [43, 4, 12, 11, 48, 49, 50, 51, 52, 53, 54, 55, 56, 57, 58, 59, 60, 61, 62, 63, 64, 65, 66, 67, 68, 69, 70, 71, 72, 73, 74, 75, 76] (by decide +kernel) (by decide +kernel)
set_option maxRecDepth 20000 in
theorem gX7_lay_X7_firstBad : GoodIn wsX7_lay (wsV RX7 131 RX7 yX7_firstBad wsX7_firstBad) := goodIn_app (goodIn_of _ (by decide +kernel)) ggX7_lay_X7_firstBad
set_option maxRecDepth 20000 in
theorem ggX7_lay_X7_keep : GoodIn wsX7_lay wsX7_keep := goodIn_r _ [47, 4, 12, 1, 2, 3, 11, 48, 49, 50, 51, 52, 53, 54, 55, 56, 57, 58, 59, 60, 61, 62, 63, 64, 65, 66, 67, 68, 69, 70, 71, 72, 73, 74, 75, 76] (by decide +kernel) (by decide +kernel)
set_option maxRecDepth 20000 in
theorem gX7_lay_X7_keep : GoodIn wsX7_lay (wsV RX7 134 RX7 yX7_keep wsX7_keep) := goodIn_app (goodIn_of _ (by decide +kernel)) ggX7_lay_X7_keep
set_option maxRecDepth 20000 in
theorem ggX7_strain_X7_isDay : GoodIn wsX7_strain wsX7_isDay := goodIn_r _ [6, 7, 8, 5, 9] (by decide +kernel) (by decide +kernel)
set_option maxRecDepth 20000 in
theorem gX7_strain_X7_isDay : GoodIn wsX7_strain (va_wsS RX7 109 yX7_isDay wsX7_isDay) := goodIn_app (goodIn_of _ (by decide +kernel)) ggX7_strain_X7_isDay
set_option maxRecDepth 20000 in
theorem ggX7_strain_X7_fails : GoodIn wsX7_strain wsX7_fails := goodIn_r _ [13, 1, 63, 64, 65, 66, 67, 68, 69, 70, 71, 72, 73, 74, 75, 76, 77, 78, 79, 80, 81, 82, 83, 84, 85, 86, 87, 88, 89, 90, 91] (by decide +kernel) (by decide +kernel)
set_option maxRecDepth 20000 in
theorem gX7_strain_X7_fails : GoodIn wsX7_strain (wsV RX7 81 RX7 yX7_fails wsX7_fails) := goodIn_app (goodIn_of _ (by decide +kernel)) ggX7_strain_X7_fails
set_option maxRecDepth 20000 in
theorem ggX7_strain_X7_lay : GoodIn wsX7_strain wsX7_lay := goodIn_r _ [17, 2, 18, 19, 20, 21, 22, 23, 5, 24, 25, 26, 27, 28, 29, 30, 31, 32, 33, 34, 35, 36, 37, 38, 39, 40, 41, 42, 43, 44, 45, 46, 47, 48, 49, 50, 51, 52, 53, 54, 55, 56, 57, 58, 59, 60, 61, 62, 63, 64, 65, 66, 67, 68, 69, 70, 71, 72, 73, 74, 75, 76, 77, 78, 79, 80, 81, 82, 83, 84, 85, 86, 87, 88, 89, 90, 91] (by decide +kernel) (by decide +kernel)
set_option maxRecDepth 20000 in
theorem gX7_strain_X7_lay : GoodIn wsX7_strain (wsV RX7 138 RX7 yX7_lay wsX7_lay) := goodIn_app (goodIn_of _ (by decide +kernel)) ggX7_strain_X7_lay
set_option maxRecDepth 20000 in
theorem ggX7_strainByAll_X7_isDay : GoodIn wsX7_strainByAll wsX7_isDay := goodIn_r _ [6, 7, 8, 5, 9] (by decide +kernel) (by decide +kernel)
set_option maxRecDepth 20000 in
theorem gX7_strainByAll_X7_isDay : GoodIn wsX7_strainByAll (va_wsS RX7 109 yX7_isDay wsX7_isDay) := goodIn_app (goodIn_of _ (by decide +kernel)) ggX7_strainByAll_X7_isDay
set_option maxRecDepth 20000 in
theorem ggX7_strainByAll_X7_fails : GoodIn wsX7_strainByAll wsX7_fails := goodIn_r _ [13, 1, 63, 64, 65, 66, 67, 68, 69, 70, 71, 72, 73, 74, 75, 76, 77, 78, 79, 80, 81, 82, 83, 84, 85, 86, 87, 88, 89, 90, 91] (by decide +kernel) (by decide +kernel)
set_option maxRecDepth 20000 in
theorem gX7_strainByAll_X7_fails : GoodIn wsX7_strainByAll (wsV RX7 81 RX7 yX7_fails wsX7_fails) := goodIn_app (goodIn_of _ (by decide +kernel)) ggX7_strainByAll_X7_fails
set_option maxRecDepth 20000 in
theorem ggX7_strainByAll_X7_lay : GoodIn wsX7_strainByAll wsX7_lay := goodIn_r _ [17, 2, 18, 19, 20, 21, 22, 23, 5, 24, 25, 26, 27, 28, 29, 30, 31, 32, 33, 34, 35, 36, 37, 38, 39, 40, 41, 42, 43, 44, 45, 46, 47, 48, 49, 50, 51, 52, 53, 54, 55, 56, 57, 58, 59, 60, 61, 62, 63, 64, 65, 66, 67, 68, 69, 70, 71, 72, 73, 74, 75, 76, 77, 78, 79, 80, 81, 82, 83, 84, 85, 86, 87, 88, 89, 90, 91] (by decide +kernel) (by decide +kernel)
set_option maxRecDepth 20000 in
theorem gX7_strainByAll_X7_lay : GoodIn wsX7_strainByAll (wsV RX7 138 RX7 yX7_lay wsX7_lay) := goodIn_app (goodIn_of _ (by decide +kernel)) ggX7_strainByAll_X7_lay
set_option maxRecDepth 20000 in
theorem ggX7_work_X7_isDay : GoodIn wsX7_work wsX7_isDay := goodIn_r _ [6, 7, 8, 5, 9] (by decide +kernel) (by decide +kernel)
set_option maxRecDepth 20000 in
theorem gX7_work_X7_isDay : GoodIn wsX7_work (va_wsS RX7 109 yX7_isDay wsX7_isDay) := goodIn_app (goodIn_of _ (by decide +kernel)) ggX7_work_X7_isDay
set_option maxRecDepth 20000 in
theorem ggX7_work_X7_fails : GoodIn wsX7_work wsX7_fails := goodIn_r _ [13, 1, 63, 64, 65, 66, 67, 68, 69, 70, 71, 72, 73, 74, 75, 76, 77, 78, 79, 80, 81, 82, 83, 84, 85, 86, 87, 88, 89, 90, 91] (by decide +kernel) (by decide +kernel)
set_option maxRecDepth 20000 in
theorem gX7_work_X7_fails : GoodIn wsX7_work (wsV RX7 81 RX7 yX7_fails wsX7_fails) := goodIn_app (goodIn_of _ (by decide +kernel)) ggX7_work_X7_fails
set_option maxRecDepth 20000 in
theorem ggX7_work_X7_lay : GoodIn wsX7_work wsX7_lay := goodIn_r _ [17, 18, 2, 19, 20, 21, 22, 23, 5, 24, 25, 26, 27, 28, 29, 30, 31, 32, 33, 34, 35, 36, 37, 38, 39, 40, 41, 42, 43, 44, 45, 46, 47, 48, 49, 50, 51, 52, 53, 54, 55, 56, 57, 58, 59, 60, 61, 62, 63, 64, 65, 66, 67, 68, 69, 70, 71, 72, 73, 74, 75, 76, 77, 78, 79, 80, 81, 82, 83, 84, 85, 86, 87, 88, 89, 90, 91] (by decide +kernel) (by decide +kernel)
set_option maxRecDepth 20000 in
theorem gX7_work_X7_lay : GoodIn wsX7_work (wsV RX7 138 RX7 yX7_lay wsX7_lay) := goodIn_app (goodIn_of _ (by decide +kernel)) ggX7_work_X7_lay
set_option maxRecDepth 20000 in
theorem ggX7_actorFor_X7_isPart : GoodIn wsX7_actorFor wsX7_isPart := goodIn_r _ [6, 7, 8, 5, 9] (by decide +kernel) (by decide +kernel)
set_option maxRecDepth 20000 in
theorem gX7_actorFor_X7_isPart : GoodIn wsX7_actorFor (va_wsS RX7 89 yX7_isPart wsX7_isPart) := goodIn_app (goodIn_of _ (by decide +kernel)) ggX7_actorFor_X7_isPart
set_option maxRecDepth 20000 in
theorem ggX7_actorFor_X7_fails : GoodIn wsX7_actorFor wsX7_fails := goodIn_r _ [13, 1, 66, 67, 68, 69, 70, 71, 72, 73, 74, 75, 76, 77, 78, 79, 80, 81, 82, 83, 84, 85, 86, 87, 88, 89, 90, 91, 92, 93, 94] (by decide +kernel) (by decide +kernel)
set_option maxRecDepth 20000 in
theorem gX7_actorFor_X7_fails : GoodIn wsX7_actorFor (wsV RX7 81 RX7 yX7_fails wsX7_fails) := goodIn_app (goodIn_of _ (by decide +kernel)) ggX7_actorFor_X7_fails
set_option maxRecDepth 20000 in
theorem ggX7_actorFor_X7_isDay : GoodIn wsX7_actorFor wsX7_isDay := goodIn_r _ [16, 7, 8, 5, 9] (by decide +kernel) (by decide +kernel)
set_option maxRecDepth 20000 in
theorem gX7_actorFor_X7_isDay : GoodIn wsX7_actorFor (va_wsS RX7 109 yX7_isDay wsX7_isDay) := goodIn_app (goodIn_of _ (by decide +kernel)) ggX7_actorFor_X7_isDay
set_option maxRecDepth 20000 in
theorem ggX7_actorFor_X7_lay : GoodIn wsX7_actorFor wsX7_lay := goodIn_r _ [20, 21, 22, 2, 23, 24, 25, 26, 5, 27, 28, 29, 30, 31, 32, 33, 34, 35, 36, 37, 38, 39, 40, 41, 42, 43, 44, 45, 46, 47, 48, 49, 50, 51, 52, 53, 54, 55, 56, 57, 58, 59, 60, 61, 62, 63, 64, 65, 66, 67, 68, 69, 70, 71, 72, 73, 74, 75, 76, 77, 78, 79, 80, 81, 82, 83, 84, 85, 86, 87, 88, 89, 90, 91, 92, 93, 94] (by decide +kernel) (by decide +kernel)
set_option maxRecDepth 20000 in
theorem gX7_actorFor_X7_lay : GoodIn wsX7_actorFor (wsV RX7 138 RX7 yX7_lay wsX7_lay) := goodIn_app (goodIn_of _ (by decide +kernel)) ggX7_actorFor_X7_lay
set_option maxRecDepth 20000 in
theorem ggX7_chain_X7_isActor : GoodIn wsX7_chain wsX7_isActor := goodIn_r _ [8, 9, 10, 7, 11] (by decide +kernel) (by decide +kernel)
set_option maxRecDepth 20000 in
theorem gX7_chain_X7_isActor : GoodIn wsX7_chain (va_wsS RX7 85 yX7_isActor wsX7_isActor) := goodIn_app (goodIn_of _ (by decide +kernel)) ggX7_chain_X7_isActor
set_option maxRecDepth 20000 in
theorem ggX7_chain_X7_fails : GoodIn wsX7_chain wsX7_fails := goodIn_r _ [15, 1, 67, 68, 69, 70, 71, 72, 73, 74, 75, 76, 77, 78, 79, 80, 81, 82, 83, 84, 85, 86, 87, 88, 89, 90, 91, 92, 93, 94, 95] (by decide +kernel) (by decide +kernel)
set_option maxRecDepth 20000 in
theorem gX7_chain_X7_fails : GoodIn wsX7_chain (wsV RX7 81 RX7 yX7_fails wsX7_fails) := goodIn_app (goodIn_of _ (by decide +kernel)) ggX7_chain_X7_fails
set_option maxRecDepth 20000 in
theorem ggX7_chain_X7_isDay : GoodIn wsX7_chain wsX7_isDay := goodIn_r _ [18, 9, 10, 7, 11] (by decide +kernel) (by decide +kernel)
set_option maxRecDepth 20000 in
theorem gX7_chain_X7_isDay : GoodIn wsX7_chain (va_wsS RX7 109 yX7_isDay wsX7_isDay) := goodIn_app (goodIn_of _ (by decide +kernel)) ggX7_chain_X7_isDay
set_option maxRecDepth 20000 in
theorem ggX7_chain_X7_lay : GoodIn wsX7_chain wsX7_lay := goodIn_r _ [22, 23, 24, 3, 4, 25, 26, 27, 7, 28, 29, 30, 31, 32, 33, 34, 35, 36, 37, 38, 39, 40, 41, 42, 43, 44, 45, 46, 47, 48, 49, 50, 51, 52, 53, 54, 55, 56, 57, 58, 59, 60, 61, 62, 63, 64, 65, 66, 67, 68, 69, 70, 71, 72, 73, 74, 75, 76, 77, 78, 79, 80, 81, 82, 83, 84, 85, 86, 87, 88, 89, 90, 91, 92, 93, 94, 95] (by decide +kernel) (by decide +kernel)
set_option maxRecDepth 20000 in
theorem gX7_chain_X7_lay : GoodIn wsX7_chain (wsV RX7 138 RX7 yX7_lay wsX7_lay) := goodIn_app (goodIn_of _ (by decide +kernel)) ggX7_chain_X7_lay
set_option maxRecDepth 20000 in
theorem ggX7_show_X7_in : GoodIn wsX7_show wsX7_in := goodIn_r _ [9] (by decide +kernel) (by decide +kernel)
set_option maxRecDepth 20000 in
theorem gX7_show_X7_in : GoodIn wsX7_show (va_wsS RX7 77 yX7_in wsX7_in) := goodIn_app (goodIn_of _ (by decide +kernel)) ggX7_show_X7_in
set_option maxRecDepth 20000 in
theorem ggX7_show_X7_fails : GoodIn wsX7_show wsX7_fails := goodIn_r _ [13, 1, 18, 19, 20, 21, 22, 23, 24, 25, 26, 27, 28, 29, 30, 31, 32, 33, 34, 35, 36, 37, 38, 39, 40, 41, 42, 43, 44, 45, 46] (by decide +kernel) (by decide +kernel)
set_option maxRecDepth 20000 in
theorem gX7_show_X7_fails : GoodIn wsX7_show (wsV RX7 81 RX7 yX7_fails wsX7_fails) := goodIn_app (goodIn_of _ (by decide +kernel)) ggX7_show_X7_fails
set_option maxRecDepth 20000 in
theorem ggX7_show_X7_showOn : GoodIn wsX7_show wsX7_showOn := goodIn_r _ [17, 3, 4, 18, 19, 20, 21, 22, 23, 24, 25, 26, 27, 28, 29, 30, 31, 32, 33, 34, 35, 36, 37, 38, 39, 40, 41, 42, 43, 44, 45, 46] (by decide +kernel) (by decide +kernel)
set_option maxRecDepth 20000 in
theorem gX7_show_X7_showOn : GoodIn wsX7_show (wsV RX7 144 RX7 yX7_showOn wsX7_showOn) := goodIn_app (goodIn_of _ (by decide +kernel)) ggX7_show_X7_showOn
set_option maxRecDepth 20000 in
theorem ggX7_sell_X7_in : GoodIn wsX7_sell wsX7_in := goodIn_r _ [16] (by decide +kernel) (by decide +kernel)
set_option maxRecDepth 20000 in
theorem gX7_sell_X7_in : GoodIn wsX7_sell (va_wsS RX7 77 yX7_in wsX7_in) := goodIn_app (goodIn_of _ (by decide +kernel)) ggX7_sell_X7_in
set_option maxRecDepth 20000 in
theorem ggX7_sell_X7_isPart : GoodIn wsX7_sell wsX7_isPart := goodIn_r _ [19, 13, 14, 15, 16] (by decide +kernel) (by decide +kernel)
set_option maxRecDepth 20000 in
theorem gX7_sell_X7_isPart : GoodIn wsX7_sell (va_wsS RX7 89 yX7_isPart wsX7_isPart) := goodIn_app (goodIn_of _ (by decide +kernel)) ggX7_sell_X7_isPart
set_option maxRecDepth 20000 in
theorem ggX7_sell_X7_fails : GoodIn wsX7_sell wsX7_fails := goodIn_r _ [23, 1, 24, 25, 26, 27, 28, 29, 30, 31, 32, 33, 34, 35, 36, 37, 38, 39, 40, 41, 42, 43, 44, 45, 46, 47, 48, 49, 50, 51, 52] (by decide +kernel) (by decide +kernel)
set_option maxRecDepth 20000 in
theorem gX7_sell_X7_fails : GoodIn wsX7_sell (wsV RX7 81 RX7 yX7_fails wsX7_fails) := goodIn_app (goodIn_of _ (by decide +kernel)) ggX7_sell_X7_fails
set_option maxRecDepth 20000 in
theorem ggX7_refundOf_X7_rankOf : GoodIn wsX7_refundOf wsX7_rankOf := goodIn_r _ [12, 13, 14, 15, 16, 17, 18, 19, 20, 21, 22, 23, 24, 25, 26, 27, 28, 29, 30, 31, 32, 33, 34, 35, 36, 37, 38, 39, 40, 41, 42, 43] (by decide +kernel) (by decide +kernel)
set_option maxRecDepth 20000 in
theorem gX7_refundOf_X7_rankOf : GoodIn wsX7_refundOf (wsV RX7 99 RX7 yX7_rankOf wsX7_rankOf) := goodIn_app (goodIn_of _ (by decide +kernel)) ggX7_refundOf_X7_rankOf
set_option maxRecDepth 20000 in
theorem ggX7_refundAll_X7_refundOf : GoodIn wsX7_refundAll wsX7_refundOf := goodIn_r _ [9, 10, 4, 11, 12, 13, 14, 15, 16, 17, 18, 8, 19, 20, 21, 22, 23, 24, 25, 26, 27, 28, 29, 30, 31, 32, 33, 34, 35, 36, 37, 38, 39, 40, 41, 42, 43, 44, 45, 46, 47, 48, 49, 50] (by decide +kernel) (by decide +kernel)
set_option maxRecDepth 20000 in
theorem gX7_refundAll_X7_refundOf : GoodIn wsX7_refundAll (wsV RX7 153 RX7 yX7_refundOf wsX7_refundOf) := goodIn_app (goodIn_of _ (by decide +kernel)) ggX7_refundAll_X7_refundOf
set_option maxRecDepth 20000 in
theorem ggX7_perform_X7_fits : GoodIn wsX7_perform wsX7_fits := goodIn_r _ [11, 12, 13, 5, 14, 19, 20, 21, 22, 23, 24, 25, 26, 27, 28, 29, 30, 31, 32, 33, 34, 35, 36, 37, 38, 39, 40, 41, 42, 43, 44, 45, 46, 47] (by decide +kernel) (by decide +kernel)
set_option maxRecDepth 20000 in
theorem gX7_perform_X7_fits : GoodIn wsX7_perform (wsV RX7 112 RX7 yX7_fits wsX7_fits) := goodIn_app (goodIn_of _ (by decide +kernel)) ggX7_perform_X7_fits
set_option maxRecDepth 20000 in
theorem ggX7_perform_X7_toLetOut : GoodIn wsX7_perform wsX7_toLetOut := goodIn_r _ [18, 12, 13, 6, 5, 14, 19, 20, 21, 22, 23, 24, 25, 26, 27, 28, 29, 30, 31, 32, 33, 34, 35, 36, 37, 38, 39, 40, 41, 42, 43, 44, 45, 46, 47] (by decide +kernel) (by decide +kernel)
set_option maxRecDepth 20000 in
theorem gX7_perform_X7_toLetOut : GoodIn wsX7_perform (wsV RX7 115 RX7 yX7_toLetOut wsX7_toLetOut) := goodIn_app (goodIn_of _ (by decide +kernel)) ggX7_perform_X7_toLetOut
set_option maxRecDepth 20000 in
theorem ggX7_play_X7_fails : GoodIn wsX7_play wsX7_fails := goodIn_r _ [9, 1, 86, 87, 88, 89, 90, 91, 92, 93, 94, 95, 96, 97, 98, 99, 100, 101, 102, 103, 104, 105, 106, 107, 108, 109, 110, 111, 112, 113, 114] (by decide +kernel) (by decide +kernel)
set_option maxRecDepth 20000 in
theorem gX7_play_X7_fails : GoodIn wsX7_play (wsV RX7 81 RX7 yX7_fails wsX7_fails) := goodIn_app (goodIn_of _ (by decide +kernel)) ggX7_play_X7_fails
set_option maxRecDepth 20000 in
theorem ggX7_play_X7_showOn : GoodIn wsX7_play wsX7_showOn := goodIn_r _ [13, 14, 15, 86, 87, 88, 89, 90, 91, 92, 93, 94, 95, 96, 97, 98, 99, 100, 101, 102, 103, 104, 105, 106, 107, 108, 109, 110, 111, 112, 113, 114] (by decide +kernel) (by decide +kernel)
set_option maxRecDepth 20000 in
theorem gX7_play_X7_showOn : GoodIn wsX7_play (wsV RX7 144 RX7 yX7_showOn wsX7_showOn) := goodIn_app (goodIn_of _ (by decide +kernel)) ggX7_play_X7_showOn
set_option maxRecDepth 20000 in
theorem ggX7_play_X7_lay : GoodIn wsX7_play wsX7_lay := goodIn_r _ [19, 20, 21, 22, 23, 24, 25, 26, 8, 27, 28, 29, 30, 31, 32, 33, 34, 35, 36, 37, 38, 39, 40, 41, 42, 43, 44, 45, 46, 47, 48, 49, 50, 51, 52, 53, 54, 55, 56, 57, 58, 59, 60, 61, 62, 63, 64, 65, 86, 87, 88, 89, 90, 91, 92, 93, 94, 95, 96, 97, 98, 99, 100, 101, 102, 103, 104, 105, 106, 107, 108, 109, 110, 111, 112, 113, 114] (by decide +kernel) (by decide +kernel)
set_option maxRecDepth 20000 in
theorem gX7_play_X7_lay : GoodIn wsX7_play (wsV RX7 138 RX7 yX7_lay wsX7_lay) := goodIn_app (goodIn_of _ (by decide +kernel)) ggX7_play_X7_lay
set_option maxRecDepth 20000 in
theorem ggX7_play_X7_refundAll : GoodIn wsX7_play wsX7_refundAll := goodIn_r _ [69, 70, 71, 72, 73, 74, 75, 76, 8, 77, 78, 79, 20, 23, 22, 80, 36, 37, 38, 39, 28, 29, 86, 87, 88, 89, 90, 91, 92, 93, 94, 95, 96, 97, 98, 99, 100, 101, 102, 103, 104, 105, 106, 107, 108, 109, 110, 111, 112, 113, 114] (by decide +kernel) (by decide +kernel)
set_option maxRecDepth 20000 in
theorem gX7_play_X7_refundAll : GoodIn wsX7_play (wsV RX7 156 RX7 yX7_refundAll wsX7_refundAll) := goodIn_app (goodIn_of _ (by decide +kernel)) ggX7_play_X7_refundAll
set_option maxRecDepth 20000 in
theorem ggX7_play_X7_perform : GoodIn wsX7_play wsX7_perform := goodIn_r _ [84, 3, 23, 85, 22, 51, 57, 45, 46, 47, 8, 48, 49, 50, 52, 53, 54, 55, 56, 86, 87, 88, 89, 90, 91, 92, 93, 94, 95, 96, 97, 98, 99, 100, 101, 102, 103, 104, 105, 106, 107, 108, 109, 110, 111, 112, 113, 114] (by decide +kernel) (by decide +kernel)
set_option maxRecDepth 20000 in
theorem gX7_play_X7_perform : GoodIn wsX7_play (wsV RX7 160 RX7 yX7_perform wsX7_perform) := goodIn_app (goodIn_of _ (by decide +kernel)) ggX7_play_X7_perform
set_option maxRecDepth 20000 in
theorem ggX7_stateOf_X7_in : GoodIn wsX7_stateOf wsX7_in := goodIn_r _ [7] (by decide +kernel) (by decide +kernel)
set_option maxRecDepth 20000 in
theorem gX7_stateOf_X7_in : GoodIn wsX7_stateOf (va_wsS RX7 77 yX7_in wsX7_in) := goodIn_app (goodIn_of _ (by decide +kernel)) ggX7_stateOf_X7_in
set_option maxRecDepth 20000 in
theorem ggX7_stateOf_X7_fails : GoodIn wsX7_stateOf wsX7_fails := goodIn_r _ [11, 1, 12, 13, 14, 15, 16, 17, 18, 19, 20, 21, 22, 23, 24, 25, 26, 27, 28, 29, 30, 31, 32, 33, 34, 35, 36, 37, 38, 39, 40] (by decide +kernel) (by decide +kernel)
set_option maxRecDepth 20000 in
theorem gX7_stateOf_X7_fails : GoodIn wsX7_stateOf (wsV RX7 81 RX7 yX7_fails wsX7_fails) := goodIn_app (goodIn_of _ (by decide +kernel)) ggX7_stateOf_X7_fails
set_option maxRecDepth 20000 in
theorem ggX7_played_X7_in : GoodIn wsX7_played wsX7_in := goodIn_r _ [7] (by decide +kernel) (by decide +kernel)
set_option maxRecDepth 20000 in
theorem gX7_played_X7_in : GoodIn wsX7_played (va_wsS RX7 77 yX7_in wsX7_in) := goodIn_app (goodIn_of _ (by decide +kernel)) ggX7_played_X7_in
set_option maxRecDepth 20000 in
theorem ggX7_played_X7_isPart : GoodIn wsX7_played wsX7_isPart := goodIn_r _ [10, 4, 5, 6, 7] (by decide +kernel) (by decide +kernel)
set_option maxRecDepth 20000 in
theorem gX7_played_X7_isPart : GoodIn wsX7_played (va_wsS RX7 89 yX7_isPart wsX7_isPart) := goodIn_app (goodIn_of _ (by decide +kernel)) ggX7_played_X7_isPart
set_option maxRecDepth 20000 in
theorem ggX7_played_X7_fails : GoodIn wsX7_played wsX7_fails := goodIn_r _ [14, 1, 15, 16, 17, 18, 19, 20, 21, 22, 23, 24, 25, 26, 27, 28, 29, 30, 31, 32, 33, 34, 35, 36, 37, 38, 39, 40, 41, 42, 43] (by decide +kernel) (by decide +kernel)
set_option maxRecDepth 20000 in
theorem gX7_played_X7_fails : GoodIn wsX7_played (wsV RX7 81 RX7 yX7_fails wsX7_fails) := goodIn_app (goodIn_of _ (by decide +kernel)) ggX7_played_X7_fails
set_option maxRecDepth 20000 in
theorem ggX7_refund_X7_in : GoodIn wsX7_refund wsX7_in := goodIn_r _ [7] (by decide +kernel) (by decide +kernel)
set_option maxRecDepth 20000 in
theorem gX7_refund_X7_in : GoodIn wsX7_refund (va_wsS RX7 77 yX7_in wsX7_in) := goodIn_app (goodIn_of _ (by decide +kernel)) ggX7_refund_X7_in
set_option maxRecDepth 20000 in
theorem ggX7_refund_X7_fails : GoodIn wsX7_refund wsX7_fails := goodIn_r _ [11, 1, 12, 13, 14, 15, 16, 17, 18, 19, 20, 21, 22, 23, 24, 25, 26, 27, 28, 29, 30, 31, 32, 33, 34, 35, 36, 37, 38, 39, 40] (by decide +kernel) (by decide +kernel)
set_option maxRecDepth 20000 in
theorem gX7_refund_X7_fails : GoodIn wsX7_refund (wsV RX7 81 RX7 yX7_fails wsX7_fails) := goodIn_app (goodIn_of _ (by decide +kernel)) ggX7_refund_X7_fails
set_option maxRecDepth 20000 in
theorem ggL_setParts_X6_setParts : GoodIn wsL_setParts wsX6_setParts := goodIn_ca (goodIn_r _ [6, 7, 8, 9, 10, 11, 12, 13, 14, 15, 16, 17] (by decide +kernel) (by decide +kernel)) (goodIn_sub (fun _ h => List.mem_cons_of_mem _ (List.mem_append_right _ h)) (by decide +kernel))
set_option maxRecDepth 20000 in
theorem gL_setParts_X6_setParts : GoodIn wsL_setParts (wsV RL 7 RX6 yX6_setParts wsX6_setParts) := goodIn_app (goodIn_of _ (by decide +kernel)) ggL_setParts_X6_setParts
set_option maxRecDepth 20000 in
theorem ggL_setSize_X6_setSize : GoodIn wsL_setSize wsX6_setSize := goodIn_ca (goodIn_ca (goodIn_r _ [7, 8, 9, 10, 11, 6, 12, 13, 14, 15, 16, 17, 18, 19, 20, 21, 22, 23, 24, 25, 26, 27, 28, 29, 30] (by decide +kernel) (by decide +kernel)) (goodIn_sub (fun _ h => List.mem_cons_of_mem _ (List.mem_append_left _ (List.mem_append_right _ h))) (by decide +kernel))) (goodIn_sub (fun _ h => List.mem_cons_of_mem _ (List.mem_append_right _ h)) (by decide +kernel))
set_option maxRecDepth 20000 in
theorem gL_setSize_X6_setSize : GoodIn wsL_setSize (wsV RL 15 RX6 yX6_setSize wsX6_setSize) := goodIn_app (goodIn_of _ (by decide +kernel)) ggL_setSize_X6_setSize
set_option maxRecDepth 20000 in
theorem ggL_learn_X6_learn : GoodIn wsL_learn wsX6_learn := goodIn_ca (goodIn_ca (goodIn_r _ [7, 8, 9, 10, 11, 12, 13, 6, 14, 15, 16, 17, 18, 19, 20, 21, 22, 23, 24, 25, 26, 27, 28, 29, 30, 31, 32, 33, 34, 35, 36, 37, 38, 39, 40, 41, 42, 43] (by decide +kernel) (by decide +kernel)) (goodIn_sub (fun _ h => List.mem_cons_of_mem _ (List.mem_append_left _ (List.mem_append_right _ h))) (by decide +kernel))) (goodIn_sub (fun _ h => List.mem_cons_of_mem _ (List.mem_append_right _ h)) (by decide +kernel))
set_option maxRecDepth 20000 in
theorem gL_learn_X6_learn : GoodIn wsL_learn (wsV RL 21 RX6 yX6_learn wsX6_learn) := goodIn_app (goodIn_of _ (by decide +kernel)) ggL_learn_X6_learn
set_option maxRecDepth 20000 in
theorem ggL_put_X6_put : GoodIn wsL_put wsX6_put := goodIn_ca (goodIn_ca (goodIn_r _ [7, 8, 9, 10, 11, 12, 6, 13, 14, 15, 16, 17, 18, 19, 20, 21, 22, 23, 24, 25, 26, 27, 28, 29, 30, 31, 32, 33, 34, 35, 36, 37, 38, 39, 40, 41, 42, 43] (by decide +kernel) (by decide +kernel)) (goodIn_sub (fun _ h => List.mem_cons_of_mem _ (List.mem_append_left _ (List.mem_append_right _ h))) (by decide +kernel))) (goodIn_sub (fun _ h => List.mem_cons_of_mem _ (List.mem_append_right _ h)) (by decide +kernel))
set_option maxRecDepth 20000 in
theorem gL_put_X6_put : GoodIn wsL_put (wsV RL 27 RX6 yX6_put wsX6_put) := goodIn_app (goodIn_of _ (by decide +kernel)) ggL_put_X6_put
set_option maxRecDepth 20000 in
theorem ggL_take_X6_take : GoodIn wsL_take wsX6_take := goodIn_ca (goodIn_ca (goodIn_r _ [7, 8, 9, 10, 11, 12, 6, 13, 14, 15, 16, 17, 18, 19, 20, 21, 22, 23, 24, 25, 26, 27, 28, 29, 30, 31, 32, 33, 34, 35, 36, 37, 38, 39] (by decide +kernel) (by decide +kernel)) (goodIn_sub (fun _ h => List.mem_cons_of_mem _ (List.mem_append_left _ (List.mem_append_right _ h))) (by decide +kernel))) (goodIn_sub (fun _ h => List.mem_cons_of_mem _ (List.mem_append_right _ h)) (by decide +kernel))
set_option maxRecDepth 20000 in
theorem gL_take_X6_take : GoodIn wsL_take (wsV RL 30 RX6 yX6_take wsX6_take) := goodIn_app (goodIn_of _ (by decide +kernel)) ggL_take_X6_take
set_option maxRecDepth 20000 in
theorem ggL_costume_X6_costume : GoodIn wsL_costume wsX6_costume := goodIn_ca (goodIn_ca (goodIn_ca (goodIn_r _ [8, 9, 10, 11, 12, 13, 14, 7, 15, 16, 17, 18, 19, 20, 21, 22, 23, 24, 25, 26, 27, 28, 29, 30, 31, 32, 33, 34, 35, 36, 37, 38, 39, 40, 41, 42] (by decide +kernel) (by decide +kernel)) (goodIn_sub (fun _ h => List.mem_cons_of_mem _ (List.mem_append_left _ (List.mem_append_left _ (List.mem_append_right _ h)))) (by decide +kernel))) (goodIn_sub (fun _ h => List.mem_cons_of_mem _ (List.mem_append_left _ (List.mem_append_right _ h))) (by decide +kernel))) (goodIn_sub (fun _ h => List.mem_cons_of_mem _ (List.mem_append_right _ h)) (by decide +kernel))
set_option maxRecDepth 20000 in
theorem gL_costume_X6_costume : GoodIn wsL_costume (wsV RL 33 RX6 yX6_costume wsX6_costume) := goodIn_app (goodIn_of _ (by decide +kernel)) ggL_costume_X6_costume
set_option maxRecDepth 20000 in
theorem ggL_sizeOf_X6_sizeOf : GoodIn wsL_sizeOf wsX6_sizeOf := goodIn_ca (goodIn_r _ [6, 7, 8, 9, 10, 11, 5, 12, 13, 14, 15, 16, 17, 18, 19, 20, 21, 22, 23, 24, 25, 26] (by decide +kernel) (by decide +kernel)) (goodIn_sub (fun _ h => List.mem_cons_of_mem _ (List.mem_append_right _ h)) (by decide +kernel))
set_option maxRecDepth 20000 in
theorem gL_sizeOf_X6_sizeOf : GoodIn wsL_sizeOf (wsV RL 36 RX6 yX6_sizeOf wsX6_sizeOf) := goodIn_app (goodIn_of _ (by decide +kernel)) ggL_sizeOf_X6_sizeOf
set_option maxRecDepth 20000 in
theorem ggL_cold_X6_cold : GoodIn wsL_cold wsX6_cold := goodIn_ca (goodIn_ca (goodIn_r _ [7, 8, 9, 10, 11, 6, 12, 13, 14, 15, 16, 17, 18, 19, 20, 21, 22, 23, 24, 25, 26, 27, 28, 29, 30, 31, 32, 33, 34, 35, 36, 37, 38, 39, 40] (by decide +kernel) (by decide +kernel)) (goodIn_sub (fun _ h => List.mem_cons_of_mem _ (List.mem_append_left _ (List.mem_append_right _ h))) (by decide +kernel))) (goodIn_sub (fun _ h => List.mem_cons_of_mem _ (List.mem_append_right _ h)) (by decide +kernel))
set_option maxRecDepth 20000 in
theorem gL_cold_X6_cold : GoodIn wsL_cold (wsV RL 39 RX6 yX6_cold wsX6_cold) := goodIn_app (goodIn_of _ (by decide +kernel)) ggL_cold_X6_cold
set_option maxRecDepth 20000 in
theorem ggL_isIll_X6_isIll : GoodIn wsL_isIll wsX6_isIll := goodIn_ca (goodIn_ca (goodIn_r _ [7, 8, 9, 10, 11, 6, 12, 13, 14, 15, 16, 17, 18, 19, 20, 21, 22, 23, 24, 25, 26, 27, 28, 29, 30, 31, 32, 33] (by decide +kernel) (by decide +kernel)) (goodIn_sub (fun _ h => List.mem_cons_of_mem _ (List.mem_append_left _ (List.mem_append_right _ h))) (by decide +kernel))) (goodIn_sub (fun _ h => List.mem_cons_of_mem _ (List.mem_append_right _ h)) (by decide +kernel))
set_option maxRecDepth 20000 in
theorem gL_isIll_X6_isIll : GoodIn wsL_isIll (wsV RL 43 RX6 yX6_isIll wsX6_isIll) := goodIn_app (goodIn_of _ (by decide +kernel)) ggL_isIll_X6_isIll
set_option maxRecDepth 20000 in
theorem ggL_canPlay_X6_canPlay : GoodIn wsL_canPlay wsX6_canPlay := goodIn_ca (goodIn_ca (goodIn_r _ [7, 8, 9, 10, 11, 12, 6, 13, 14, 15, 16, 17, 18, 19, 20, 21, 22, 23, 24, 25, 26, 27, 28, 29, 30, 31, 32, 33, 34, 35, 36, 37, 38, 39, 40, 41, 42, 43, 44, 45, 46, 47, 48, 49, 50, 51, 52, 53, 54, 55, 56, 57, 58, 59, 60, 61, 62, 63, 64, 65, 66, 67, 68, 69, 70] (by decide +kernel) (by decide +kernel)) (goodIn_sub (fun _ h => List.mem_cons_of_mem _ (List.mem_append_left _ (List.mem_append_right _ h))) (by decide +kernel))) (goodIn_sub (fun _ h => List.mem_cons_of_mem _ (List.mem_append_right _ h)) (by decide +kernel))
set_option maxRecDepth 20000 in
theorem gL_canPlay_X6_canPlay : GoodIn wsL_canPlay (wsV RL 47 RX6 yX6_canPlay wsX6_canPlay) := goodIn_app (goodIn_of _ (by decide +kernel)) ggL_canPlay_X6_canPlay
set_option maxRecDepth 20000 in
theorem ggL_strain_X6_strain : GoodIn wsL_strain wsX6_strain := goodIn_ca (goodIn_r _ [6, 7, 8, 9, 10, 5, 11, 12, 13, 14, 15, 16, 17, 18, 19, 20, 21, 22, 23, 24, 25, 26, 27, 28, 29, 30, 31, 32, 33, 34, 35, 36, 37, 38, 39, 40, 41, 42, 43, 44, 45, 46, 47, 48, 49, 50, 51, 52, 53, 54, 55, 56, 57, 58, 59, 60, 61, 62, 63, 64, 65, 66, 67, 68, 69, 70, 71, 72, 73, 74, 75, 76, 77, 78, 79, 80, 81, 82, 83, 84, 85, 86, 87, 88, 89, 90, 91, 92, 93, 94, 95, 96, 97, 98, 99, 100, 101, 102, 103, 104, 105, 106, 107, 108, 109, 110, 111, 112, 113, 114, 115] (by decide +kernel) (by decide +kernel)) (goodIn_sub (fun _ h => List.mem_cons_of_mem _ (List.mem_append_right _ h)) (by decide +kernel))
set_option maxRecDepth 20000 in
theorem gL_strain_X6_strain : GoodIn wsL_strain (wsV RL 51 RX6 yX6_strain wsX6_strain) := goodIn_app (goodIn_of _ (by decide +kernel)) ggL_strain_X6_strain
set_option maxRecDepth 20000 in
theorem ggL_strainByAll_X6_strainByAll : GoodIn wsL_strainByAll wsX6_strainByAll := goodIn_ca (goodIn_r _ [6, 7, 8, 9, 10, 11, 12, 5, 13, 14, 15, 16, 17, 18, 19, 20, 21, 22, 23, 24, 25, 26, 27, 28, 29, 30, 31, 32, 33, 34, 35, 36, 37, 38, 39, 40, 41, 42, 43, 44, 45, 46, 47, 48, 49, 50, 51, 52, 53, 54, 55, 56, 57, 58, 59, 60, 61, 62, 63, 64, 65, 66, 67, 68, 69, 70, 71, 72, 73, 74, 75, 76, 77, 78, 79, 80, 81, 82, 83, 84, 85, 86, 87, 88, 89, 90, 91, 92, 93, 94, 95, 96, 97, 98, 99] (by decide +kernel) (by decide +kernel)) (goodIn_sub (fun _ h => List.mem_cons_of_mem _ (List.mem_append_right _ h)) (by decide +kernel))
set_option maxRecDepth 20000 in
theorem gL_strainByAll_X6_strainByAll : GoodIn wsL_strainByAll (wsV RL 54 RX6 yX6_strainByAll wsX6_strainByAll) := goodIn_app (goodIn_of _ (by decide +kernel)) ggL_strainByAll_X6_strainByAll
set_option maxRecDepth 20000 in
theorem ggL_work_X6_work : GoodIn wsL_work wsX6_work := goodIn_ca (goodIn_r _ [6, 7, 8, 9, 10, 5, 11, 12, 13, 14, 15, 16, 17, 18, 19, 20, 21, 22, 23, 24, 25, 26, 27, 28, 29, 30, 31, 32, 33, 34, 35, 36, 37, 38, 39, 40, 41, 42, 43, 44, 45, 46, 47, 48, 49, 50, 51, 52, 53, 54, 55, 56, 57, 58, 59, 60, 61, 62, 63, 64, 65, 66, 67, 68, 69, 70, 71, 72, 73, 74, 75, 76, 77, 78, 79, 80, 81, 82, 83, 84, 85, 86, 87, 88, 89, 90, 91, 92, 93, 94, 95, 96, 97, 98, 99, 100, 101, 102, 103, 104, 105, 106, 107, 108, 109, 110, 111, 112, 113, 114, 115] (by decide +kernel) (by decide +kernel)) (goodIn_sub (fun _ h => List.mem_cons_of_mem _ (List.mem_append_right _ h)) (by decide +kernel))
set_option maxRecDepth 20000 in
theorem gL_work_X6_work : GoodIn wsL_work (wsV RL 57 RX6 yX6_work wsX6_work) := goodIn_app (goodIn_of _ (by decide +kernel)) ggL_work_X6_work
set_option maxRecDepth 20000 in
theorem ggL_actorFor_X6_actorFor : GoodIn wsL_actorFor wsX6_actorFor := goodIn_ca (goodIn_ca (goodIn_r _ [7, 8, 9, 10, 11, 12, 6, 13, 14, 15, 16, 17, 18, 19, 20, 21, 22, 23, 24, 25, 26, 27, 28, 29, 30, 31, 32, 33, 34, 35, 36, 37, 38, 39, 40, 41, 42, 43, 44, 45, 46, 47, 48, 49, 50, 51, 52, 53, 54, 55, 56, 57, 58, 59, 60, 61, 62, 63, 64, 65, 66, 67, 68, 69, 70, 71, 72, 73, 74, 75, 76, 77, 78, 79, 80, 81, 82, 83, 84, 85, 86, 87, 88, 89, 90, 91, 92, 93, 94, 95, 96, 97, 98, 99, 100, 101, 102, 103, 104, 105, 106, 107, 108, 109, 110, 111, 112, 113, 114, 115, 116, 117, 118, 119, 120, 121, 122, 123, 124, 125] (by decide +kernel) (by decide +kernel)) (goodIn_sub (fun _ h => List.mem_cons_of_mem _ (List.mem_append_left _ (List.mem_append_right _ h))) (by decide +kernel))) (goodIn_sub (fun _ h => List.mem_cons_of_mem _ (List.mem_append_right _ h)) (by decide +kernel))
set_option maxRecDepth 20000 in
theorem gL_actorFor_X6_actorFor : GoodIn wsL_actorFor (wsV RL 60 RX6 yX6_actorFor wsX6_actorFor) := goodIn_app (goodIn_of _ (by decide +kernel)) ggL_actorFor_X6_actorFor
set_option maxRecDepth 20000 in
theorem ggL_chain_X6_chain : GoodIn wsL_chain wsX6_chain := goodIn_ca (goodIn_ca (goodIn_r _ [7, 8, 9, 10, 11, 6, 12, 13, 14, 15, 16, 17, 18, 19, 20, 21, 22, 23, 24, 25, 26, 27, 28, 29, 30, 31, 32, 33, 34, 35, 36, 37, 38, 39, 40, 41, 42, 43, 44, 45, 46, 47, 48, 49, 50, 51, 52, 53, 54, 55, 56, 57, 58, 59, 60, 61, 62, 63, 64, 65, 66, 67, 68, 69, 70, 71, 72, 73, 74, 75, 76, 77, 78, 79, 80, 81, 82, 83, 84, 85, 86, 87, 88, 89, 90, 91, 92, 93, 94, 95, 96, 97, 98, 99, 100, 101, 102, 103, 104, 105, 106, 107, 108, 109, 110, 111, 112, 113, 114, 115, 116, 117, 118, 119, 120, 121, 122, 123, 124, 125, 126, 127, 128, 129, 130] (by decide +kernel) (by decide +kernel)) (goodIn_sub (fun _ h => List.mem_cons_of_mem _ (List.mem_append_left _ (List.mem_append_right _ h))) (by decide +kernel))) (goodIn_sub (fun _ h => List.mem_cons_of_mem _ (List.mem_append_right _ h)) (by decide +kernel))
set_option maxRecDepth 20000 in
theorem gL_chain_X6_chain : GoodIn wsL_chain (wsV RL 63 RX6 yX6_chain wsX6_chain) := goodIn_app (goodIn_of _ (by decide +kernel)) ggL_chain_X6_chain
set_option maxRecDepth 20000 in
theorem ggL_show_X6_show : GoodIn wsL_show wsX6_show := goodIn_ca (goodIn_ca (goodIn_r _ [7, 8, 9, 10, 11, 12, 13, 14, 6, 15, 16, 17, 18, 19, 20, 21, 22, 23, 24, 25, 26, 27, 28, 29, 30, 31, 32, 33, 34, 35, 36, 37, 38, 39, 40, 41] (by decide +kernel) (by decide +kernel)) (goodIn_sub (fun _ h => List.mem_cons_of_mem _ (List.mem_append_left _ (List.mem_append_right _ h))) (by decide +kernel))) (goodIn_sub (fun _ h => List.mem_cons_of_mem _ (List.mem_append_right _ h)) (by decide +kernel))
set_option maxRecDepth 20000 in
theorem gL_show_X6_show : GoodIn wsL_show (wsV RL 66 RX6 yX6_show wsX6_show) := goodIn_app (goodIn_of _ (by decide +kernel)) ggL_show_X6_show
set_option maxRecDepth 20000 in
theorem ggL_sell_X6_sell : GoodIn wsL_sell wsX6_sell := goodIn_ca (goodIn_ca (goodIn_ca (goodIn_r _ [8, 9, 10, 11, 12, 13, 14, 15, 16, 17, 18, 19, 20, 7, 21, 22, 23, 24, 25, 26, 27, 28, 29, 30, 31, 32, 33, 34, 35, 36, 37, 38, 39, 40, 41, 42, 43, 44, 45, 46, 47, 48, 49, 50, 51, 52, 53, 54, 55, 56, 57, 58, 59, 60, 61, 62, 63, 64, 65, 66, 67] (by decide +kernel) (by decide +kernel)) (goodIn_sub (fun _ h => List.mem_cons_of_mem _ (List.mem_append_left _ (List.mem_append_left _ (List.mem_append_right _ h)))) (by decide +kernel))) (goodIn_sub (fun _ h => List.mem_cons_of_mem _ (List.mem_append_left _ (List.mem_append_right _ h))) (by decide +kernel))) (goodIn_sub (fun _ h => List.mem_cons_of_mem _ (List.mem_append_right _ h)) (by decide +kernel))
set_option maxRecDepth 20000 in
theorem gL_sell_X6_sell : GoodIn wsL_sell (wsV RL 69 RX6 yX6_sell wsX6_sell) := goodIn_app (goodIn_of _ (by decide +kernel)) ggL_sell_X6_sell
set_option maxRecDepth 20000 in
theorem ggL_play_X6_play : GoodIn wsL_play wsX6_play := goodIn_ca (goodIn_r _ [6, 7, 8, 9, 10, 11, 12, 13, 14, 15, 16, 17, 18, 19, 20, 5, 21, 22, 23, 24, 25, 26, 27, 28, 29, 30, 31, 32, 33, 34, 35, 36, 37, 38, 39, 40, 41, 42, 43, 44, 45, 46, 47, 48, 49, 50, 51, 52, 53, 54, 55, 56, 57, 58, 59, 60, 61, 62, 63, 64, 65, 66, 67, 68, 69, 70, 71, 72, 73, 74, 75, 76, 77, 78, 79, 80, 81, 82, 83, 84, 85, 86, 87, 88, 89, 90, 91, 92, 93, 94, 95, 96, 97, 98, 99, 100, 101, 102, 103, 104, 105, 106, 107, 108, 109, 110, 111, 112, 113, 114, 115, 116, 117, 118, 119, 120, 121, 122, 123, 124, 125, 126, 127, 128, 129, 130, 131, 132, 133, 134, 135, 136, 137, 138, 139, 140, 141, 142, 143, 144, 145, 146, 147, 148, 149, 150, 151, 152, 153, 154, 155, 156, 157, 158, 159, 160, 161, 162, 163, 164, 165, 166, 167, 168, 169, 170, 171, 172, 173, 174, 175, 176] (by decide +kernel) (by decide +kernel)) (goodIn_sub (fun _ h => List.mem_cons_of_mem _ (List.mem_append_right _ h)) (by decide +kernel))
set_option maxRecDepth 20000 in
theorem gL_play_X6_play : GoodIn wsL_play (wsV RL 73 RX6 yX6_play wsX6_play) := goodIn_app (goodIn_of _ (by decide +kernel)) ggL_play_X6_play
set_option maxRecDepth 20000 in
theorem ggL_stateOf_X6_stateOf : GoodIn wsL_stateOf wsX6_stateOf := goodIn_ca (goodIn_r _ [6, 7, 8, 9, 10, 11, 5, 12, 13, 14, 15, 16, 17, 18, 19, 20, 21, 22, 23, 24, 25, 26] (by decide +kernel) (by decide +kernel)) (goodIn_sub (fun _ h => List.mem_cons_of_mem _ (List.mem_append_right _ h)) (by decide +kernel))
set_option maxRecDepth 20000 in
theorem gL_stateOf_X6_stateOf : GoodIn wsL_stateOf (wsV RL 77 RX6 yX6_stateOf wsX6_stateOf) := goodIn_app (goodIn_of _ (by decide +kernel)) ggL_stateOf_X6_stateOf
set_option maxRecDepth 20000 in
theorem ggL_played_X6_played : GoodIn wsL_played wsX6_played := goodIn_ca (goodIn_r _ [6, 7, 8, 9, 10, 11, 5, 12, 13, 14, 15, 16, 17, 18, 19, 20, 21, 22, 23, 24, 25, 26, 27, 28, 29] (by decide +kernel) (by decide +kernel)) (goodIn_sub (fun _ h => List.mem_cons_of_mem _ (List.mem_append_right _ h)) (by decide +kernel))
set_option maxRecDepth 20000 in
theorem gL_played_X6_played : GoodIn wsL_played (wsV RL 80 RX6 yX6_played wsX6_played) := goodIn_app (goodIn_of _ (by decide +kernel)) ggL_played_X6_played
set_option maxRecDepth 20000 in
theorem ggL_refund_X6_refund : GoodIn wsL_refund wsX6_refund := goodIn_ca (goodIn_r _ [6, 7, 8, 9, 10, 11, 5, 12, 13, 14, 15, 16, 17, 18, 19, 20, 21, 22, 23, 24, 25, 26, 27, 28, 29, 30] (by decide +kernel) (by decide +kernel)) (goodIn_sub (fun _ h => List.mem_cons_of_mem _ (List.mem_append_right _ h)) (by decide +kernel))
set_option maxRecDepth 20000 in
theorem gL_refund_X6_refund : GoodIn wsL_refund (wsV RL 83 RX6 yX6_refund wsX6_refund) := goodIn_app (goodIn_of _ (by decide +kernel)) ggL_refund_X6_refund
set_option maxRecDepth 20000 in
theorem ggL_law_X6_init : GoodIn wsL_law wsX6_init := goodIn_r _ [9, 10, 11, 12, 13, 14, 15, 16, 17, 18, 19, 20, 21, 22, 23, 24, 25, 26, 27, 28, 29, 30, 31, 32, 33, 34, 35, 36, 37, 38, 39, 40, 41, 42, 43, 44, 45, 46, 47, 48, 49, 50, 51, 52, 53, 54, 55, 56, 57, 58, 59, 60, 61, 62, 63, 64, 65, 66, 67, 68, 69, 70, 71, 72, 73, 74, 75, 76, 77, 78, 79, 80, 81, 668, 669, 670, 631, 632, 633, 634, 635, 636, 637, 638, 671, 672, 673, 674, 675, 676, 677, 678, 679, 680, 681, 682, 683, 684, 685, 686, 687, 688, 689, 690, 691, 692] (by decide +kernel) (by decide +kernel)
set_option maxRecDepth 20000 in
theorem gL_law_X6_init : GoodIn wsL_law (wsX6_init) := ggL_law_X6_init
set_option maxRecDepth 20000 in
theorem ggL_law_X7_init : GoodIn wsL_law wsX7_init := goodIn_r _ [84, 85, 11, 12, 86, 43, 87, 88, 89, 90, 91, 92, 93, 94, 95, 96, 97, 98, 99, 100, 101, 102, 103, 104, 105, 106, 639, 640, 641, 642, 643, 644, 645, 646, 647, 648, 649, 650, 651, 652, 653, 654, 655, 656, 657, 658, 659, 660, 661, 662, 663, 664, 665, 666, 667] (by decide +kernel) (by decide +kernel)
set_option maxRecDepth 20000 in
theorem gL_law_X7_init : GoodIn wsL_law (wsX7_init) := ggL_law_X7_init
set_option maxRecDepth 20000 in
theorem ggL_law_L_setParts : GoodIn wsL_law wsL_setParts := goodIn_ca (goodIn_r _ [110, 111, 112, 113, 114, 2, 115, 116, 117, 37, 631, 632, 633, 634, 635, 636, 637, 638] (by decide +kernel) (by decide +kernel)) (goodIn_sub (fun _ h => List.mem_append_left _ (List.mem_append_left _ (List.mem_append_right _ h))) (by decide +kernel))
set_option maxRecDepth 20000 in
theorem gL_law_L_setParts : GoodIn wsL_law (va_wsS RL 90 yL_setParts wsL_setParts) := goodIn_app (goodIn_of _ (by decide +kernel)) ggL_law_L_setParts
set_option maxRecDepth 20000 in
theorem ggL_law_X7_setParts : GoodIn wsL_law wsX7_setParts := goodIn_r _ [121, 122, 86, 123, 124, 5, 125, 126, 127, 128, 129, 639, 640, 641, 642, 643, 644, 645, 646, 647, 648, 649, 650, 651, 652, 653, 654, 655, 656, 657, 658, 659, 660, 661, 662, 663, 664, 665, 666, 667] (by decide +kernel) (by decide +kernel)
set_option maxRecDepth 20000 in
theorem gL_law_X7_setParts : GoodIn wsL_law (wsV RL 95 RX7 yX7_setParts wsX7_setParts) := goodIn_app (goodIn_of _ (by decide +kernel)) ggL_law_X7_setParts
set_option maxRecDepth 20000 in
theorem ggL_law_X7_thrown : GoodIn wsL_law wsX7_thrown := goodIn_r _ [133, 122, 639, 640, 641, 642, 643, 644, 645, 646, 647, 648, 649, 650, 651, 652, 653, 654, 655, 656, 657, 658, 659, 660, 661, 662, 663, 664, 665, 666, 667] (by decide +kernel) (by decide +kernel)
set_option maxRecDepth 20000 in
theorem gL_law_X7_thrown : GoodIn wsL_law (wsV RL 96 RX7 yX7_thrown wsX7_thrown) := goodIn_app (goodIn_of _ (by decide +kernel)) ggL_law_X7_thrown
set_option maxRecDepth 20000 in
theorem ggL_law_L_setSize : GoodIn wsL_law wsL_setSize := goodIn_ca (goodIn_ca (goodIn_r _ [136, 137, 111, 138, 139, 140, 2, 141, 16, 142, 143, 144, 145, 146, 147, 148, 149, 150, 116, 117, 631, 632, 633, 634, 635, 636, 637, 638, 668, 669, 670] (by decide +kernel) (by decide +kernel)) (goodIn_sub (fun _ h => List.mem_append_left _ (List.mem_append_right _ h)) (by decide +kernel))) (goodIn_sub (fun _ h => List.mem_append_left _ (List.mem_append_left _ (List.mem_append_right _ h))) (by decide +kernel))
set_option maxRecDepth 20000 in
theorem gL_law_L_setSize : GoodIn wsL_law (va_wsS RL 99 yL_setSize wsL_setSize) := goodIn_app (goodIn_of _ (by decide +kernel)) ggL_law_L_setSize
set_option maxRecDepth 20000 in
theorem ggL_law_X7_setSize : GoodIn wsL_law wsX7_setSize := goodIn_r _ [154, 122, 87, 155, 156, 5, 157, 123, 124, 125, 126, 127, 128, 129, 639, 640, 641, 642, 643, 644, 645, 646, 647, 648, 649, 650, 651, 652, 653, 654, 655, 656, 657, 658, 659, 660, 661, 662, 663, 664, 665, 666, 667] (by decide +kernel) (by decide +kernel)
set_option maxRecDepth 20000 in
theorem gL_law_X7_setSize : GoodIn wsL_law (wsV RL 102 RX7 yX7_setSize wsX7_setSize) := goodIn_app (goodIn_of _ (by decide +kernel)) ggL_law_X7_setSize
set_option maxRecDepth 20000 in
theorem ggL_law_L_learn : GoodIn wsL_law wsL_learn := goodIn_ca (goodIn_ca (goodIn_r _ [160, 137, 161, 162, 163, 164, 2, 165, 166, 167, 16, 168, 143, 144, 145, 146, 147, 169, 170, 171, 172, 173, 174, 175, 176, 177, 178, 179, 180, 181, 182, 183, 184, 631, 632, 633, 634, 635, 636, 637, 638, 668, 669, 670] (by decide +kernel) (by decide +kernel)) (goodIn_sub (fun _ h => List.mem_append_right _ h) (by decide +kernel))) (goodIn_sub (fun _ h => List.mem_append_left _ (List.mem_append_right _ h)) (by decide +kernel))
set_option maxRecDepth 20000 in
theorem gL_law_L_learn : GoodIn wsL_law (va_wsS RL 103 yL_learn wsL_learn) := goodIn_app (goodIn_of _ (by decide +kernel)) ggL_law_L_learn
set_option maxRecDepth 20000 in
theorem ggL_law_X7_learn : GoodIn wsL_law wsX7_learn := goodIn_r _ [188, 122, 88, 155, 156, 5, 157, 123, 124, 125, 189, 190, 191, 126, 127, 128, 129, 192, 193, 194, 195, 196, 197, 198, 199, 639, 640, 641, 642, 643, 644, 645, 646, 647, 648, 649, 650, 651, 652, 653, 654, 655, 656, 657, 658, 659, 660, 661, 662, 663, 664, 665, 666, 667] (by decide +kernel) (by decide +kernel)
set_option maxRecDepth 20000 in
theorem gL_law_X7_learn : GoodIn wsL_law (wsV RL 106 RX7 yX7_learn wsX7_learn) := goodIn_app (goodIn_of _ (by decide +kernel)) ggL_law_X7_learn
set_option maxRecDepth 20000 in
theorem ggL_law_L_put : GoodIn wsL_law wsL_put := goodIn_ca (goodIn_ca (goodIn_r _ [202, 137, 161, 203, 204, 205, 2, 206, 166, 167, 20, 169, 170, 171, 146, 147, 143, 144, 145, 207, 208, 209, 19, 210, 51, 50, 211, 212, 213, 214, 215, 216, 217, 218, 631, 632, 633, 634, 635, 636, 637, 638, 671, 672] (by decide +kernel) (by decide +kernel)) (goodIn_sub (fun _ h => List.mem_append_right _ h) (by decide +kernel))) (goodIn_sub (fun _ h => List.mem_append_left _ (List.mem_append_right _ h)) (by decide +kernel))
set_option maxRecDepth 20000 in
theorem gL_law_L_put : GoodIn wsL_law (va_wsS RL 107 yL_put wsL_put) := goodIn_app (goodIn_of _ (by decide +kernel)) ggL_law_L_put
set_option maxRecDepth 20000 in
theorem ggL_law_X7_put : GoodIn wsL_law wsX7_put := goodIn_r _ [222, 122, 90, 89, 189, 190, 5, 191, 123, 124, 125, 155, 156, 157, 126, 127, 128, 129, 223, 224, 225, 226, 639, 640, 641, 642, 643, 644, 645, 646, 647, 648, 649, 650, 651, 652, 653, 654, 655, 656, 657, 658, 659, 660, 661, 662, 663, 664, 665, 666, 667] (by decide +kernel) (by decide +kernel)
set_option maxRecDepth 20000 in
theorem gL_law_X7_put : GoodIn wsL_law (wsV RL 109 RX7 yX7_put wsX7_put) := goodIn_app (goodIn_of _ (by decide +kernel)) ggL_law_X7_put
set_option maxRecDepth 20000 in
theorem ggL_law_L_take : GoodIn wsL_law wsL_take := goodIn_ca (goodIn_ca (goodIn_r _ [229, 137, 161, 230, 231, 232, 2, 233, 166, 167, 20, 169, 170, 171, 146, 147, 143, 144, 145, 207, 208, 209, 19, 210, 51, 50, 234, 235, 236, 237, 631, 632, 633, 634, 635, 636, 637, 638, 671, 672] (by decide +kernel) (by decide +kernel)) (goodIn_sub (fun _ h => List.mem_append_right _ h) (by decide +kernel))) (goodIn_sub (fun _ h => List.mem_append_left _ (List.mem_append_right _ h)) (by decide +kernel))
set_option maxRecDepth 20000 in
theorem gL_law_L_take : GoodIn wsL_law (va_wsS RL 110 yL_take wsL_take) := goodIn_app (goodIn_of _ (by decide +kernel)) ggL_law_L_take
set_option maxRecDepth 20000 in
theorem ggL_law_X7_take : GoodIn wsL_law wsX7_take := goodIn_r _ [241, 122, 90, 89, 189, 190, 5, 191, 123, 124, 125, 155, 156, 157, 126, 127, 128, 129, 223, 224, 225, 226, 639, 640, 641, 642, 643, 644, 645, 646, 647, 648, 649, 650, 651, 652, 653, 654, 655, 656, 657, 658, 659, 660, 661, 662, 663, 664, 665, 666, 667] (by decide +kernel) (by decide +kernel)
set_option maxRecDepth 20000 in
theorem gL_law_X7_take : GoodIn wsL_law (wsV RL 112 RX7 yX7_take wsX7_take) := goodIn_app (goodIn_of _ (by decide +kernel)) ggL_law_X7_take
set_option maxRecDepth 20000 in
theorem ggL_law_L_costume : GoodIn wsL_law wsL_costume := goodIn_ca (goodIn_ca (goodIn_ca (goodIn_r _ [244, 137, 111, 161, 245, 246, 247, 2, 248, 166, 167, 24, 249, 169, 170, 171, 146, 147, 148, 149, 150, 116, 117, 250, 251, 252, 23, 253, 56, 254, 55, 631, 632, 633, 634, 635, 636, 637, 638, 673, 674, 675, 676] (by decide +kernel) (by decide +kernel)) (goodIn_sub (fun _ h => List.mem_append_right _ h) (by decide +kernel))) (goodIn_sub (fun _ h => List.mem_append_left _ (List.mem_append_right _ h)) (by decide +kernel))) (goodIn_sub (fun _ h => List.mem_append_left _ (List.mem_append_left _ (List.mem_append_right _ h))) (by decide +kernel))
set_option maxRecDepth 20000 in
theorem gL_law_L_costume : GoodIn wsL_law (va_wsS RL 113 yL_costume wsL_costume) := goodIn_app (goodIn_of _ (by decide +kernel)) ggL_law_L_costume
set_option maxRecDepth 20000 in
theorem ggL_law_X7_costume : GoodIn wsL_law wsX7_costume := goodIn_r _ [258, 122, 259, 91, 92, 189, 190, 5, 191, 123, 124, 125, 126, 127, 128, 129, 639, 640, 641, 642, 643, 644, 645, 646, 647, 648, 649, 650, 651, 652, 653, 654, 655, 656, 657, 658, 659, 660, 661, 662, 663, 664, 665, 666, 667] (by decide +kernel) (by decide +kernel)
set_option maxRecDepth 20000 in
theorem gL_law_X7_costume : GoodIn wsL_law (wsV RL 115 RX7 yX7_costume wsX7_costume) := goodIn_app (goodIn_of _ (by decide +kernel)) ggL_law_X7_costume
set_option maxRecDepth 20000 in
theorem ggL_law_L_sizeOf : GoodIn wsL_law wsL_sizeOf := goodIn_ca (goodIn_r _ [262, 137, 263, 264, 265, 2, 266, 24, 249, 267, 268, 269, 270, 146, 147, 631, 632, 633, 634, 635, 636, 637, 638, 673, 674, 675, 676] (by decide +kernel) (by decide +kernel)) (goodIn_sub (fun _ h => List.mem_append_left _ (List.mem_append_right _ h)) (by decide +kernel))
set_option maxRecDepth 20000 in
theorem gL_law_L_sizeOf : GoodIn wsL_law (va_wsS RL 116 yL_sizeOf wsL_sizeOf) := goodIn_app (goodIn_of _ (by decide +kernel)) ggL_law_L_sizeOf
set_option maxRecDepth 20000 in
theorem ggL_law_X7_sizeOf : GoodIn wsL_law wsX7_sizeOf := goodIn_r _ [274, 122, 259, 92, 123, 124, 5, 125, 126, 127, 128, 129, 639, 640, 641, 642, 643, 644, 645, 646, 647, 648, 649, 650, 651, 652, 653, 654, 655, 656, 657, 658, 659, 660, 661, 662, 663, 664, 665, 666, 667] (by decide +kernel) (by decide +kernel)
set_option maxRecDepth 20000 in
theorem gL_law_X7_sizeOf : GoodIn wsL_law (wsV RL 118 RX7 yX7_sizeOf wsX7_sizeOf) := goodIn_app (goodIn_of _ (by decide +kernel)) ggL_law_X7_sizeOf
set_option maxRecDepth 20000 in
theorem ggL_law_L_cold : GoodIn wsL_law wsL_cold := goodIn_ca (goodIn_ca (goodIn_r _ [277, 137, 111, 278, 279, 280, 2, 281, 38, 16, 143, 144, 145, 146, 147, 282, 283, 284, 116, 117, 285, 286, 287, 15, 288, 46, 289, 290, 173, 174, 631, 632, 633, 634, 635, 636, 637, 638, 668, 669, 670] (by decide +kernel) (by decide +kernel)) (goodIn_sub (fun _ h => List.mem_append_left _ (List.mem_append_right _ h)) (by decide +kernel))) (goodIn_sub (fun _ h => List.mem_append_left _ (List.mem_append_left _ (List.mem_append_right _ h))) (by decide +kernel))
set_option maxRecDepth 20000 in
theorem gL_law_L_cold : GoodIn wsL_law (va_wsS RL 119 yL_cold wsL_cold) := goodIn_app (goodIn_of _ (by decide +kernel)) ggL_law_L_cold
set_option maxRecDepth 20000 in
theorem ggL_law_X7_cold : GoodIn wsL_law wsX7_cold := goodIn_r _ [294, 122, 295, 94, 155, 156, 5, 157, 123, 124, 125, 126, 127, 128, 129, 639, 640, 641, 642, 643, 644, 645, 646, 647, 648, 649, 650, 651, 652, 653, 654, 655, 656, 657, 658, 659, 660, 661, 662, 663, 664, 665, 666, 667] (by decide +kernel) (by decide +kernel)
set_option maxRecDepth 20000 in
theorem gL_law_X7_cold : GoodIn wsL_law (wsV RL 122 RX7 yX7_cold wsX7_cold) := goodIn_app (goodIn_of _ (by decide +kernel)) ggL_law_X7_cold
set_option maxRecDepth 20000 in
theorem ggL_law_L_isIll : GoodIn wsL_law wsL_isIll := goodIn_ca (goodIn_ca (goodIn_r _ [298, 137, 111, 299, 300, 301, 2, 302, 16, 303, 143, 144, 145, 146, 147, 282, 283, 284, 116, 117, 304, 289, 290, 631, 632, 633, 634, 635, 636, 637, 638, 668, 669, 670] (by decide +kernel) (by decide +kernel)) (goodIn_sub (fun _ h => List.mem_append_left _ (List.mem_append_right _ h)) (by decide +kernel))) (goodIn_sub (fun _ h => List.mem_append_left _ (List.mem_append_left _ (List.mem_append_right _ h))) (by decide +kernel))
set_option maxRecDepth 20000 in
theorem gL_law_L_isIll : GoodIn wsL_law (va_wsS RL 123 yL_isIll wsL_isIll) := goodIn_app (goodIn_of _ (by decide +kernel)) ggL_law_L_isIll
set_option maxRecDepth 20000 in
theorem ggL_law_X7_isIll : GoodIn wsL_law wsX7_isIll := goodIn_r _ [308, 122, 94, 155, 156, 5, 157, 123, 124, 125, 126, 127, 128, 129, 309, 310, 311, 639, 640, 641, 642, 643, 644, 645, 646, 647, 648, 649, 650, 651, 652, 653, 654, 655, 656, 657, 658, 659, 660, 661, 662, 663, 664, 665, 666, 667] (by decide +kernel) (by decide +kernel)
set_option maxRecDepth 20000 in
theorem gL_law_X7_isIll : GoodIn wsL_law (wsV RL 125 RX7 yX7_isIll wsX7_isIll) := goodIn_app (goodIn_of _ (by decide +kernel)) ggL_law_X7_isIll
set_option maxRecDepth 20000 in
theorem ggL_law_L_canPlay : GoodIn wsL_law wsL_canPlay := goodIn_ca (goodIn_ca (goodIn_r _ [314, 137, 111, 315, 316, 317, 2, 318, 20, 16, 303, 143, 144, 145, 146, 147, 169, 170, 171, 282, 283, 284, 116, 117, 207, 208, 209, 19, 210, 51, 50, 319, 320, 321, 322, 142, 168, 24, 304, 289, 290, 323, 324, 325, 23, 326, 254, 56, 55, 327, 328, 329, 330, 58, 631, 632, 633, 634, 635, 636, 637, 638, 668, 669, 670, 671, 672, 673, 674, 675, 676] (by decide +kernel) (by decide +kernel)) (goodIn_sub (fun _ h => List.mem_append_left _ (List.mem_append_right _ h)) (by decide +kernel))) (goodIn_sub (fun _ h => List.mem_append_left _ (List.mem_append_left _ (List.mem_append_right _ h))) (by decide +kernel))
set_option maxRecDepth 20000 in
theorem gL_law_L_canPlay : GoodIn wsL_law (va_wsS RL 126 yL_canPlay wsL_canPlay) := goodIn_app (goodIn_of _ (by decide +kernel)) ggL_law_L_canPlay
set_option maxRecDepth 20000 in
theorem ggL_law_X7_canPlay : GoodIn wsL_law wsX7_canPlay := goodIn_r _ [334, 122, 155, 156, 5, 157, 123, 124, 125, 189, 190, 191, 126, 127, 128, 129, 309, 310, 311, 335, 336, 337, 338, 94, 223, 224, 225, 226, 90, 89, 192, 193, 194, 195, 88, 339, 340, 341, 342, 259, 91, 92, 87, 343, 344, 345, 346, 93, 639, 640, 641, 642, 643, 644, 645, 646, 647, 648, 649, 650, 651, 652, 653, 654, 655, 656, 657, 658, 659, 660, 661, 662, 663, 664, 665, 666, 667] (by decide +kernel) (by decide +kernel)
set_option maxRecDepth 20000 in
theorem gL_law_X7_canPlay : GoodIn wsL_law (wsV RL 128 RX7 yX7_canPlay wsX7_canPlay) := goodIn_app (goodIn_of _ (by decide +kernel)) ggL_law_X7_canPlay
set_option maxRecDepth 20000 in
theorem ggL_law_L_strain : GoodIn wsL_law wsL_strain := goodIn_ca (goodIn_r _ [349, 111, 350, 351, 352, 2, 353, 16, 303, 282, 283, 284, 116, 117, 354, 355, 356, 357, 28, 37, 358, 359, 360, 361, 20, 24, 142, 362, 363, 364, 27, 365, 63, 366, 367, 368, 369, 19, 370, 51, 50, 319, 320, 321, 322, 168, 304, 289, 290, 323, 324, 325, 23, 326, 254, 56, 55, 327, 328, 329, 330, 58, 371, 372, 373, 374, 64, 375, 376, 377, 378, 379, 380, 381, 382, 383, 384, 385, 65, 386, 179, 180, 181, 182, 183, 184, 387, 388, 389, 390, 173, 174, 391, 392, 393, 631, 632, 633, 634, 635, 636, 637, 638, 668, 669, 670, 677, 678, 679, 680, 671, 672, 673, 674, 675, 676] (by decide +kernel) (by decide +kernel)) (goodIn_sub (fun _ h => List.mem_append_left _ (List.mem_append_left _ (List.mem_append_right _ h))) (by decide +kernel))
set_option maxRecDepth 20000 in
theorem gL_law_L_strain : GoodIn wsL_law (va_wsS RL 129 yL_strain wsL_strain) := goodIn_app (goodIn_of _ (by decide +kernel)) ggL_law_L_strain
set_option maxRecDepth 20000 in
theorem ggL_law_X7_strain : GoodIn wsL_law wsX7_strain := goodIn_r _ [397, 122, 398, 309, 310, 5, 311, 123, 124, 125, 126, 127, 128, 129, 399, 400, 401, 402, 403, 105, 86, 404, 405, 406, 407, 90, 89, 104, 335, 336, 337, 338, 94, 223, 224, 225, 226, 192, 193, 194, 195, 88, 339, 340, 341, 342, 259, 91, 92, 87, 343, 344, 345, 346, 93, 408, 409, 410, 411, 412, 413, 414, 415, 639, 640, 641, 642, 643, 644, 645, 646, 647, 648, 649, 650, 651, 652, 653, 654, 655, 656, 657, 658, 659, 660, 661, 662, 663, 664, 665, 666, 667] (by decide +kernel) (by decide +kernel)
set_option maxRecDepth 20000 in
theorem gL_law_X7_strain : GoodIn wsL_law (wsV RL 131 RX7 yX7_strain wsX7_strain) := goodIn_app (goodIn_of _ (by decide +kernel)) ggL_law_X7_strain
set_option maxRecDepth 20000 in
theorem ggL_law_L_strainByAll : GoodIn wsL_law wsL_strainByAll := goodIn_ca (goodIn_r _ [418, 111, 419, 420, 421, 2, 422, 16, 303, 28, 37, 282, 283, 284, 116, 117, 358, 359, 360, 361, 20, 24, 142, 362, 363, 364, 27, 365, 63, 366, 367, 368, 369, 19, 370, 51, 50, 319, 320, 321, 322, 168, 304, 289, 290, 323, 324, 325, 23, 326, 254, 56, 55, 327, 328, 329, 330, 58, 371, 372, 373, 374, 64, 375, 376, 377, 378, 379, 380, 381, 423, 424, 425, 426, 427, 428, 429, 173, 174, 631, 632, 633, 634, 635, 636, 637, 638, 668, 669, 670, 677, 678, 679, 680, 671, 672, 673, 674, 675, 676] (by decide +kernel) (by decide +kernel)) (goodIn_sub (fun _ h => List.mem_append_left _ (List.mem_append_left _ (List.mem_append_right _ h))) (by decide +kernel))
set_option maxRecDepth 20000 in
theorem gL_law_L_strainByAll : GoodIn wsL_law (va_wsS RL 132 yL_strainByAll wsL_strainByAll) := goodIn_app (goodIn_of _ (by decide +kernel)) ggL_law_L_strainByAll
set_option maxRecDepth 20000 in
theorem ggL_law_X7_strainByAll : GoodIn wsL_law wsX7_strainByAll := goodIn_r _ [433, 122, 398, 309, 310, 5, 311, 123, 124, 125, 126, 127, 128, 129, 399, 400, 401, 402, 403, 105, 86, 404, 405, 406, 407, 90, 89, 104, 335, 336, 337, 338, 94, 223, 224, 225, 226, 192, 193, 194, 195, 88, 339, 340, 341, 342, 259, 91, 92, 87, 343, 344, 345, 346, 93, 408, 409, 410, 411, 412, 413, 414, 415, 639, 640, 641, 642, 643, 644, 645, 646, 647, 648, 649, 650, 651, 652, 653, 654, 655, 656, 657, 658, 659, 660, 661, 662, 663, 664, 665, 666, 667] (by decide +kernel) (by decide +kernel)
set_option maxRecDepth 20000 in
theorem gL_law_X7_strainByAll : GoodIn wsL_law (wsV RL 134 RX7 yX7_strainByAll wsX7_strainByAll) := goodIn_app (goodIn_of _ (by decide +kernel)) ggL_law_X7_strainByAll
set_option maxRecDepth 20000 in
theorem ggL_law_L_work : GoodIn wsL_law wsL_work := goodIn_ca (goodIn_r _ [436, 111, 437, 438, 439, 2, 440, 16, 303, 282, 283, 284, 116, 117, 354, 355, 356, 357, 28, 37, 358, 359, 360, 361, 20, 24, 142, 362, 363, 364, 27, 365, 63, 366, 367, 368, 369, 19, 370, 51, 50, 319, 320, 321, 322, 168, 304, 289, 290, 323, 324, 325, 23, 326, 254, 56, 55, 327, 328, 329, 330, 58, 371, 372, 373, 374, 64, 375, 376, 377, 378, 379, 380, 381, 382, 383, 384, 385, 65, 386, 179, 180, 181, 182, 183, 184, 387, 388, 389, 390, 173, 174, 441, 442, 443, 631, 632, 633, 634, 635, 636, 637, 638, 668, 669, 670, 677, 678, 679, 680, 671, 672, 673, 674, 675, 676] (by decide +kernel) (by decide +kernel)) (goodIn_sub (fun _ h => List.mem_append_left _ (List.mem_append_left _ (List.mem_append_right _ h))) (by decide +kernel))
set_option maxRecDepth 20000 in
theorem gL_law_L_work : GoodIn wsL_law (va_wsS RL 135 yL_work wsL_work) := goodIn_app (goodIn_of _ (by decide +kernel)) ggL_law_L_work
set_option maxRecDepth 20000 in
theorem ggL_law_X7_work : GoodIn wsL_law wsX7_work := goodIn_r _ [447, 122, 403, 309, 310, 5, 311, 123, 124, 125, 126, 127, 128, 129, 399, 400, 401, 402, 398, 105, 86, 404, 405, 406, 407, 90, 89, 104, 335, 336, 337, 338, 94, 223, 224, 225, 226, 192, 193, 194, 195, 88, 339, 340, 341, 342, 259, 91, 92, 87, 343, 344, 345, 346, 93, 408, 409, 410, 411, 412, 413, 414, 415, 639, 640, 641, 642, 643, 644, 645, 646, 647, 648, 649, 650, 651, 652, 653, 654, 655, 656, 657, 658, 659, 660, 661, 662, 663, 664, 665, 666, 667] (by decide +kernel) (by decide +kernel)
set_option maxRecDepth 20000 in
theorem gL_law_X7_work : GoodIn wsL_law (wsV RL 137 RX7 yX7_work wsX7_work) := goodIn_app (goodIn_of _ (by decide +kernel)) ggL_law_X7_work
set_option maxRecDepth 20000 in
theorem ggL_law_L_actorFor : GoodIn wsL_law wsL_actorFor := goodIn_ca (goodIn_ca (goodIn_r _ [450, 137, 111, 451, 452, 453, 2, 454, 16, 303, 37, 169, 170, 171, 146, 147, 282, 283, 284, 116, 117, 354, 355, 356, 357, 28, 358, 359, 360, 361, 20, 24, 142, 362, 363, 364, 27, 365, 63, 366, 367, 368, 369, 19, 370, 51, 50, 319, 320, 321, 322, 168, 304, 289, 290, 323, 324, 325, 23, 326, 254, 56, 55, 327, 328, 329, 330, 58, 371, 372, 373, 374, 64, 375, 376, 377, 378, 379, 380, 381, 382, 383, 384, 385, 65, 386, 179, 180, 181, 182, 183, 184, 387, 388, 389, 390, 173, 174, 455, 456, 457, 458, 459, 460, 461, 631, 632, 633, 634, 635, 636, 637, 638, 668, 669, 670, 677, 678, 679, 680, 671, 672, 673, 674, 675, 676] (by decide +kernel) (by decide +kernel)) (goodIn_sub (fun _ h => List.mem_append_left _ (List.mem_append_right _ h)) (by decide +kernel))) (goodIn_sub (fun _ h => List.mem_append_left _ (List.mem_append_left _ (List.mem_append_right _ h))) (by decide +kernel))
set_option maxRecDepth 20000 in
theorem gL_law_L_actorFor : GoodIn wsL_law (va_wsS RL 138 yL_actorFor wsL_actorFor) := goodIn_app (goodIn_of _ (by decide +kernel)) ggL_law_L_actorFor
set_option maxRecDepth 20000 in
theorem ggL_law_X7_actorFor : GoodIn wsL_law wsX7_actorFor := goodIn_r _ [465, 122, 105, 189, 190, 5, 191, 123, 124, 125, 126, 127, 128, 129, 309, 310, 311, 399, 400, 401, 402, 398, 403, 86, 404, 405, 406, 407, 90, 89, 104, 335, 336, 337, 338, 94, 223, 224, 225, 226, 192, 193, 194, 195, 88, 339, 340, 341, 342, 259, 91, 92, 87, 343, 344, 345, 346, 93, 408, 409, 410, 411, 412, 413, 414, 415, 639, 640, 641, 642, 643, 644, 645, 646, 647, 648, 649, 650, 651, 652, 653, 654, 655, 656, 657, 658, 659, 660, 661, 662, 663, 664, 665, 666, 667] (by decide +kernel) (by decide +kernel)
set_option maxRecDepth 20000 in
theorem gL_law_X7_actorFor : GoodIn wsL_law (wsV RL 140 RX7 yX7_actorFor wsX7_actorFor) := goodIn_app (goodIn_of _ (by decide +kernel)) ggL_law_X7_actorFor
set_option maxRecDepth 20000 in
theorem ggL_law_L_chain : GoodIn wsL_law wsL_chain := goodIn_ca (goodIn_ca (goodIn_r _ [468, 137, 111, 469, 470, 471, 2, 472, 16, 303, 143, 144, 145, 146, 147, 282, 283, 284, 116, 117, 354, 355, 356, 357, 28, 37, 358, 359, 360, 361, 20, 24, 142, 362, 363, 364, 27, 365, 63, 366, 367, 368, 369, 19, 370, 51, 50, 319, 320, 321, 322, 168, 304, 289, 290, 323, 324, 325, 23, 326, 254, 56, 55, 327, 328, 329, 330, 58, 371, 372, 373, 374, 64, 375, 376, 377, 378, 379, 380, 381, 382, 383, 384, 385, 65, 386, 179, 180, 181, 182, 183, 184, 387, 388, 389, 390, 173, 174, 172, 473, 474, 475, 476, 455, 456, 457, 458, 459, 460, 461, 631, 632, 633, 634, 635, 636, 637, 638, 668, 669, 670, 677, 678, 679, 680, 671, 672, 673, 674, 675, 676] (by decide +kernel) (by decide +kernel)) (goodIn_sub (fun _ h => List.mem_append_left _ (List.mem_append_right _ h)) (by decide +kernel))) (goodIn_sub (fun _ h => List.mem_append_left _ (List.mem_append_left _ (List.mem_append_right _ h))) (by decide +kernel))
set_option maxRecDepth 20000 in
theorem gL_law_L_chain : GoodIn wsL_law (va_wsS RL 141 yL_chain wsL_chain) := goodIn_app (goodIn_of _ (by decide +kernel)) ggL_law_L_chain
set_option maxRecDepth 20000 in
theorem ggL_law_X7_chain : GoodIn wsL_law wsX7_chain := goodIn_r _ [480, 122, 106, 105, 86, 155, 156, 5, 157, 123, 124, 125, 126, 127, 128, 129, 309, 310, 311, 399, 400, 401, 402, 398, 403, 404, 405, 406, 407, 90, 89, 104, 335, 336, 337, 338, 94, 223, 224, 225, 226, 192, 193, 194, 195, 88, 339, 340, 341, 342, 259, 91, 92, 87, 343, 344, 345, 346, 93, 408, 409, 410, 411, 412, 413, 414, 415, 639, 640, 641, 642, 643, 644, 645, 646, 647, 648, 649, 650, 651, 652, 653, 654, 655, 656, 657, 658, 659, 660, 661, 662, 663, 664, 665, 666, 667] (by decide +kernel) (by decide +kernel)
set_option maxRecDepth 20000 in
theorem gL_law_X7_chain : GoodIn wsL_law (wsV RL 143 RX7 yX7_chain wsX7_chain) := goodIn_app (goodIn_of _ (by decide +kernel)) ggL_law_X7_chain
set_option maxRecDepth 20000 in
theorem ggL_law_L_show : GoodIn wsL_law wsL_show := goodIn_ca (goodIn_ca (goodIn_r _ [483, 111, 161, 484, 485, 486, 2, 487, 166, 167, 38, 32, 488, 282, 283, 284, 116, 117, 489, 490, 491, 31, 492, 493, 72, 494, 495, 496, 497, 70, 631, 632, 633, 634, 635, 636, 637, 638, 681, 682, 683, 684] (by decide +kernel) (by decide +kernel)) (goodIn_sub (fun _ h => List.mem_append_right _ h) (by decide +kernel))) (goodIn_sub (fun _ h => List.mem_append_left _ (List.mem_append_left _ (List.mem_append_right _ h))) (by decide +kernel))
set_option maxRecDepth 20000 in
theorem gL_law_L_show : GoodIn wsL_law (va_wsS RL 144 yL_show wsL_show) := goodIn_app (goodIn_of _ (by decide +kernel)) ggL_law_L_show
set_option maxRecDepth 20000 in
theorem ggL_law_X7_show : GoodIn wsL_law wsX7_show := goodIn_r _ [501, 122, 295, 502, 95, 97, 123, 124, 5, 125, 126, 127, 128, 129, 503, 504, 505, 506, 639, 640, 641, 642, 643, 644, 645, 646, 647, 648, 649, 650, 651, 652, 653, 654, 655, 656, 657, 658, 659, 660, 661, 662, 663, 664, 665, 666, 667] (by decide +kernel) (by decide +kernel)
set_option maxRecDepth 20000 in
theorem gL_law_X7_show : GoodIn wsL_law (wsV RL 146 RX7 yX7_show wsX7_show) := goodIn_app (goodIn_of _ (by decide +kernel)) ggL_law_X7_show
set_option maxRecDepth 20000 in
theorem ggL_law_L_sell : GoodIn wsL_law wsL_sell := goodIn_ca (goodIn_ca (goodIn_ca (goodIn_r _ [509, 137, 111, 161, 510, 511, 512, 2, 513, 116, 117, 166, 167, 32, 488, 514, 36, 515, 20, 268, 269, 270, 146, 147, 169, 170, 171, 367, 368, 369, 19, 370, 51, 50, 516, 517, 518, 35, 519, 76, 520, 81, 77, 78, 79, 521, 631, 632, 633, 634, 635, 636, 637, 638, 681, 682, 683, 684, 685, 686, 687, 688, 689, 690, 691, 692, 671, 672] (by decide +kernel) (by decide +kernel)) (goodIn_sub (fun _ h => List.mem_append_left _ (List.mem_append_left _ (List.mem_append_right _ h))) (by decide +kernel))) (goodIn_sub (fun _ h => List.mem_append_right _ h) (by decide +kernel))) (goodIn_sub (fun _ h => List.mem_append_left _ (List.mem_append_right _ h)) (by decide +kernel))
set_option maxRecDepth 20000 in
theorem gL_law_L_sell : GoodIn wsL_law (va_wsS RL 147 yL_sell wsL_sell) := goodIn_app (goodIn_of _ (by decide +kernel)) ggL_law_L_sell
set_option maxRecDepth 20000 in
theorem ggL_law_X7_sell : GoodIn wsL_law wsX7_sell := goodIn_r _ [525, 122, 502, 96, 526, 90, 98, 99, 100, 101, 102, 89, 527, 123, 124, 5, 125, 189, 190, 191, 126, 127, 128, 129, 639, 640, 641, 642, 643, 644, 645, 646, 647, 648, 649, 650, 651, 652, 653, 654, 655, 656, 657, 658, 659, 660, 661, 662, 663, 664, 665, 666, 667] (by decide +kernel) (by decide +kernel)
set_option maxRecDepth 20000 in
theorem gL_law_X7_sell : GoodIn wsL_law (wsV RL 150 RX7 yX7_sell wsX7_sell) := goodIn_app (goodIn_of _ (by decide +kernel)) ggL_law_X7_sell
set_option maxRecDepth 20000 in
theorem ggL_law_L_play : GoodIn wsL_law wsL_play := goodIn_ca (goodIn_r _ [530, 161, 531, 532, 533, 2, 534, 166, 167, 38, 32, 489, 490, 491, 31, 492, 493, 72, 535, 536, 537, 538, 16, 303, 514, 37, 539, 354, 355, 356, 357, 28, 358, 359, 360, 361, 20, 24, 142, 362, 363, 364, 27, 365, 63, 366, 367, 368, 369, 19, 370, 51, 50, 319, 320, 321, 322, 168, 304, 289, 290, 323, 324, 325, 23, 326, 254, 56, 55, 327, 328, 329, 330, 58, 371, 372, 373, 374, 64, 375, 376, 377, 378, 379, 380, 381, 382, 383, 384, 385, 65, 386, 179, 180, 181, 182, 183, 184, 387, 388, 389, 390, 173, 174, 455, 456, 457, 458, 459, 460, 461, 540, 541, 542, 543, 544, 545, 546, 547, 548, 549, 550, 551, 36, 515, 552, 553, 554, 555, 556, 557, 558, 559, 391, 392, 393, 560, 561, 562, 35, 563, 81, 80, 521, 631, 632, 633, 634, 635, 636, 637, 638, 681, 682, 683, 684, 668, 669, 670, 677, 678, 679, 680, 671, 672, 673, 674, 675, 676, 685, 686, 687, 688, 689, 690, 691, 692] (by decide +kernel) (by decide +kernel)) (goodIn_sub (fun _ h => List.mem_append_right _ h) (by decide +kernel))
set_option maxRecDepth 20000 in
theorem gL_law_L_play : GoodIn wsL_law (va_wsS RL 151 yL_play wsL_play) := goodIn_app (goodIn_of _ (by decide +kernel)) ggL_law_L_play
set_option maxRecDepth 20000 in
theorem ggL_law_X7_play : GoodIn wsL_law wsX7_play := goodIn_r _ [567, 122, 295, 96, 527, 126, 127, 128, 5, 129, 503, 504, 505, 506, 502, 95, 399, 400, 401, 402, 398, 403, 105, 86, 404, 405, 406, 407, 90, 89, 104, 335, 336, 337, 338, 94, 223, 224, 225, 226, 192, 193, 194, 195, 88, 339, 340, 341, 342, 259, 91, 92, 87, 343, 344, 345, 346, 93, 408, 409, 410, 411, 412, 413, 414, 415, 568, 569, 570, 571, 526, 98, 103, 99, 572, 573, 574, 575, 101, 100, 102, 576, 577, 578, 579, 97, 639, 640, 641, 642, 643, 644, 645, 646, 647, 648, 649, 650, 651, 652, 653, 654, 655, 656, 657, 658, 659, 660, 661, 662, 663, 664, 665, 666, 667] (by decide +kernel) (by decide +kernel)
set_option maxRecDepth 20000 in
theorem gL_law_X7_play : GoodIn wsL_law (wsV RL 154 RX7 yX7_play wsX7_play) := goodIn_app (goodIn_of _ (by decide +kernel)) ggL_law_X7_play
set_option maxRecDepth 20000 in
theorem ggL_law_X6_day : GoodIn wsL_law wsX6_day := goodIn_r _ [583, 38, 631, 632, 633, 634, 635, 636, 637, 638] (by decide +kernel) (by decide +kernel)
set_option maxRecDepth 20000 in
theorem gL_law_X6_day : GoodIn wsL_law (wsV RL 155 RX6 yX6_day wsX6_day) := goodIn_app (goodIn_of _ (by decide +kernel)) ggL_law_X6_day
set_option maxRecDepth 20000 in
theorem ggL_law_X7_day : GoodIn wsL_law wsX7_day := goodIn_r _ [587, 122, 295, 639, 640, 641, 642, 643, 644, 645, 646, 647, 648, 649, 650, 651, 652, 653, 654, 655, 656, 657, 658, 659, 660, 661, 662, 663, 664, 665, 666, 667] (by decide +kernel) (by decide +kernel)
set_option maxRecDepth 20000 in
theorem gL_law_X7_day : GoodIn wsL_law (wsV RL 158 RX7 yX7_day wsX7_day) := goodIn_app (goodIn_of _ (by decide +kernel)) ggL_law_X7_day
set_option maxRecDepth 20000 in
theorem ggL_law_L_stateOf : GoodIn wsL_law wsL_stateOf := goodIn_ca (goodIn_r _ [590, 137, 591, 592, 593, 2, 594, 32, 488, 514, 268, 269, 270, 146, 147, 631, 632, 633, 634, 635, 636, 637, 638, 681, 682, 683, 684] (by decide +kernel) (by decide +kernel)) (goodIn_sub (fun _ h => List.mem_append_left _ (List.mem_append_right _ h)) (by decide +kernel))
set_option maxRecDepth 20000 in
theorem gL_law_L_stateOf : GoodIn wsL_law (va_wsS RL 159 yL_stateOf wsL_stateOf) := goodIn_app (goodIn_of _ (by decide +kernel)) ggL_law_L_stateOf
set_option maxRecDepth 20000 in
theorem ggL_law_X7_stateOf : GoodIn wsL_law wsX7_stateOf := goodIn_r _ [598, 122, 502, 96, 123, 124, 5, 125, 126, 127, 128, 129, 639, 640, 641, 642, 643, 644, 645, 646, 647, 648, 649, 650, 651, 652, 653, 654, 655, 656, 657, 658, 659, 660, 661, 662, 663, 664, 665, 666, 667] (by decide +kernel) (by decide +kernel)
set_option maxRecDepth 20000 in
theorem gL_law_X7_stateOf : GoodIn wsL_law (wsV RL 161 RX7 yX7_stateOf wsX7_stateOf) := goodIn_app (goodIn_of _ (by decide +kernel)) ggL_law_X7_stateOf
set_option maxRecDepth 20000 in
theorem ggL_law_L_played : GoodIn wsL_law wsL_played := goodIn_ca (goodIn_r _ [601, 137, 602, 603, 604, 2, 605, 32, 488, 539, 268, 269, 270, 146, 147, 169, 170, 171, 631, 632, 633, 634, 635, 636, 637, 638, 681, 682, 683, 684] (by decide +kernel) (by decide +kernel)) (goodIn_sub (fun _ h => List.mem_append_left _ (List.mem_append_right _ h)) (by decide +kernel))
set_option maxRecDepth 20000 in
theorem gL_law_L_played : GoodIn wsL_law (va_wsS RL 162 yL_played wsL_played) := goodIn_app (goodIn_of _ (by decide +kernel)) ggL_law_L_played
set_option maxRecDepth 20000 in
theorem ggL_law_X7_played : GoodIn wsL_law wsX7_played := goodIn_r _ [609, 122, 502, 97, 123, 124, 5, 125, 189, 190, 191, 126, 127, 128, 129, 639, 640, 641, 642, 643, 644, 645, 646, 647, 648, 649, 650, 651, 652, 653, 654, 655, 656, 657, 658, 659, 660, 661, 662, 663, 664, 665, 666, 667] (by decide +kernel) (by decide +kernel)
set_option maxRecDepth 20000 in
theorem gL_law_X7_played : GoodIn wsL_law (wsV RL 164 RX7 yX7_played wsX7_played) := goodIn_app (goodIn_of _ (by decide +kernel)) ggL_law_X7_played
set_option maxRecDepth 20000 in
theorem ggL_law_L_refund : GoodIn wsL_law wsL_refund := goodIn_ca (goodIn_r _ [612, 137, 613, 614, 615, 2, 616, 36, 515, 617, 268, 269, 270, 146, 147, 631, 632, 633, 634, 635, 636, 637, 638, 685, 686, 687, 688, 689, 690, 691, 692] (by decide +kernel) (by decide +kernel)) (goodIn_sub (fun _ h => List.mem_append_left _ (List.mem_append_right _ h)) (by decide +kernel))
set_option maxRecDepth 20000 in
theorem gL_law_L_refund : GoodIn wsL_law (va_wsS RL 165 yL_refund wsL_refund) := goodIn_app (goodIn_of _ (by decide +kernel)) ggL_law_L_refund
set_option maxRecDepth 20000 in
theorem ggL_law_X7_refund : GoodIn wsL_law wsX7_refund := goodIn_r _ [621, 122, 526, 103, 123, 124, 5, 125, 126, 127, 128, 129, 639, 640, 641, 642, 643, 644, 645, 646, 647, 648, 649, 650, 651, 652, 653, 654, 655, 656, 657, 658, 659, 660, 661, 662, 663, 664, 665, 666, 667] (by decide +kernel) (by decide +kernel)
set_option maxRecDepth 20000 in
theorem gL_law_X7_refund : GoodIn wsL_law (wsV RL 167 RX7 yX7_refund wsX7_refund) := goodIn_app (goodIn_of _ (by decide +kernel)) ggL_law_X7_refund
set_option maxRecDepth 20000 in
theorem ggL_law_X6_takings : GoodIn wsL_law wsX6_takings := goodIn_r _ [625, 36, 626, 631, 632, 633, 634, 635, 636, 637, 638, 685, 686, 687, 688, 689, 690, 691, 692] (by decide +kernel) (by decide +kernel)
set_option maxRecDepth 20000 in
theorem gL_law_X6_takings : GoodIn wsL_law (wsV RL 168 RX6 yX6_takings wsX6_takings) := goodIn_app (goodIn_of _ (by decide +kernel)) ggL_law_X6_takings
set_option maxRecDepth 20000 in
theorem ggL_law_X7_takings : GoodIn wsL_law wsX7_takings := goodIn_r _ [630, 122, 527, 639, 640, 641, 642, 643, 644, 645, 646, 647, 648, 649, 650, 651, 652, 653, 654, 655, 656, 657, 658, 659, 660, 661, 662, 663, 664, 665, 666, 667] (by decide +kernel) (by decide +kernel)
set_option maxRecDepth 20000 in
theorem gL_law_X7_takings : GoodIn wsL_law (wsV RL 171 RX7 yX7_takings wsX7_takings) := goodIn_app (goodIn_of _ (by decide +kernel)) ggL_law_X7_takings
abbrev vwCl : List vw_C := [(RX0, TX0, 8), (RX1, TX1, 4), (RX2, TX2, 4), (RX3, TX3, 2), (RX4, TX4, 3), (RX5, TX5, 4), (RX6, TX6, 8), (RX7, TX7, 29)]
