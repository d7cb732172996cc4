def RX0 : String := "RankStock$Beast"
def TX0 : u_T := fun k => match k with
  | 0 => ("RankStock$Beast", "number", "I", true)
  | 1 => ("RankStock$Beast", "kind", "I", true)
  | 2 => ("RankStock$Beast", "trips", "I", false)
  | 3 => ("RankStock$Beast", "buckOffs", "I", false)
  | 4 => ("RankStock$Beast", "marks", "I", false)
  | 5 => ("RankStock$Beast", "draws", "I", false)
  | _ => ("RankStock$Beast", "days", "J", false)
def tyX0 : Nat → FieldType := fun k => match k with
  | 0 => .int
  | 1 => .int
  | 2 => .int
  | 3 => .int
  | 4 => .int
  | 5 => .int
  | _ => .long
abbrev wsX00 : List Cond := u_ws RX0 TX0 7
theorem nmX0 : ∀ a, a < 7 → ∀ b, b < 7 → a ≠ b → (TX0 a).2.1 ≠ (TX0 b).2.1 := by decide +kernel
theorem tyX0_ok : ∀ k, k < 7 → parseFieldDescriptor (TX0 k).2.2.1 = some (tyX0 k) := by decide +kernel
abbrev cX0_init : ByteArray := prog_2_method_1_code
def yX0_init : MethodName := ⟨RX0, "<init>", "(II)V"⟩
abbrev cX0_canBeDrawn : ByteArray := prog_2_method_2_code
def yX0_canBeDrawn : MethodName := ⟨RX0, "canBeDrawn", "(II)Z"⟩
abbrev cX0_noteDraw : ByteArray := prog_2_method_3_code
def yX0_noteDraw : MethodName := ⟨RX0, "noteDraw", "(I)V"⟩
abbrev cX0_hasAlwaysRested : ByteArray := prog_2_method_4_code
def yX0_hasAlwaysRested : MethodName := ⟨RX0, "hasAlwaysRested", "()Z"⟩
abbrev cX0_isAheadOf : ByteArray := prog_2_method_5_code
def yX0_isAheadOf : MethodName := ⟨RX0, "isAheadOf", "(LRankStock$Beast;)Z"⟩
def RX1 : String := "RankStock$Entry"
def TX1 : u_T := fun k => match k with
  | 0 => ("RankStock$Entry", "rider", "I", true)
  | 1 => ("RankStock$Entry", "set", "I", true)
  | 2 => ("RankStock$Entry", "wish", "I", true)
  | 3 => ("RankStock$Entry", "performance", "I", false)
  | 4 => ("RankStock$Entry", "beast", "LRankStock$Beast;", false)
  | 5 => ("RankStock$Entry", "isToRide", "Z", false)
  | 6 => ("RankStock$Entry", "isReRide", "Z", false)
  | 7 => ("RankStock$Entry", "hasOffer", "Z", false)
  | 8 => ("RankStock$Entry", "isCounting", "Z", false)
  | 9 => ("RankStock$Entry", "points", "I", false)
  | _ => ("RankStock$Entry", "money", "I", false)
def tyX1 : Nat → FieldType := fun k => match k with
  | 0 => .int
  | 1 => .int
  | 2 => .int
  | 3 => .int
  | 4 => .object "RankStock$Beast"
  | 5 => .boolean
  | 6 => .boolean
  | 7 => .boolean
  | 8 => .boolean
  | 9 => .int
  | _ => .int
abbrev wsX10 : List Cond := u_ws RX1 TX1 11
theorem nmX1 : ∀ a, a < 11 → ∀ b, b < 11 → a ≠ b → (TX1 a).2.1 ≠ (TX1 b).2.1 := by decide +kernel
theorem tyX1_ok : ∀ k, k < 11 → parseFieldDescriptor (TX1 k).2.2.1 = some (tyX1 k) := by decide +kernel
abbrev cX1_init : ByteArray := prog_3_method_1_code
def yX1_init : MethodName := ⟨RX1, "<init>", "(III)V"⟩
abbrev cX1_isPlaced : ByteArray := prog_3_method_2_code
def yX1_isPlaced : MethodName := ⟨RX1, "isPlaced", "()Z"⟩
abbrev cX1_beastNumber : ByteArray := prog_3_method_3_code
def yX1_beastNumber : MethodName := ⟨RX1, "beastNumber", "()I"⟩
abbrev cX1_takeRide : ByteArray := prog_3_method_4_code
def yX1_takeRide : MethodName := ⟨RX1, "takeRide", "(ZII)V"⟩
abbrev cX1_loseScore : ByteArray := prog_3_method_5_code
def yX1_loseScore : MethodName := ⟨RX1, "loseScore", "()V"⟩
def RX2 : String := "RankStock$Rodeo"
def TX2 : u_T := fun k => match k with
  | 0 => ("RankStock$Rodeo", "kind", "I", true)
  | 1 => ("RankStock$Rodeo", "mile", "I", true)
  | 2 => ("RankStock$Rodeo", "first", "I", true)
  | 3 => ("RankStock$Rodeo", "performances", "I", true)
  | 4 => ("RankStock$Rodeo", "places", "I", true)
  | 5 => ("RankStock$Rodeo", "added", "I", true)
  | 6 => ("RankStock$Rodeo", "fee", "I", true)
  | 7 => ("RankStock$Rodeo", "entries", "Ljava/util/ArrayList;", true)
  | 8 => ("RankStock$Rodeo", "byRider", "[LRankStock$Entry;", true)
  | 9 => ("RankStock$Rodeo", "state", "I", false)
  | _ => ("RankStock$Rodeo", "office", "I", false)
def tyX2 : Nat → FieldType := fun k => match k with
  | 0 => .int
  | 1 => .int
  | 2 => .int
  | 3 => .int
  | 4 => .int
  | 5 => .int
  | 6 => .int
  | 7 => .object "java/util/ArrayList"
  | 8 => .array (.object "RankStock$Entry")
  | 9 => .int
  | _ => .int
abbrev wsX20 : List Cond := u_ws RX2 TX2 11
theorem nmX2 : ∀ a, a < 11 → ∀ b, b < 11 → a ≠ b → (TX2 a).2.1 ≠ (TX2 b).2.1 := by decide +kernel
theorem tyX2_ok : ∀ k, k < 11 → parseFieldDescriptor (TX2 k).2.2.1 = some (tyX2 k) := by decide +kernel
abbrev cX2_init : ByteArray := prog_4_method_1_code
def yX2_init : MethodName := ⟨RX2, "<init>", "(IIIIIII)V"⟩
abbrev cX2_dayOf : ByteArray := prog_4_method_2_code
def yX2_dayOf : MethodName := ⟨RX2, "dayOf", "(I)I"⟩
abbrev cX2_addEntry : ByteArray := prog_4_method_3_code
def yX2_addEntry : MethodName := ⟨RX2, "addEntry", "(LRankStock$Entry;)V"⟩
abbrev cX2_entryOf : ByteArray := prog_4_method_4_code
def yX2_entryOf : MethodName := ⟨RX2, "entryOf", "(I)LRankStock$Entry;"⟩
abbrev cX2_countIn : ByteArray := prog_4_method_5_code
def yX2_countIn : MethodName := ⟨RX2, "countIn", "(I)I"⟩
abbrev cX2_countPlaced : ByteArray := prog_4_method_6_code
def yX2_countPlaced : MethodName := ⟨RX2, "countPlaced", "()I"⟩
abbrev cX2_pot : ByteArray := prog_4_method_7_code
def yX2_pot : MethodName := ⟨RX2, "pot", "()I"⟩
abbrev cX2_canBePaid : ByteArray := prog_4_method_8_code
def yX2_canBePaid : MethodName := ⟨RX2, "canBePaid", "()Z"⟩
abbrev cX2_countCounting : ByteArray := prog_4_method_9_code
def yX2_countCounting : MethodName := ⟨RX2, "countCounting", "()I"⟩
abbrev cX2_payOut : ByteArray := prog_4_method_10_code
def yX2_payOut : MethodName := ⟨RX2, "payOut", "()V"⟩
abbrev cX2_placeMoney : ByteArray := prog_4_method_11_code
def yX2_placeMoney : MethodName := ⟨RX2, "placeMoney", "(II)I"⟩
abbrev cX2_sharesOf : ByteArray := prog_4_method_12_code
def yX2_sharesOf : MethodName := ⟨RX2, "sharesOf", "(III)I"⟩
abbrev cX2_isEven : ByteArray := prog_4_method_13_code
def yX2_isEven : MethodName := ⟨RX2, "isEven", "()Z"⟩
def RX3 : String := "RankStock"
def TX3 : u_T := fun k => match k with
  | 0 => ("RankStock", "beasts", "Ljava/util/ArrayList;", true)
  | 1 => ("RankStock", "rodeos", "Ljava/util/ArrayList;", true)
  | 2 => ("RankStock", "riders", "I", false)
  | _ => ("RankStock", "hidden", "I", false)
def tyX3 : Nat → FieldType := fun k => match k with
  | 0 => .object "java/util/ArrayList"
  | 1 => .object "java/util/ArrayList"
  | 2 => .int
  | _ => .int
abbrev wsX30 : List Cond := u_ws RX3 TX3 4
theorem nmX3 : ∀ a, a < 4 → ∀ b, b < 4 → a ≠ b → (TX3 a).2.1 ≠ (TX3 b).2.1 := by decide +kernel
theorem tyX3_ok : ∀ k, k < 4 → parseFieldDescriptor (TX3 k).2.2.1 = some (tyX3 k) := by decide +kernel
abbrev cX3_init : ByteArray := prog_1_method_1_code
def yX3_init : MethodName := ⟨RX3, "<init>", "()V"⟩
abbrev cX3_beast : ByteArray := prog_1_method_2_code
def yX3_beast : MethodName := ⟨RX3, "beast", "(I)I"⟩
abbrev cX3_rider : ByteArray := prog_1_method_3_code
def yX3_rider : MethodName := ⟨RX3, "rider", "()I"⟩
abbrev cX3_rodeo : ByteArray := prog_1_method_4_code
def yX3_rodeo : MethodName := ⟨RX3, "rodeo", "(IIIIIII)I"⟩
abbrev cX3_rodeoIs : ByteArray := prog_1_method_5_code
def yX3_rodeoIs : MethodName := ⟨RX3, "rodeoIs", "(II)I"⟩
abbrev cX3_enter : ByteArray := prog_1_method_6_code
def yX3_enter : MethodName := ⟨RX3, "enter", "(IIII)I"⟩
abbrev cX3_close : ByteArray := prog_1_method_7_code
def yX3_close : MethodName := ⟨RX3, "close", "(I)I"⟩
abbrev cX3_placed : ByteArray := prog_1_method_8_code
def yX3_placed : MethodName := ⟨RX3, "placed", "(II)I"⟩
abbrev cX3_most : ByteArray := prog_1_method_9_code
def yX3_most : MethodName := ⟨RX3, "most", "(I)I"⟩
abbrev cX3_hide : ByteArray := prog_1_method_10_code
def yX3_hide : MethodName := ⟨RX3, "hide", "(I)V"⟩
abbrev cX3_draw : ByteArray := prog_1_method_11_code
def yX3_draw : MethodName := ⟨RX3, "draw", "(I)I"⟩
abbrev cX3_drawn : ByteArray := prog_1_method_12_code
def yX3_drawn : MethodName := ⟨RX3, "drawn", "(II)I"⟩
abbrev cX3_ride : ByteArray := prog_1_method_13_code
def yX3_ride : MethodName := ⟨RX3, "ride", "(IIIIZ)I"⟩
abbrev cX3_isOffered : ByteArray := prog_1_method_14_code
def yX3_isOffered : MethodName := ⟨RX3, "isOffered", "(II)Z"⟩
abbrev cX3_answer : ByteArray := prog_1_method_15_code
def yX3_answer : MethodName := ⟨RX3, "answer", "(IIZ)I"⟩
abbrev cX3_score : ByteArray := prog_1_method_16_code
def yX3_score : MethodName := ⟨RX3, "score", "(II)I"⟩
abbrev cX3_beastIs : ByteArray := prog_1_method_17_code
def yX3_beastIs : MethodName := ⟨RX3, "beastIs", "(II)I"⟩
abbrev cX3_pay : ByteArray := prog_1_method_18_code
def yX3_pay : MethodName := ⟨RX3, "pay", "(I)I"⟩
abbrev cX3_got : ByteArray := prog_1_method_19_code
def yX3_got : MethodName := ⟨RX3, "got", "(II)I"⟩
abbrev cX3_counts : ByteArray := prog_1_method_20_code
def yX3_counts : MethodName := ⟨RX3, "counts", "(I)I"⟩
abbrev cX3_ranked : ByteArray := prog_1_method_21_code
def yX3_ranked : MethodName := ⟨RX3, "ranked", "(I)I"⟩
abbrev cX3_balances : ByteArray := prog_1_method_22_code
def yX3_balances : MethodName := ⟨RX3, "balances", "()Z"⟩
abbrev cX3_isWithin : ByteArray := prog_1_method_23_code
def yX3_isWithin : MethodName := ⟨RX3, "isWithin", "(III)Z"⟩
abbrev cX3_isKind : ByteArray := prog_1_method_24_code
def yX3_isKind : MethodName := ⟨RX3, "isKind", "(I)Z"⟩
abbrev cX3_isInSet : ByteArray := prog_1_method_25_code
def yX3_isInSet : MethodName := ⟨RX3, "isInSet", "(II)Z"⟩
abbrev cX3_markAt : ByteArray := prog_1_method_26_code
def yX3_markAt : MethodName := ⟨RX3, "markAt", "(II)I"⟩
abbrev cX3_split : ByteArray := prog_1_method_27_code
def yX3_split : MethodName := ⟨RX3, "split", "(II)I"⟩
abbrev cX3_rodeoAt : ByteArray := prog_1_method_28_code
def yX3_rodeoAt : MethodName := ⟨RX3, "rodeoAt", "(I)LRankStock$Rodeo;"⟩
abbrev cX3_checkRider : ByteArray := prog_1_method_29_code
def yX3_checkRider : MethodName := ⟨RX3, "checkRider", "(I)V"⟩
abbrev cX3_entryAt : ByteArray := prog_1_method_30_code
def yX3_entryAt : MethodName := ⟨RX3, "entryAt", "(II)LRankStock$Entry;"⟩
abbrev cX3_performanceFor : ByteArray := prog_1_method_31_code
def yX3_performanceFor : MethodName := ⟨RX3, "performanceFor", "(LRankStock$Rodeo;LRankStock$Entry;)I"⟩
abbrev cX3_canBePlaced : ByteArray := prog_1_method_32_code
def yX3_canBePlaced : MethodName := ⟨RX3, "canBePlaced", "(LRankStock$Rodeo;II)Z"⟩
abbrev cX3_canGet : ByteArray := prog_1_method_33_code
def yX3_canGet : MethodName := ⟨RX3, "canGet", "(LRankStock$Rodeo;II)Z"⟩
abbrev cX3_countWithWaysOutside : ByteArray := prog_1_method_34_code
def yX3_countWithWaysOutside : MethodName := ⟨RX3, "countWithWaysOutside", "(LRankStock$Rodeo;I)I"⟩
abbrev cX3_hasWayOutside : ByteArray := prog_1_method_35_code
def yX3_hasWayOutside : MethodName := ⟨RX3, "hasWayOutside", "(LRankStock$Rodeo;LRankStock$Entry;I)Z"⟩
abbrev cX3_mountAll : ByteArray := prog_1_method_36_code
def yX3_mountAll : MethodName := ⟨RX3, "mountAll", "(LRankStock$Rodeo;I)I"⟩
abbrev cX3_mount : ByteArray := prog_1_method_37_code
def yX3_mount : MethodName := ⟨RX3, "mount", "(LRankStock$Rodeo;LRankStock$Entry;)V"⟩
abbrev cX3_drawBeast : ByteArray := prog_1_method_38_code
def yX3_drawBeast : MethodName := ⟨RX3, "drawBeast", "(II)LRankStock$Beast;"⟩
abbrev cX3_countDrawable : ByteArray := prog_1_method_39_code
def yX3_countDrawable : MethodName := ⟨RX3, "countDrawable", "(II)I"⟩
abbrev cX3_drawableAt : ByteArray := prog_1_method_40_code
def yX3_drawableAt : MethodName := ⟨RX3, "drawableAt", "(III)LRankStock$Beast;"⟩
abbrev cX3_rankOfBeast : ByteArray := prog_1_method_41_code
def yX3_rankOfBeast : MethodName := ⟨RX3, "rankOfBeast", "(LRankStock$Beast;)I"⟩
abbrev cX3_moneyOf : ByteArray := prog_1_method_42_code
def yX3_moneyOf : MethodName := ⟨RX3, "moneyOf", "(LRankStock$Rodeo;I)I"⟩
abbrev cX3_bestThreePays : ByteArray := prog_1_method_43_code
def yX3_bestThreePays : MethodName := ⟨RX3, "bestThreePays", "(I)I"⟩
abbrev cX3_allPays : ByteArray := prog_1_method_44_code
def yX3_allPays : MethodName := ⟨RX3, "allPays", "(I)I"⟩
abbrev cX3_rankOfRider : ByteArray := prog_1_method_45_code
def yX3_rankOfRider : MethodName := ⟨RX3, "rankOfRider", "(I)I"⟩
abbrev cX3_isRiderAhead : ByteArray := prog_1_method_46_code
def yX3_isRiderAhead : MethodName := ⟨RX3, "isRiderAhead", "(II)Z"⟩
def RX4 : String := "RankStockModel"
def TX4 : u_T := fun k => match k with
  | _ => ("", "", "", false)
def tyX4 : Nat → FieldType := fun k => match k with
  | _ => .int
abbrev wsX40 : List Cond := u_ws RX4 TX4 0
theorem nmX4 : ∀ a, a < 0 → ∀ b, b < 0 → a ≠ b → (TX4 a).2.1 ≠ (TX4 b).2.1 := by decide +kernel
theorem tyX4_ok : ∀ k, k < 0 → parseFieldDescriptor (TX4 k).2.2.1 = some (tyX4 k) := by decide +kernel
def RJx145de : String := "java/io/Serializable"
def TJx145de : u_T := fun k => match k with
  | _ => ("", "", "", false)
def tyJx145de : Nat → FieldType := fun k => match k with
  | _ => .int
abbrev wsJx145de0 : List Cond := u_ws RJx145de TJx145de 0
theorem nmJx145de : ∀ a, a < 0 → ∀ b, b < 0 → a ≠ b → (TJx145de a).2.1 ≠ (TJx145de b).2.1 := by decide +kernel
theorem tyJx145de_ok : ∀ k, k < 0 → parseFieldDescriptor (TJx145de k).2.2.1 = some (tyJx145de k) := by decide +kernel
def RJx8e188 : String := "java/lang/Cloneable"
def TJx8e188 : u_T := fun k => match k with
  | _ => ("", "", "", false)
def tyJx8e188 : Nat → FieldType := fun k => match k with
  | _ => .int
abbrev wsJx8e1880 : List Cond := u_ws RJx8e188 TJx8e188 0
theorem nmJx8e188 : ∀ a, a < 0 → ∀ b, b < 0 → a ≠ b → (TJx8e188 a).2.1 ≠ (TJx8e188 b).2.1 := by decide +kernel
theorem tyJx8e188_ok : ∀ k, k < 0 → parseFieldDescriptor (TJx8e188 k).2.2.1 = some (tyJx8e188 k) := by decide +kernel
def RJ6 : String := "java/lang/Integer"
def TJ6 : u_T := fun k => match k with
  | _ => ("", "", "", false)
def tyJ6 : Nat → FieldType := fun k => match k with
  | _ => .int
abbrev wsJ60 : List Cond := u_ws RJ6 TJ6 0
theorem nmJ6 : ∀ a, a < 0 → ∀ b, b < 0 → a ≠ b → (TJ6 a).2.1 ≠ (TJ6 b).2.1 := by decide +kernel
theorem tyJ6_ok : ∀ k, k < 0 → parseFieldDescriptor (TJ6 k).2.2.1 = some (tyJ6 k) := by decide +kernel
abbrev cJ6_compare_7cf53 : ByteArray := prog_13_method_40_code
def yJ6_compare_7cf53 : MethodName := ⟨RJ6, "compare", "(II)I"⟩
abbrev cJ6_bitCount_0f7a4 : ByteArray := prog_13_method_49_code
def yJ6_bitCount_0f7a4 : MethodName := ⟨RJ6, "bitCount", "(I)I"⟩
def RJxab1ab : String := "java/lang/Iterable"
def TJxab1ab : u_T := fun k => match k with
  | _ => ("", "", "", false)
def tyJxab1ab : Nat → FieldType := fun k => match k with
  | _ => .int
abbrev wsJxab1ab0 : List Cond := u_ws RJxab1ab TJxab1ab 0
theorem nmJxab1ab : ∀ a, a < 0 → ∀ b, b < 0 → a ≠ b → (TJxab1ab a).2.1 ≠ (TJxab1ab b).2.1 := by decide +kernel
theorem tyJxab1ab_ok : ∀ k, k < 0 → parseFieldDescriptor (TJxab1ab k).2.2.1 = some (tyJxab1ab k) := by decide +kernel
def RJ13 : String := "java/lang/Long"
def TJ13 : u_T := fun k => match k with
  | _ => ("", "", "", false)
def tyJ13 : Nat → FieldType := fun k => match k with
  | _ => .int
abbrev wsJ130 : List Cond := u_ws RJ13 TJ13 0
theorem nmJ13 : ∀ a, a < 0 → ∀ b, b < 0 → a ≠ b → (TJ13 a).2.1 ≠ (TJ13 b).2.1 := by decide +kernel
theorem tyJ13_ok : ∀ k, k < 0 → parseFieldDescriptor (TJ13 k).2.2.1 = some (tyJ13 k) := by decide +kernel
abbrev cJ13_bitCount_95d88 : ByteArray := prog_15_method_50_code
def yJ13_bitCount_95d88 : MethodName := ⟨RJ13, "bitCount", "(J)I"⟩
def RJ9 : String := "java/lang/Math"
def TJ9 : u_T := fun k => match k with
  | _ => ("", "", "", false)
def tyJ9 : Nat → FieldType := fun k => match k with
  | _ => .int
abbrev wsJ90 : List Cond := u_ws RJ9 TJ9 0
theorem nmJ9 : ∀ a, a < 0 → ∀ b, b < 0 → a ≠ b → (TJ9 a).2.1 ≠ (TJ9 b).2.1 := by decide +kernel
theorem tyJ9_ok : ∀ k, k < 0 → parseFieldDescriptor (TJ9 k).2.2.1 = some (tyJ9 k) := by decide +kernel
abbrev cJ9_abs_0f7a4 : ByteArray := prog_16_method_59_code
def yJ9_abs_0f7a4 : MethodName := ⟨RJ9, "abs", "(I)I"⟩
abbrev cJ9_max_7cf53 : ByteArray := prog_16_method_65_code
def yJ9_max_7cf53 : MethodName := ⟨RJ9, "max", "(II)I"⟩
abbrev cJ9_min_7cf53 : ByteArray := prog_16_method_69_code
def yJ9_min_7cf53 : MethodName := ⟨RJ9, "min", "(II)I"⟩
def RJ0 : String := "java/lang/String"
def TJ0 : u_T := fun k => match k with
  | _ => ("", "", "", false)
def tyJ0 : Nat → FieldType := fun k => match k with
  | _ => .int
abbrev wsJ00 : List Cond := u_ws RJ0 TJ0 0
theorem nmJ0 : ∀ a, a < 0 → ∀ b, b < 0 → a ≠ b → (TJ0 a).2.1 ≠ (TJ0 b).2.1 := by decide +kernel
theorem tyJ0_ok : ∀ k, k < 0 → parseFieldDescriptor (TJ0 k).2.2.1 = some (tyJ0 k) := by decide +kernel
def RJ10 : String := "java/lang/System"
def TJ10 : u_T := fun k => match k with
  | _ => ("", "", "", false)
def tyJ10 : Nat → FieldType := fun k => match k with
  | _ => .int
abbrev wsJ100 : List Cond := u_ws RJ10 TJ10 0
theorem nmJ10 : ∀ a, a < 0 → ∀ b, b < 0 → a ≠ b → (TJ10 a).2.1 ≠ (TJ10 b).2.1 := by decide +kernel
theorem tyJ10_ok : ∀ k, k < 0 → parseFieldDescriptor (TJ10 k).2.2.1 = some (tyJ10 k) := by decide +kernel
def RJxa1e45 : String := "java/util/AbstractCollection"
def TJxa1e45 : u_T := fun k => match k with
  | _ => ("", "", "", false)
def tyJxa1e45 : Nat → FieldType := fun k => match k with
  | _ => .int
abbrev wsJxa1e450 : List Cond := u_ws RJxa1e45 TJxa1e45 0
theorem nmJxa1e45 : ∀ a, a < 0 → ∀ b, b < 0 → a ≠ b → (TJxa1e45 a).2.1 ≠ (TJxa1e45 b).2.1 := by decide +kernel
theorem tyJxa1e45_ok : ∀ k, k < 0 → parseFieldDescriptor (TJxa1e45 k).2.2.1 = some (tyJxa1e45 k) := by decide +kernel
abbrev cJxa1e45_init_da8c8 : ByteArray := prog_21_method_1_code
def yJxa1e45_init_da8c8 : MethodName := ⟨RJxa1e45, "<init>", "()V"⟩
def RJxc12de : String := "java/util/AbstractList"
def TJxc12de : u_T := fun k => match k with
  | _ => ("", "", "", false)
def tyJxc12de : Nat → FieldType := fun k => match k with
  | _ => .int
abbrev wsJxc12de0 : List Cond := u_ws RJxc12de TJxc12de 0
theorem nmJxc12de : ∀ a, a < 0 → ∀ b, b < 0 → a ≠ b → (TJxc12de a).2.1 ≠ (TJxc12de b).2.1 := by decide +kernel
theorem tyJxc12de_ok : ∀ k, k < 0 → parseFieldDescriptor (TJxc12de k).2.2.1 = some (tyJxc12de k) := by decide +kernel
abbrev cJxc12de_init_da8c8 : ByteArray := prog_22_method_1_code
def yJxc12de_init_da8c8 : MethodName := ⟨RJxc12de, "<init>", "()V"⟩
def RJx4a65c : String := "java/util/ArrayList"
def TJx4a65c : u_T := fun k => match k with
  | 0 => ("java/util/AbstractList", "modCount", "I", false)
  | 1 => ("java/util/ArrayList", "elementData", "[Ljava/lang/Object;", false)
  | _ => ("java/util/ArrayList", "size", "I", false)
def tyJx4a65c : Nat → FieldType := fun k => match k with
  | 0 => .int
  | 1 => .array (.object "java/lang/Object")
  | _ => .int
abbrev wsJx4a65c0 : List Cond := u_ws RJx4a65c TJx4a65c 3
theorem nmJx4a65c : ∀ a, a < 3 → ∀ b, b < 3 → a ≠ b → (TJx4a65c a).2.1 ≠ (TJx4a65c b).2.1 := by decide +kernel
theorem tyJx4a65c_ok : ∀ k, k < 3 → parseFieldDescriptor (TJx4a65c k).2.2.1 = some (tyJx4a65c k) := by decide +kernel
abbrev cJx4a65c_init_da8c8 : ByteArray := prog_23_method_2_code
def yJx4a65c_init_da8c8 : MethodName := ⟨RJx4a65c, "<init>", "()V"⟩
abbrev cJx4a65c_grow_92f84 : ByteArray := prog_23_method_6_code
def yJx4a65c_grow_92f84 : MethodName := ⟨RJx4a65c, "grow", "(I)[Ljava/lang/Object;"⟩
abbrev cJx4a65c_grow_d5877 : ByteArray := prog_23_method_7_code
def yJx4a65c_grow_d5877 : MethodName := ⟨RJx4a65c, "grow", "()[Ljava/lang/Object;"⟩
abbrev cJx4a65c_size_8abf5 : ByteArray := prog_23_method_8_code
def yJx4a65c_size_8abf5 : MethodName := ⟨RJx4a65c, "size", "()I"⟩
abbrev cJx4a65c_elementData_915e3 : ByteArray := prog_23_method_18_code
def yJx4a65c_elementData_915e3 : MethodName := ⟨RJx4a65c, "elementData", "(I)Ljava/lang/Object;"⟩
abbrev cJx4a65c_get_915e3 : ByteArray := prog_23_method_20_code
def yJx4a65c_get_915e3 : MethodName := ⟨RJx4a65c, "get", "(I)Ljava/lang/Object;"⟩
abbrev cJx4a65c_add_72be8 : ByteArray := prog_23_method_24_code
def yJx4a65c_add_72be8 : MethodName := ⟨RJx4a65c, "add", "(Ljava/lang/Object;[Ljava/lang/Object;I)V"⟩
abbrev cJx4a65c_add_9ea2d : ByteArray := prog_23_method_25_code
def yJx4a65c_add_9ea2d : MethodName := ⟨RJx4a65c, "add", "(Ljava/lang/Object;)Z"⟩
def RJ7 : String := "java/util/Arrays"
def TJ7 : u_T := fun k => match k with
  | _ => ("", "", "", false)
def tyJ7 : Nat → FieldType := fun k => match k with
  | _ => .int
abbrev wsJ70 : List Cond := u_ws RJ7 TJ7 0
theorem nmJ7 : ∀ a, a < 0 → ∀ b, b < 0 → a ≠ b → (TJ7 a).2.1 ≠ (TJ7 b).2.1 := by decide +kernel
theorem tyJ7_ok : ∀ k, k < 0 → parseFieldDescriptor (TJ7 k).2.2.1 = some (tyJ7 k) := by decide +kernel
abbrev cJ7_copyOf_1904c : ByteArray := prog_24_method_119_code
def yJ7_copyOf_1904c : MethodName := ⟨RJ7, "copyOf", "([Ljava/lang/Object;I)[Ljava/lang/Object;"⟩
abbrev cJ7_copyOf_6403c : ByteArray := prog_24_method_120_code
def yJ7_copyOf_6403c : MethodName := ⟨RJ7, "copyOf", "([Ljava/lang/Object;ILjava/lang/Class;)[Ljava/lang/Object;"⟩
def RJx5ef63 : String := "java/util/Collection"
def TJx5ef63 : u_T := fun k => match k with
  | _ => ("", "", "", false)
def tyJx5ef63 : Nat → FieldType := fun k => match k with
  | _ => .int
abbrev wsJx5ef630 : List Cond := u_ws RJx5ef63 TJx5ef63 0
theorem nmJx5ef63 : ∀ a, a < 0 → ∀ b, b < 0 → a ≠ b → (TJx5ef63 a).2.1 ≠ (TJx5ef63 b).2.1 := by decide +kernel
theorem tyJx5ef63_ok : ∀ k, k < 0 → parseFieldDescriptor (TJx5ef63 k).2.2.1 = some (tyJx5ef63 k) := by decide +kernel
def RJxbd725 : String := "java/util/List"
def TJxbd725 : u_T := fun k => match k with
  | _ => ("", "", "", false)
def tyJxbd725 : Nat → FieldType := fun k => match k with
  | _ => .int
abbrev wsJxbd7250 : List Cond := u_ws RJxbd725 TJxbd725 0
theorem nmJxbd725 : ∀ a, a < 0 → ∀ b, b < 0 → a ≠ b → (TJxbd725 a).2.1 ≠ (TJxbd725 b).2.1 := by decide +kernel
theorem tyJxbd725_ok : ∀ k, k < 0 → parseFieldDescriptor (TJxbd725 k).2.2.1 = some (tyJxbd725 k) := by decide +kernel
def RJ15 : String := "java/util/Objects"
def TJ15 : u_T := fun k => match k with
  | _ => ("", "", "", false)
def tyJ15 : Nat → FieldType := fun k => match k with
  | _ => .int
abbrev wsJ150 : List Cond := u_ws RJ15 TJ15 0
theorem nmJ15 : ∀ a, a < 0 → ∀ b, b < 0 → a ≠ b → (TJ15 a).2.1 ≠ (TJ15 b).2.1 := by decide +kernel
theorem tyJ15_ok : ∀ k, k < 0 → parseFieldDescriptor (TJ15 k).2.2.1 = some (tyJ15 k) := by decide +kernel
abbrev cJ15_checkIndex_7cf53 : ByteArray := prog_27_method_17_code
def yJ15_checkIndex_7cf53 : MethodName := ⟨RJ15, "checkIndex", "(II)I"⟩
def RJxf0a74 : String := "java/util/RandomAccess"
def TJxf0a74 : u_T := fun k => match k with
  | _ => ("", "", "", false)
def tyJxf0a74 : Nat → FieldType := fun k => match k with
  | _ => .int
abbrev wsJxf0a740 : List Cond := u_ws RJxf0a74 TJxf0a74 0
theorem nmJxf0a74 : ∀ a, a < 0 → ∀ b, b < 0 → a ≠ b → (TJxf0a74 a).2.1 ≠ (TJxf0a74 b).2.1 := by decide +kernel
theorem tyJxf0a74_ok : ∀ k, k < 0 → parseFieldDescriptor (TJxf0a74 k).2.2.1 = some (tyJxf0a74 k) := by decide +kernel
def RJxa66e6 : String := "java/util/SequencedCollection"
def TJxa66e6 : u_T := fun k => match k with
  | _ => ("", "", "", false)
def tyJxa66e6 : Nat → FieldType := fun k => match k with
  | _ => .int
abbrev wsJxa66e60 : List Cond := u_ws RJxa66e6 TJxa66e6 0
theorem nmJxa66e6 : ∀ a, a < 0 → ∀ b, b < 0 → a ≠ b → (TJxa66e6 a).2.1 ≠ (TJxa66e6 b).2.1 := by decide +kernel
theorem tyJxa66e6_ok : ∀ k, k < 0 → parseFieldDescriptor (TJxa66e6 k).2.2.1 = some (tyJxa66e6 k) := by decide +kernel
def RJ8 : String := "jdk/internal/util/ArraysSupport"
def TJ8 : u_T := fun k => match k with
  | _ => ("", "", "", false)
def tyJ8 : Nat → FieldType := fun k => match k with
  | _ => .int
abbrev wsJ80 : List Cond := u_ws RJ8 TJ8 0
theorem nmJ8 : ∀ a, a < 0 → ∀ b, b < 0 → a ≠ b → (TJ8 a).2.1 ≠ (TJ8 b).2.1 := by decide +kernel
theorem tyJ8_ok : ∀ k, k < 0 → parseFieldDescriptor (TJ8 k).2.2.1 = some (tyJ8 k) := by decide +kernel
abbrev cJ8_newLength_cabcc : ByteArray := prog_30_method_27_code
def yJ8_newLength_cabcc : MethodName := ⟨RJ8, "newLength", "(III)I"⟩
abbrev cJ8_hugeLength_7cf53 : ByteArray := prog_30_method_28_code
def yJ8_hugeLength_7cf53 : MethodName := ⟨RJ8, "hugeLength", "(II)I"⟩
def RJ3 : String := "jdk/internal/util/Preconditions"
def TJ3 : u_T := fun k => match k with
  | _ => ("", "", "", false)
def tyJ3 : Nat → FieldType := fun k => match k with
  | _ => .int
abbrev wsJ30 : List Cond := u_ws RJ3 TJ3 0
theorem nmJ3 : ∀ a, a < 0 → ∀ b, b < 0 → a ≠ b → (TJ3 a).2.1 ≠ (TJ3 b).2.1 := by decide +kernel
theorem tyJ3_ok : ∀ k, k < 0 → parseFieldDescriptor (TJ3 k).2.2.1 = some (tyJ3 k) := by decide +kernel
abbrev cJ3_checkIndex_8e157 : ByteArray := prog_31_method_11_code
def yJ3_checkIndex_8e157 : MethodName := ⟨RJ3, "checkIndex", "(IILjava/util/function/BiFunction;)I"⟩
def RL : String := "RankStockLaw"
abbrev cL_call : ByteArray := method_2_code
def yL_call : MethodName := ⟨RL, "call", "(LRankStock;IIIII)I"⟩
abbrev cL_hides : ByteArray := method_3_code
def yL_hides : MethodName := ⟨RL, "hides", "(LRankStock;I)I"⟩
abbrev cL_ask : ByteArray := method_4_code
def yL_ask : MethodName := ⟨RL, "ask", "(LRankStock;IIIII)I"⟩
abbrev cL_rodeo : ByteArray := method_5_code
def yL_rodeo : MethodName := ⟨RL, "rodeo", "(LRankStock;IIIIII)I"⟩
abbrev cL_ride : ByteArray := method_6_code
def yL_ride : MethodName := ⟨RL, "ride", "(LRankStock;IIIIZ)I"⟩
abbrev cL_draw : ByteArray := method_7_code
def yL_draw : MethodName := ⟨RL, "draw", "([II)I"⟩
abbrev cL_isPlace : ByteArray := method_8_code
def yL_isPlace : MethodName := ⟨RL, "isPlace", "(LRankStock;II)Z"⟩
abbrev cL_isRodeo : ByteArray := method_9_code
def yL_isRodeo : MethodName := ⟨RL, "isRodeo", "(LRankStock;II)Z"⟩
abbrev cL_areRanks : ByteArray := method_10_code
def yL_areRanks : MethodName := ⟨RL, "areRanks", "(LRankStock;II)Z"⟩
abbrev cL_law : ByteArray := code
def yL_law : MethodName := ⟨RL, "law", "([I)Z"⟩
abbrev vwCl : List vw_C := [(RJx4a65c, TJx4a65c, 3), (RX0, TX0, 7), (RX1, TX1, 11), (RX2, TX2, 11), (RX3, TX3, 4)]
