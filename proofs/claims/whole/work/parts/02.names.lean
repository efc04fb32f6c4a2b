def RX0 : String := "TrainDesk$Hunt"
def TX0 : u_T := fun k => match k with
  | 0 => ("TrainDesk$Hunt", "least", "I", false)
  | _ => ("TrainDesk$Hunt", "spent", "I", false)
def tyX0 : Nat → FieldType := fun k => match k with
  | 0 => .int
  | _ => .int
theorem nmX0 : ∀ a, a < 2 → ∀ b, b < 2 → a ≠ b → (TX0 a).2.1 ≠ (TX0 b).2.1 := by decide +kernel
theorem tyX0_ok : ∀ k, k < 2 → parseFieldDescriptor (TX0 k).2.2.1 = some (tyX0 k) := by decide +kernel
abbrev cX0_init : ByteArray := prog_2_method_1_code
def yX0_init : MethodName := ⟨RX0, "<init>", "()V"⟩
abbrev cX0_follow : ByteArray := prog_2_method_2_code
def yX0_follow : MethodName := ⟨RX0, "follow", "(LTrainDesk$Tests;I)V"⟩
abbrev cX0_isRed : ByteArray := prog_2_method_3_code
def yX0_isRed : MethodName := ⟨RX0, "isRed", "(LTrainDesk$Tests;I)Z"⟩
abbrev cX0_withoutPiece : ByteArray := prog_2_method_4_code
def yX0_withoutPiece : MethodName := ⟨RX0, "withoutPiece", "(LTrainDesk$Tests;I)I"⟩
abbrev cX0_withoutLowest : ByteArray := prog_2_method_5_code
def yX0_withoutLowest : MethodName := ⟨RX0, "withoutLowest", "(II)I"⟩
def RX1 : String := "TrainDesk$Needs"
def TX1 : u_T := fun k => match k with
  | 0 => ("TrainDesk$Needs", "part", "[I", true)
  | 1 => ("TrainDesk$Needs", "version", "[I", true)
  | 2 => ("TrainDesk$Needs", "other", "[I", true)
  | 3 => ("TrainDesk$Needs", "lo", "[I", true)
  | 4 => ("TrainDesk$Needs", "hi", "[I", true)
  | 5 => ("TrainDesk$Needs", "asked", "[I", true)
  | 6 => ("TrainDesk$Needs", "breaks", "[I", true)
  | _ => ("TrainDesk$Needs", "size", "I", false)
def tyX1 : Nat → FieldType := fun k => match k with
  | 0 => .array .int
  | 1 => .array .int
  | 2 => .array .int
  | 3 => .array .int
  | 4 => .array .int
  | 5 => .array .int
  | 6 => .array .int
  | _ => .int
theorem nmX1 : ∀ a, a < 8 → ∀ b, b < 8 → a ≠ b → (TX1 a).2.1 ≠ (TX1 b).2.1 := by decide +kernel
theorem tyX1_ok : ∀ k, k < 8 → parseFieldDescriptor (TX1 k).2.2.1 = some (tyX1 k) := by decide +kernel
abbrev cX1_init : ByteArray := prog_3_method_1_code
def yX1_init : MethodName := ⟨RX1, "<init>", "()V"⟩
abbrev cX1_add : ByteArray := prog_3_method_2_code
def yX1_add : MethodName := ⟨RX1, "add", "(IIIII)I"⟩
abbrev cX1_weigh : ByteArray := prog_3_method_3_code
def yX1_weigh : MethodName := ⟨RX1, "weigh", "([ILTrainDesk$Offers;)V"⟩
abbrev cX1_weighOne : ByteArray := prog_3_method_4_code
def yX1_weighOne : MethodName := ⟨RX1, "weighOne", "(I[ILTrainDesk$Offers;)V"⟩
abbrev cX1_holds : ByteArray := prog_3_method_5_code
def yX1_holds : MethodName := ⟨RX1, "holds", "(II)Z"⟩
abbrev cX1_neverBreaks : ByteArray := prog_3_method_6_code
def yX1_neverBreaks : MethodName := ⟨RX1, "neverBreaks", "(I)V"⟩
abbrev cX1_firstBroken : ByteArray := prog_3_method_7_code
def yX1_firstBroken : MethodName := ⟨RX1, "firstBroken", "(I)I"⟩
def RX2 : String := "TrainDesk$Offers"
def TX2 : u_T := fun k => match k with
  | 0 => ("TrainDesk$Offers", "versions", "[I", true)
  | _ => ("TrainDesk$Offers", "worths", "[I", true)
def tyX2 : Nat → FieldType := fun k => match k with
  | 0 => .array .int
  | _ => .array .int
theorem nmX2 : ∀ a, a < 2 → ∀ b, b < 2 → a ≠ b → (TX2 a).2.1 ≠ (TX2 b).2.1 := by decide +kernel
theorem tyX2_ok : ∀ k, k < 2 → parseFieldDescriptor (TX2 k).2.2.1 = some (tyX2 k) := by decide +kernel
abbrev cX2_init : ByteArray := prog_4_method_1_code
def yX2_init : MethodName := ⟨RX2, "<init>", "()V"⟩
abbrev cX2_has : ByteArray := prog_4_method_2_code
def yX2_has : MethodName := ⟨RX2, "has", "(I)Z"⟩
abbrev cX2_versionOf : ByteArray := prog_4_method_3_code
def yX2_versionOf : MethodName := ⟨RX2, "versionOf", "(I)I"⟩
abbrev cX2_worthOf : ByteArray := prog_4_method_4_code
def yX2_worthOf : MethodName := ⟨RX2, "worthOf", "(I)I"⟩
abbrev cX2_put : ByteArray := prog_4_method_5_code
def yX2_put : MethodName := ⟨RX2, "put", "(III)V"⟩
abbrev cX2_drop : ByteArray := prog_4_method_6_code
def yX2_drop : MethodName := ⟨RX2, "drop", "(I)V"⟩
abbrev cX2_mask : ByteArray := prog_4_method_7_code
def yX2_mask : MethodName := ⟨RX2, "mask", "()I"⟩
abbrev cX2_sum : ByteArray := prog_4_method_8_code
def yX2_sum : MethodName := ⟨RX2, "sum", "(I)I"⟩
def RX3 : String := "TrainDesk$OneWays"
def TX3 : u_T := fun k => match k with
  | 0 => ("TrainDesk$OneWays", "parts", "[I", true)
  | 1 => ("TrainDesk$OneWays", "versions", "[I", true)
  | _ => ("TrainDesk$OneWays", "size", "I", false)
def tyX3 : Nat → FieldType := fun k => match k with
  | 0 => .array .int
  | 1 => .array .int
  | _ => .int
theorem nmX3 : ∀ a, a < 3 → ∀ b, b < 3 → a ≠ b → (TX3 a).2.1 ≠ (TX3 b).2.1 := by decide +kernel
theorem tyX3_ok : ∀ k, k < 3 → parseFieldDescriptor (TX3 k).2.2.1 = some (tyX3 k) := by decide +kernel
abbrev cX3_init : ByteArray := prog_5_method_1_code
def yX3_init : MethodName := ⟨RX3, "<init>", "()V"⟩
abbrev cX3_find : ByteArray := prog_5_method_2_code
def yX3_find : MethodName := ⟨RX3, "find", "(II)I"⟩
abbrev cX3_add : ByteArray := prog_5_method_3_code
def yX3_add : MethodName := ⟨RX3, "add", "(II)Z"⟩
abbrev cX3_remove : ByteArray := prog_5_method_4_code
def yX3_remove : MethodName := ⟨RX3, "remove", "(II)Z"⟩
def RX4 : String := "TrainDesk$Route"
def TX4 : u_T := fun k => match k with
  | 0 => ("TrainDesk$Route", "path", "[I", true)
  | _ => ("TrainDesk$Route", "length", "I", false)
def tyX4 : Nat → FieldType := fun k => match k with
  | 0 => .array .int
  | _ => .int
theorem nmX4 : ∀ a, a < 2 → ∀ b, b < 2 → a ≠ b → (TX4 a).2.1 ≠ (TX4 b).2.1 := by decide +kernel
theorem tyX4_ok : ∀ k, k < 2 → parseFieldDescriptor (TX4 k).2.2.1 = some (tyX4 k) := by decide +kernel
abbrev cX4_init : ByteArray := prog_6_method_1_code
def yX4_init : MethodName := ⟨RX4, "<init>", "()V"⟩
abbrev cX4_isFound : ByteArray := prog_6_method_2_code
def yX4_isFound : MethodName := ⟨RX4, "isFound", "()Z"⟩
abbrev cX4_partAt : ByteArray := prog_6_method_3_code
def yX4_partAt : MethodName := ⟨RX4, "partAt", "(I)I"⟩
abbrev cX4_plan : ByteArray := prog_6_method_4_code
def yX4_plan : MethodName := ⟨RX4, "plan", "(LTrainDesk$Needs;I)V"⟩
abbrev cX4_firstOpen : ByteArray := prog_6_method_5_code
def yX4_firstOpen : MethodName := ⟨RX4, "firstOpen", "(LTrainDesk$Needs;II)I"⟩
def RX5 : String := "TrainDesk$Tests"
def TX5 : u_T := fun k => match k with
  | 0 => ("TrainDesk$Tests", "sets", "[I", true)
  | _ => ("TrainDesk$Tests", "size", "I", false)
def tyX5 : Nat → FieldType := fun k => match k with
  | 0 => .array .int
  | _ => .int
theorem nmX5 : ∀ a, a < 2 → ∀ b, b < 2 → a ≠ b → (TX5 a).2.1 ≠ (TX5 b).2.1 := by decide +kernel
theorem tyX5_ok : ∀ k, k < 2 → parseFieldDescriptor (TX5 k).2.2.1 = some (tyX5 k) := by decide +kernel
abbrev cX5_init : ByteArray := prog_7_method_1_code
def yX5_init : MethodName := ⟨RX5, "<init>", "()V"⟩
abbrev cX5_add : ByteArray := prog_7_method_2_code
def yX5_add : MethodName := ⟨RX5, "add", "(I)I"⟩
abbrev cX5_firstRed : ByteArray := prog_7_method_3_code
def yX5_firstRed : MethodName := ⟨RX5, "firstRed", "(I)I"⟩
def RX6 : String := "TrainDesk$Train"
def TX6 : u_T := fun k => match k with
  | 0 => ("TrainDesk$Train", "ahead", "[I", true)
  | 1 => ("TrainDesk$Train", "behind", "[I", true)
  | 2 => ("TrainDesk$Train", "load", "I", true)
  | _ => ("TrainDesk$Train", "isBack", "Z", false)
def tyX6 : Nat → FieldType := fun k => match k with
  | 0 => .array .int
  | 1 => .array .int
  | 2 => .int
  | _ => .boolean
theorem nmX6 : ∀ a, a < 4 → ∀ b, b < 4 → a ≠ b → (TX6 a).2.1 ≠ (TX6 b).2.1 := by decide +kernel
theorem tyX6_ok : ∀ k, k < 4 → parseFieldDescriptor (TX6 k).2.2.1 = some (tyX6 k) := by decide +kernel
abbrev cX6_init : ByteArray := prog_8_method_1_code
def yX6_init : MethodName := ⟨RX6, "<init>", "([I[II)V"⟩
def RX7 : String := "TrainDesk"
def TX7 : u_T := fun k => match k with
  | 0 => ("TrainDesk", "home", "[I", true)
  | 1 => ("TrainDesk", "offers", "LTrainDesk$Offers;", true)
  | 2 => ("TrainDesk", "kept", "LTrainDesk$Offers;", true)
  | 3 => ("TrainDesk", "needs", "LTrainDesk$Needs;", true)
  | 4 => ("TrainDesk", "tests", "LTrainDesk$Tests;", true)
  | 5 => ("TrainDesk", "route", "LTrainDesk$Route;", true)
  | 6 => ("TrainDesk", "hunt", "LTrainDesk$Hunt;", true)
  | 7 => ("TrainDesk", "oneWays", "LTrainDesk$OneWays;", true)
  | 8 => ("TrainDesk", "trains", "Ljava/util/ArrayList;", true)
  | 9 => ("TrainDesk", "parts", "I", false)
  | _ => ("TrainDesk", "chosen", "I", false)
def tyX7 : Nat → FieldType := fun k => match k with
  | 0 => .array .int
  | 1 => .object "TrainDesk$Offers"
  | 2 => .object "TrainDesk$Offers"
  | 3 => .object "TrainDesk$Needs"
  | 4 => .object "TrainDesk$Tests"
  | 5 => .object "TrainDesk$Route"
  | 6 => .object "TrainDesk$Hunt"
  | 7 => .object "TrainDesk$OneWays"
  | 8 => .object "java/util/ArrayList"
  | 9 => .int
  | _ => .int
theorem nmX7 : ∀ a, a < 11 → ∀ b, b < 11 → a ≠ b → (TX7 a).2.1 ≠ (TX7 b).2.1 := by decide +kernel
theorem tyX7_ok : ∀ k, k < 11 → parseFieldDescriptor (TX7 k).2.2.1 = some (tyX7 k) := by decide +kernel
abbrev cX7_init : ByteArray := prog_1_method_1_code
def yX7_init : MethodName := ⟨RX7, "<init>", "()V"⟩
abbrev cX7_part : ByteArray := prog_1_method_2_code
def yX7_part : MethodName := ⟨RX7, "part", "(I)I"⟩
abbrev cX7_offer : ByteArray := prog_1_method_3_code
def yX7_offer : MethodName := ⟨RX7, "offer", "(III)Z"⟩
abbrev cX7_withdraw : ByteArray := prog_1_method_4_code
def yX7_withdraw : MethodName := ⟨RX7, "withdraw", "(I)Z"⟩
abbrev cX7_need : ByteArray := prog_1_method_5_code
def yX7_need : MethodName := ⟨RX7, "need", "(IIIII)I"⟩
abbrev cX7_test : ByteArray := prog_1_method_6_code
def yX7_test : MethodName := ⟨RX7, "test", "(I)I"⟩
abbrev cX7_fits : ByteArray := prog_1_method_7_code
def yX7_fits : MethodName := ⟨RX7, "fits", "(I)I"⟩
abbrev cX7_red : ByteArray := prog_1_method_8_code
def yX7_red : MethodName := ⟨RX7, "red", "(I)I"⟩
abbrev cX7_cut : ByteArray := prog_1_method_9_code
def yX7_cut : MethodName := ⟨RX7, "cut", "()I"⟩
abbrev cX7_chosen : ByteArray := prog_1_method_10_code
def yX7_chosen : MethodName := ⟨RX7, "chosen", "()I"⟩
abbrev cX7_worth : ByteArray := prog_1_method_11_code
def yX7_worth : MethodName := ⟨RX7, "worth", "()I"⟩
abbrev cX7_why : ByteArray := prog_1_method_12_code
def yX7_why : MethodName := ⟨RX7, "why", "(I)I"⟩
abbrev cX7_fix : ByteArray := prog_1_method_13_code
def yX7_fix : MethodName := ⟨RX7, "fix", "(III)I"⟩
abbrev cX7_leave : ByteArray := prog_1_method_14_code
def yX7_leave : MethodName := ⟨RX7, "leave", "(III)I"⟩
abbrev cX7_order : ByteArray := prog_1_method_15_code
def yX7_order : MethodName := ⟨RX7, "order", "(I)I"⟩
abbrev cX7_send : ByteArray := prog_1_method_16_code
def yX7_send : MethodName := ⟨RX7, "send", "()I"⟩
abbrev cX7_giveUp : ByteArray := prog_1_method_17_code
def yX7_giveUp : MethodName := ⟨RX7, "giveUp", "()Z"⟩
abbrev cX7_oneWay : ByteArray := prog_1_method_18_code
def yX7_oneWay : MethodName := ⟨RX7, "oneWay", "(IIZ)Z"⟩
abbrev cX7_back : ByteArray := prog_1_method_19_code
def yX7_back : MethodName := ⟨RX7, "back", "()I"⟩
abbrev cX7_blame : ByteArray := prog_1_method_20_code
def yX7_blame : MethodName := ⟨RX7, "blame", "(I)I"⟩
abbrev cX7_runs : ByteArray := prog_1_method_21_code
def yX7_runs : MethodName := ⟨RX7, "runs", "(I)I"⟩
abbrev cX7_told : ByteArray := prog_1_method_22_code
def yX7_told : MethodName := ⟨RX7, "told", "(II)I"⟩
abbrev cX7_was : ByteArray := prog_1_method_23_code
def yX7_was : MethodName := ⟨RX7, "was", "(IIZ)I"⟩
abbrev cX7_brought : ByteArray := prog_1_method_24_code
def yX7_brought : MethodName := ⟨RX7, "brought", "(I)I"⟩
abbrev cX7_count : ByteArray := prog_1_method_25_code
def yX7_count : MethodName := ⟨RX7, "count", "(I)I"⟩
abbrev cX7_isVersion : ByteArray := prog_1_method_26_code
def yX7_isVersion : MethodName := ⟨RX7, "isVersion", "(I)Z"⟩
abbrev cX7_isWorth : ByteArray := prog_1_method_27_code
def yX7_isWorth : MethodName := ⟨RX7, "isWorth", "(I)Z"⟩
abbrev cX7_isPart : ByteArray := prog_1_method_28_code
def yX7_isPart : MethodName := ⟨RX7, "isPart", "(I)Z"⟩
abbrev cX7_areParts : ByteArray := prog_1_method_29_code
def yX7_areParts : MethodName := ⟨RX7, "areParts", "(I)Z"⟩
abbrev cX7_isTrain : ByteArray := prog_1_method_30_code
def yX7_isTrain : MethodName := ⟨RX7, "isTrain", "(I)Z"⟩
abbrev cX7_isCutAtHand : ByteArray := prog_1_method_31_code
def yX7_isCutAtHand : MethodName := ⟨RX7, "isCutAtHand", "()Z"⟩
abbrev cX7_isChosen : ByteArray := prog_1_method_32_code
def yX7_isChosen : MethodName := ⟨RX7, "isChosen", "(I)Z"⟩
abbrev cX7_homeToCome : ByteArray := prog_1_method_33_code
def yX7_homeToCome : MethodName := ⟨RX7, "homeToCome", "(I)I"⟩
abbrev cX7_openOffers : ByteArray := prog_1_method_34_code
def yX7_openOffers : MethodName := ⟨RX7, "openOffers", "()LTrainDesk$Offers;"⟩
abbrev cX7_mayFix : ByteArray := prog_1_method_35_code
def yX7_mayFix : MethodName := ⟨RX7, "mayFix", "(III)Z"⟩
abbrev cX7_firstBroken : ByteArray := prog_1_method_36_code
def yX7_firstBroken : MethodName := ⟨RX7, "firstBroken", "(I)I"⟩
abbrev cX7_goes : ByteArray := prog_1_method_37_code
def yX7_goes : MethodName := ⟨RX7, "goes", "(I)Z"⟩
abbrev cX7_greatest : ByteArray := prog_1_method_38_code
def yX7_greatest : MethodName := ⟨RX7, "greatest", "(II)I"⟩
abbrev cX7_hasLowerPart : ByteArray := prog_1_method_39_code
def yX7_hasLowerPart : MethodName := ⟨RX7, "hasLowerPart", "(II)Z"⟩
abbrev cX7_choose : ByteArray := prog_1_method_40_code
def yX7_choose : MethodName := ⟨RX7, "choose", "(I)V"⟩
abbrev cX7_endCut : ByteArray := prog_1_method_41_code
def yX7_endCut : MethodName := ⟨RX7, "endCut", "()V"⟩
abbrev cX7_latestOut : ByteArray := prog_1_method_42_code
def yX7_latestOut : MethodName := ⟨RX7, "latestOut", "()I"⟩
abbrev cX7_trainsOut : ByteArray := prog_1_method_43_code
def yX7_trainsOut : MethodName := ⟨RX7, "trainsOut", "()I"⟩
abbrev cX7_isStuck : ByteArray := prog_1_method_44_code
def yX7_isStuck : MethodName := ⟨RX7, "isStuck", "(I)Z"⟩
abbrev cX7_bringHome : ByteArray := prog_1_method_45_code
def yX7_bringHome : MethodName := ⟨RX7, "bringHome", "([II)V"⟩
abbrev cX7_dropOffersAtHome : ByteArray := prog_1_method_46_code
def yX7_dropOffersAtHome : MethodName := ⟨RX7, "dropOffersAtHome", "()V"⟩
def RX8 : String := "TrainDeskModel"
def TX8 : u_T := fun k => match k with
  | 0 => ("TrainDeskModel", "thrown", "I", false)
  | 1 => ("TrainDeskModel", "home", "[I", true)
  | 2 => ("TrainDeskModel", "offer", "[I", true)
  | 3 => ("TrainDeskModel", "worth", "[I", true)
  | 4 => ("TrainDeskModel", "keptOffer", "[I", true)
  | 5 => ("TrainDeskModel", "keptWorth", "[I", true)
  | 6 => ("TrainDeskModel", "needPart", "[I", true)
  | 7 => ("TrainDeskModel", "needVersion", "[I", true)
  | 8 => ("TrainDeskModel", "needOther", "[I", true)
  | 9 => ("TrainDeskModel", "needLow", "[I", true)
  | 10 => ("TrainDeskModel", "needHigh", "[I", true)
  | 11 => ("TrainDeskModel", "test", "[I", true)
  | 12 => ("TrainDeskModel", "wayPart", "[I", true)
  | 13 => ("TrainDeskModel", "wayVersion", "[I", true)
  | 14 => ("TrainDeskModel", "trainParts", "[I", true)
  | 15 => ("TrainDeskModel", "trainSet", "[I", true)
  | 16 => ("TrainDeskModel", "before", "[I", true)
  | 17 => ("TrainDeskModel", "after", "[I", true)
  | 18 => ("TrainDeskModel", "isBack", "[Z", true)
  | 19 => ("TrainDeskModel", "parts", "I", false)
  | 20 => ("TrainDeskModel", "needs", "I", false)
  | 21 => ("TrainDeskModel", "tests", "I", false)
  | 22 => ("TrainDeskModel", "ways", "I", false)
  | 23 => ("TrainDeskModel", "trains", "I", false)
  | 24 => ("TrainDeskModel", "chosen", "I", false)
  | 25 => ("TrainDeskModel", "isCut", "Z", false)
  | 26 => ("TrainDeskModel", "oldOffer", "I", false)
  | 27 => ("TrainDeskModel", "oldWorth", "I", false)
  | 28 => ("TrainDeskModel", "isTried", "[Z", true)
  | 29 => ("TrainDeskModel", "row", "[I", true)
  | 30 => ("TrainDeskModel", "rowMany", "I", false)
  | 31 => ("TrainDeskModel", "blamed", "I", false)
  | _ => ("TrainDeskModel", "runs", "I", false)
def tyX8 : Nat → FieldType := fun k => match k with
  | 0 => .int
  | 1 => .array .int
  | 2 => .array .int
  | 3 => .array .int
  | 4 => .array .int
  | 5 => .array .int
  | 6 => .array .int
  | 7 => .array .int
  | 8 => .array .int
  | 9 => .array .int
  | 10 => .array .int
  | 11 => .array .int
  | 12 => .array .int
  | 13 => .array .int
  | 14 => .array .int
  | 15 => .array .int
  | 16 => .array .int
  | 17 => .array .int
  | 18 => .array .boolean
  | 19 => .int
  | 20 => .int
  | 21 => .int
  | 22 => .int
  | 23 => .int
  | 24 => .int
  | 25 => .boolean
  | 26 => .int
  | 27 => .int
  | 28 => .array .boolean
  | 29 => .array .int
  | 30 => .int
  | 31 => .int
  | _ => .int
theorem nmX8 : ∀ a, a < 33 → ∀ b, b < 33 → a ≠ b → (TX8 a).2.1 ≠ (TX8 b).2.1 := by decide +kernel
theorem tyX8_ok : ∀ k, k < 33 → parseFieldDescriptor (TX8 k).2.2.1 = some (tyX8 k) := by decide +kernel
abbrev cX8_init : ByteArray := prog_10_method_1_code
def yX8_init : MethodName := ⟨RX8, "<init>", "()V"⟩
abbrev cX8_thrown : ByteArray := prog_10_method_2_code
def yX8_thrown : MethodName := ⟨RX8, "thrown", "()I"⟩
abbrev cX8_isIn : ByteArray := prog_10_method_3_code
def yX8_isIn : MethodName := ⟨RX8, "isIn", "(III)Z"⟩
abbrev cX8_isPart : ByteArray := prog_10_method_4_code
def yX8_isPart : MethodName := ⟨RX8, "isPart", "(I)Z"⟩
abbrev cX8_isOf : ByteArray := prog_10_method_5_code
def yX8_isOf : MethodName := ⟨RX8, "isOf", "(II)Z"⟩
abbrev cX8_part : ByteArray := prog_10_method_6_code
def yX8_part : MethodName := ⟨RX8, "part", "(I)I"⟩
abbrev cX8_offer : ByteArray := prog_10_method_7_code
def yX8_offer : MethodName := ⟨RX8, "offer", "(III)Z"⟩
abbrev cX8_withdraw : ByteArray := prog_10_method_8_code
def yX8_withdraw : MethodName := ⟨RX8, "withdraw", "(I)Z"⟩
abbrev cX8_need : ByteArray := prog_10_method_9_code
def yX8_need : MethodName := ⟨RX8, "need", "(IIIII)I"⟩
abbrev cX8_isSet : ByteArray := prog_10_method_10_code
def yX8_isSet : MethodName := ⟨RX8, "isSet", "(I)Z"⟩
abbrev cX8_test : ByteArray := prog_10_method_11_code
def yX8_test : MethodName := ⟨RX8, "test", "(I)I"⟩
abbrev cX8_version : ByteArray := prog_10_method_12_code
def yX8_version : MethodName := ⟨RX8, "version", "(II)I"⟩
abbrev cX8_broken : ByteArray := prog_10_method_13_code
def yX8_broken : MethodName := ⟨RX8, "broken", "(I)I"⟩
abbrev cX8_redOf : ByteArray := prog_10_method_14_code
def yX8_redOf : MethodName := ⟨RX8, "redOf", "(I)I"⟩
abbrev cX8_offered : ByteArray := prog_10_method_15_code
def yX8_offered : MethodName := ⟨RX8, "offered", "()I"⟩
abbrev cX8_goes : ByteArray := prog_10_method_16_code
def yX8_goes : MethodName := ⟨RX8, "goes", "(I)Z"⟩
abbrev cX8_worthOf : ByteArray := prog_10_method_17_code
def yX8_worthOf : MethodName := ⟨RX8, "worthOf", "(I)I"⟩
abbrev cX8_best : ByteArray := prog_10_method_18_code
def yX8_best : MethodName := ⟨RX8, "best", "(II)I"⟩
abbrev cX8_fits : ByteArray := prog_10_method_19_code
def yX8_fits : MethodName := ⟨RX8, "fits", "(I)I"⟩
abbrev cX8_red : ByteArray := prog_10_method_20_code
def yX8_red : MethodName := ⟨RX8, "red", "(I)I"⟩
abbrev cX8_cut : ByteArray := prog_10_method_21_code
def yX8_cut : MethodName := ⟨RX8, "cut", "()I"⟩
abbrev cX8_chosen : ByteArray := prog_10_method_22_code
def yX8_chosen : MethodName := ⟨RX8, "chosen", "()I"⟩
abbrev cX8_worth : ByteArray := prog_10_method_23_code
def yX8_worth : MethodName := ⟨RX8, "worth", "()I"⟩
abbrev cX8_why : ByteArray := prog_10_method_24_code
def yX8_why : MethodName := ⟨RX8, "why", "(I)I"⟩
abbrev cX8_tries : ByteArray := prog_10_method_25_code
def yX8_tries : MethodName := ⟨RX8, "tries", "(III)Z"⟩
abbrev cX8_fix : ByteArray := prog_10_method_26_code
def yX8_fix : MethodName := ⟨RX8, "fix", "(III)I"⟩
abbrev cX8_leave : ByteArray := prog_10_method_27_code
def yX8_leave : MethodName := ⟨RX8, "leave", "(III)I"⟩
abbrev cX8_goesOut : ByteArray := prog_10_method_28_code
def yX8_goesOut : MethodName := ⟨RX8, "goesOut", "(II)Z"⟩
abbrev cX8_orders : ByteArray := prog_10_method_29_code
def yX8_orders : MethodName := ⟨RX8, "orders", "()Z"⟩
abbrev cX8_order : ByteArray := prog_10_method_30_code
def yX8_order : MethodName := ⟨RX8, "order", "(I)I"⟩
abbrev cX8_next : ByteArray := prog_10_method_31_code
def yX8_next : MethodName := ⟨RX8, "next", "()V"⟩
abbrev cX8_send : ByteArray := prog_10_method_32_code
def yX8_send : MethodName := ⟨RX8, "send", "()I"⟩
abbrev cX8_giveUp : ByteArray := prog_10_method_33_code
def yX8_giveUp : MethodName := ⟨RX8, "giveUp", "()Z"⟩
abbrev cX8_way : ByteArray := prog_10_method_34_code
def yX8_way : MethodName := ⟨RX8, "way", "(II)I"⟩
abbrev cX8_oneWay : ByteArray := prog_10_method_35_code
def yX8_oneWay : MethodName := ⟨RX8, "oneWay", "(IIZ)Z"⟩
abbrev cX8_back : ByteArray := prog_10_method_36_code
def yX8_back : MethodName := ⟨RX8, "back", "()I"⟩
abbrev cX8_isRed : ByteArray := prog_10_method_37_code
def yX8_isRed : MethodName := ⟨RX8, "isRed", "(I)Z"⟩
abbrev cX8_piece : ByteArray := prog_10_method_38_code
def yX8_piece : MethodName := ⟨RX8, "piece", "(III)I"⟩
abbrev cX8_blames : ByteArray := prog_10_method_39_code
def yX8_blames : MethodName := ⟨RX8, "blames", "(I)V"⟩
abbrev cX8_blame : ByteArray := prog_10_method_40_code
def yX8_blame : MethodName := ⟨RX8, "blame", "(I)I"⟩
abbrev cX8_runs : ByteArray := prog_10_method_41_code
def yX8_runs : MethodName := ⟨RX8, "runs", "(I)I"⟩
abbrev cX8_told : ByteArray := prog_10_method_42_code
def yX8_told : MethodName := ⟨RX8, "told", "(II)I"⟩
abbrev cX8_was : ByteArray := prog_10_method_43_code
def yX8_was : MethodName := ⟨RX8, "was", "(IIZ)I"⟩
abbrev cX8_brought : ByteArray := prog_10_method_44_code
def yX8_brought : MethodName := ⟨RX8, "brought", "(I)I"⟩
abbrev cX8_count : ByteArray := prog_10_method_45_code
def yX8_count : MethodName := ⟨RX8, "count", "(I)I"⟩
def RJx145de : String := "java/io/Serializable"
def TJx145de : u_T := fun k => match k with
  | _ => ("", "", "", false)
def tyJx145de : Nat → FieldType := fun k => match k with
  | _ => .int
theorem nmJx145de : ∀ a, a < 0 → ∀ b, b < 0 → a ≠ b → (TJx145de a).2.1 ≠ (TJx145de b).2.1 := by decide +kernel
theorem tyJx145de_ok : ∀ k, k < 0 → parseFieldDescriptor (TJx145de k).2.2.1 = some (tyJx145de k) := by decide +kernel
def RJx8e188 : String := "java/lang/Cloneable"
def TJx8e188 : u_T := fun k => match k with
  | _ => ("", "", "", false)
def tyJx8e188 : Nat → FieldType := fun k => match k with
  | _ => .int
theorem nmJx8e188 : ∀ a, a < 0 → ∀ b, b < 0 → a ≠ b → (TJx8e188 a).2.1 ≠ (TJx8e188 b).2.1 := by decide +kernel
theorem tyJx8e188_ok : ∀ k, k < 0 → parseFieldDescriptor (TJx8e188 k).2.2.1 = some (tyJx8e188 k) := by decide +kernel
def RJ6 : String := "java/lang/Integer"
def TJ6 : u_T := fun k => match k with
  | _ => ("", "", "", false)
def tyJ6 : Nat → FieldType := fun k => match k with
  | _ => .int
theorem nmJ6 : ∀ a, a < 0 → ∀ b, b < 0 → a ≠ b → (TJ6 a).2.1 ≠ (TJ6 b).2.1 := by decide +kernel
theorem tyJ6_ok : ∀ k, k < 0 → parseFieldDescriptor (TJ6 k).2.2.1 = some (tyJ6 k) := by decide +kernel
abbrev cJ6_lowestOneBit_0f7a4 : ByteArray := prog_14_method_46_code
def yJ6_lowestOneBit_0f7a4 : MethodName := ⟨RJ6, "lowestOneBit", "(I)I"⟩
abbrev cJ6_bitCount_0f7a4 : ByteArray := prog_14_method_49_code
def yJ6_bitCount_0f7a4 : MethodName := ⟨RJ6, "bitCount", "(I)I"⟩
def RJxab1ab : String := "java/lang/Iterable"
def TJxab1ab : u_T := fun k => match k with
  | _ => ("", "", "", false)
def tyJxab1ab : Nat → FieldType := fun k => match k with
  | _ => .int
theorem nmJxab1ab : ∀ a, a < 0 → ∀ b, b < 0 → a ≠ b → (TJxab1ab a).2.1 ≠ (TJxab1ab b).2.1 := by decide +kernel
theorem tyJxab1ab_ok : ∀ k, k < 0 → parseFieldDescriptor (TJxab1ab k).2.2.1 = some (tyJxab1ab k) := by decide +kernel
def RJ9 : String := "java/lang/Math"
def TJ9 : u_T := fun k => match k with
  | _ => ("", "", "", false)
def tyJ9 : Nat → FieldType := fun k => match k with
  | _ => .int
theorem nmJ9 : ∀ a, a < 0 → ∀ b, b < 0 → a ≠ b → (TJ9 a).2.1 ≠ (TJ9 b).2.1 := by decide +kernel
theorem tyJ9_ok : ∀ k, k < 0 → parseFieldDescriptor (TJ9 k).2.2.1 = some (tyJ9 k) := by decide +kernel
abbrev cJ9_max_7cf53 : ByteArray := prog_16_method_65_code
def yJ9_max_7cf53 : MethodName := ⟨RJ9, "max", "(II)I"⟩
abbrev cJ9_min_7cf53 : ByteArray := prog_16_method_69_code
def yJ9_min_7cf53 : MethodName := ⟨RJ9, "min", "(II)I"⟩
def RJ0 : String := "java/lang/String"
def TJ0 : u_T := fun k => match k with
  | _ => ("", "", "", false)
def tyJ0 : Nat → FieldType := fun k => match k with
  | _ => .int
theorem nmJ0 : ∀ a, a < 0 → ∀ b, b < 0 → a ≠ b → (TJ0 a).2.1 ≠ (TJ0 b).2.1 := by decide +kernel
theorem tyJ0_ok : ∀ k, k < 0 → parseFieldDescriptor (TJ0 k).2.2.1 = some (tyJ0 k) := by decide +kernel
def RJ10 : String := "java/lang/System"
def TJ10 : u_T := fun k => match k with
  | _ => ("", "", "", false)
def tyJ10 : Nat → FieldType := fun k => match k with
  | _ => .int
theorem nmJ10 : ∀ a, a < 0 → ∀ b, b < 0 → a ≠ b → (TJ10 a).2.1 ≠ (TJ10 b).2.1 := by decide +kernel
theorem tyJ10_ok : ∀ k, k < 0 → parseFieldDescriptor (TJ10 k).2.2.1 = some (tyJ10 k) := by decide +kernel
def RJxa1e45 : String := "java/util/AbstractCollection"
def TJxa1e45 : u_T := fun k => match k with
  | _ => ("", "", "", false)
def tyJxa1e45 : Nat → FieldType := fun k => match k with
  | _ => .int
theorem nmJxa1e45 : ∀ a, a < 0 → ∀ b, b < 0 → a ≠ b → (TJxa1e45 a).2.1 ≠ (TJxa1e45 b).2.1 := by decide +kernel
theorem tyJxa1e45_ok : ∀ k, k < 0 → parseFieldDescriptor (TJxa1e45 k).2.2.1 = some (tyJxa1e45 k) := by decide +kernel
abbrev cJxa1e45_init_da8c8 : ByteArray := prog_21_method_1_code
def yJxa1e45_init_da8c8 : MethodName := ⟨RJxa1e45, "<init>", "()V"⟩
def RJxc12de : String := "java/util/AbstractList"
def TJxc12de : u_T := fun k => match k with
  | _ => ("", "", "", false)
def tyJxc12de : Nat → FieldType := fun k => match k with
  | _ => .int
theorem nmJxc12de : ∀ a, a < 0 → ∀ b, b < 0 → a ≠ b → (TJxc12de a).2.1 ≠ (TJxc12de b).2.1 := by decide +kernel
theorem tyJxc12de_ok : ∀ k, k < 0 → parseFieldDescriptor (TJxc12de k).2.2.1 = some (tyJxc12de k) := by decide +kernel
abbrev cJxc12de_init_da8c8 : ByteArray := prog_22_method_1_code
def yJxc12de_init_da8c8 : MethodName := ⟨RJxc12de, "<init>", "()V"⟩
def RJx4a65c : String := "java/util/ArrayList"
def TJx4a65c : u_T := fun k => match k with
  | 0 => ("java/util/AbstractList", "modCount", "I", false)
  | 1 => ("java/util/ArrayList", "elementData", "[Ljava/lang/Object;", false)
  | _ => ("java/util/ArrayList", "size", "I", false)
def tyJx4a65c : Nat → FieldType := fun k => match k with
  | 0 => .int
  | 1 => .array (.object "java/lang/Object")
  | _ => .int
theorem nmJx4a65c : ∀ a, a < 3 → ∀ b, b < 3 → a ≠ b → (TJx4a65c a).2.1 ≠ (TJx4a65c b).2.1 := by decide +kernel
theorem tyJx4a65c_ok : ∀ k, k < 3 → parseFieldDescriptor (TJx4a65c k).2.2.1 = some (tyJx4a65c k) := by decide +kernel
abbrev cJx4a65c_init_da8c8 : ByteArray := prog_23_method_2_code
def yJx4a65c_init_da8c8 : MethodName := ⟨RJx4a65c, "<init>", "()V"⟩
abbrev cJx4a65c_grow_92f84 : ByteArray := prog_23_method_6_code
def yJx4a65c_grow_92f84 : MethodName := ⟨RJx4a65c, "grow", "(I)[Ljava/lang/Object;"⟩
abbrev cJx4a65c_grow_d5877 : ByteArray := prog_23_method_7_code
def yJx4a65c_grow_d5877 : MethodName := ⟨RJx4a65c, "grow", "()[Ljava/lang/Object;"⟩
abbrev cJx4a65c_size_8abf5 : ByteArray := prog_23_method_8_code
def yJx4a65c_size_8abf5 : MethodName := ⟨RJx4a65c, "size", "()I"⟩
abbrev cJx4a65c_elementData_915e3 : ByteArray := prog_23_method_18_code
def yJx4a65c_elementData_915e3 : MethodName := ⟨RJx4a65c, "elementData", "(I)Ljava/lang/Object;"⟩
abbrev cJx4a65c_get_915e3 : ByteArray := prog_23_method_20_code
def yJx4a65c_get_915e3 : MethodName := ⟨RJx4a65c, "get", "(I)Ljava/lang/Object;"⟩
abbrev cJx4a65c_add_72be8 : ByteArray := prog_23_method_24_code
def yJx4a65c_add_72be8 : MethodName := ⟨RJx4a65c, "add", "(Ljava/lang/Object;[Ljava/lang/Object;I)V"⟩
abbrev cJx4a65c_add_9ea2d : ByteArray := prog_23_method_25_code
def yJx4a65c_add_9ea2d : MethodName := ⟨RJx4a65c, "add", "(Ljava/lang/Object;)Z"⟩
def RJ7 : String := "java/util/Arrays"
def TJ7 : u_T := fun k => match k with
  | _ => ("", "", "", false)
def tyJ7 : Nat → FieldType := fun k => match k with
  | _ => .int
theorem nmJ7 : ∀ a, a < 0 → ∀ b, b < 0 → a ≠ b → (TJ7 a).2.1 ≠ (TJ7 b).2.1 := by decide +kernel
theorem tyJ7_ok : ∀ k, k < 0 → parseFieldDescriptor (TJ7 k).2.2.1 = some (tyJ7 k) := by decide +kernel
abbrev cJ7_fill_53178 : ByteArray := prog_24_method_103_code
def yJ7_fill_53178 : MethodName := ⟨RJ7, "fill", "([II)V"⟩
abbrev cJ7_copyOf_1904c : ByteArray := prog_24_method_119_code
def yJ7_copyOf_1904c : MethodName := ⟨RJ7, "copyOf", "([Ljava/lang/Object;I)[Ljava/lang/Object;"⟩
abbrev cJ7_copyOf_6403c : ByteArray := prog_24_method_120_code
def yJ7_copyOf_6403c : MethodName := ⟨RJ7, "copyOf", "([Ljava/lang/Object;ILjava/lang/Class;)[Ljava/lang/Object;"⟩
abbrev cJ7_copyOf_59c91 : ByteArray := prog_24_method_123_code
def yJ7_copyOf_59c91 : MethodName := ⟨RJ7, "copyOf", "([II)[I"⟩
def RJx5ef63 : String := "java/util/Collection"
def TJx5ef63 : u_T := fun k => match k with
  | _ => ("", "", "", false)
def tyJx5ef63 : Nat → FieldType := fun k => match k with
  | _ => .int
theorem nmJx5ef63 : ∀ a, a < 0 → ∀ b, b < 0 → a ≠ b → (TJx5ef63 a).2.1 ≠ (TJx5ef63 b).2.1 := by decide +kernel
theorem tyJx5ef63_ok : ∀ k, k < 0 → parseFieldDescriptor (TJx5ef63 k).2.2.1 = some (tyJx5ef63 k) := by decide +kernel
def RJxbd725 : String := "java/util/List"
def TJxbd725 : u_T := fun k => match k with
  | _ => ("", "", "", false)
def tyJxbd725 : Nat → FieldType := fun k => match k with
  | _ => .int
theorem nmJxbd725 : ∀ a, a < 0 → ∀ b, b < 0 → a ≠ b → (TJxbd725 a).2.1 ≠ (TJxbd725 b).2.1 := by decide +kernel
theorem tyJxbd725_ok : ∀ k, k < 0 → parseFieldDescriptor (TJxbd725 k).2.2.1 = some (tyJxbd725 k) := by decide +kernel
def RJ15 : String := "java/util/Objects"
def TJ15 : u_T := fun k => match k with
  | _ => ("", "", "", false)
def tyJ15 : Nat → FieldType := fun k => match k with
  | _ => .int
theorem nmJ15 : ∀ a, a < 0 → ∀ b, b < 0 → a ≠ b → (TJ15 a).2.1 ≠ (TJ15 b).2.1 := by decide +kernel
theorem tyJ15_ok : ∀ k, k < 0 → parseFieldDescriptor (TJ15 k).2.2.1 = some (tyJ15 k) := by decide +kernel
abbrev cJ15_checkIndex_7cf53 : ByteArray := prog_28_method_17_code
def yJ15_checkIndex_7cf53 : MethodName := ⟨RJ15, "checkIndex", "(II)I"⟩
def RJxf0a74 : String := "java/util/RandomAccess"
def TJxf0a74 : u_T := fun k => match k with
  | _ => ("", "", "", false)
def tyJxf0a74 : Nat → FieldType := fun k => match k with
  | _ => .int
theorem nmJxf0a74 : ∀ a, a < 0 → ∀ b, b < 0 → a ≠ b → (TJxf0a74 a).2.1 ≠ (TJxf0a74 b).2.1 := by decide +kernel
theorem tyJxf0a74_ok : ∀ k, k < 0 → parseFieldDescriptor (TJxf0a74 k).2.2.1 = some (tyJxf0a74 k) := by decide +kernel
def RJxa66e6 : String := "java/util/SequencedCollection"
def TJxa66e6 : u_T := fun k => match k with
  | _ => ("", "", "", false)
def tyJxa66e6 : Nat → FieldType := fun k => match k with
  | _ => .int
theorem nmJxa66e6 : ∀ a, a < 0 → ∀ b, b < 0 → a ≠ b → (TJxa66e6 a).2.1 ≠ (TJxa66e6 b).2.1 := by decide +kernel
theorem tyJxa66e6_ok : ∀ k, k < 0 → parseFieldDescriptor (TJxa66e6 k).2.2.1 = some (tyJxa66e6 k) := by decide +kernel
def RJ8 : String := "jdk/internal/util/ArraysSupport"
def TJ8 : u_T := fun k => match k with
  | _ => ("", "", "", false)
def tyJ8 : Nat → FieldType := fun k => match k with
  | _ => .int
theorem nmJ8 : ∀ a, a < 0 → ∀ b, b < 0 → a ≠ b → (TJ8 a).2.1 ≠ (TJ8 b).2.1 := by decide +kernel
theorem tyJ8_ok : ∀ k, k < 0 → parseFieldDescriptor (TJ8 k).2.2.1 = some (tyJ8 k) := by decide +kernel
abbrev cJ8_newLength_cabcc : ByteArray := prog_31_method_27_code
def yJ8_newLength_cabcc : MethodName := ⟨RJ8, "newLength", "(III)I"⟩
abbrev cJ8_hugeLength_7cf53 : ByteArray := prog_31_method_28_code
def yJ8_hugeLength_7cf53 : MethodName := ⟨RJ8, "hugeLength", "(II)I"⟩
def RJ3 : String := "jdk/internal/util/Preconditions"
def TJ3 : u_T := fun k => match k with
  | _ => ("", "", "", false)
def tyJ3 : Nat → FieldType := fun k => match k with
  | _ => .int
theorem nmJ3 : ∀ a, a < 0 → ∀ b, b < 0 → a ≠ b → (TJ3 a).2.1 ≠ (TJ3 b).2.1 := by decide +kernel
theorem tyJ3_ok : ∀ k, k < 0 → parseFieldDescriptor (TJ3 k).2.2.1 = some (tyJ3 k) := by decide +kernel
abbrev cJ3_checkIndex_8e157 : ByteArray := prog_32_method_11_code
def yJ3_checkIndex_8e157 : MethodName := ⟨RJ3, "checkIndex", "(IILjava/util/function/BiFunction;)I"⟩
def RL : String := "TrainDeskLaw"
abbrev cL_was : ByteArray := method_3_code
def yL_was : MethodName := ⟨RL, "was", "(LTrainDesk;IIZ[J)I"⟩
abbrev cL_law : ByteArray := code
def yL_law : MethodName := ⟨RL, "law", "([I)Z"⟩
