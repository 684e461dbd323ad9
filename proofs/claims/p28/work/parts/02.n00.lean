/-! ===== BEGIN words of one list among another's, by their places ===== -/
theorem goodIn_r {big : List Cond} (ws : List Cond) (ps : List Nat) (hp : ws = ps.filterMap (fun i => big[i]?)) (h : ws.all goodWord = true) : GoodIn big ws := by
  intro w hw
  have h1 := List.all_eq_true.mp h w hw
  rw [hp] at hw
  obtain ⟨i, -, hi⟩ := List.mem_filterMap.mp hw
  have hm : w ∈ big := by first | exact List.mem_of_getElem? hi | exact List.getElem?_mem hi
  exact ⟨hm, good_of_word h1⟩
theorem goodIn_app {big a b : List Cond} (ha : GoodIn big a) (hb : GoodIn big b) : GoodIn big (a ++ b) := fun w h => (List.mem_append.mp h).elim (ha w) (hb w)
theorem goodIn_ca {big a b : List Cond} {c : Cond} (ha : GoodIn big (c :: a)) (hb : GoodIn big b) : GoodIn big (c :: (a ++ b)) := fun w h => (List.mem_cons.mp h).elim (fun e => ha w (List.mem_cons.mpr (Or.inl e))) (fun h => (List.mem_append.mp h).elim (fun h => ha w (List.mem_cons.mpr (Or.inr h))) (hb w))
theorem goodIn_sub {big ws : List Cond} (hm : ∀ w ∈ ws, w ∈ big) (h : ws.all goodWord = true) : GoodIn big ws := fun w hw => ⟨hm w hw, good_of_word (List.all_eq_true.mp h w hw)⟩
/-! ===== END ===== -/

/-! ===== BEGIN printed: names, fields, word lists, decode rows ===== -/
def RX0 : String := "FlatLottery$Flat"
def TX0 : u_T := fun k => match k with
  | 0 => ("FlatLottery$Flat", "rooms", "I", false)
  | _ => ("FlatLottery$Flat", "rent", "I", false)
def tyX0 : Nat → FieldType := fun k => match k with
  | 0 => .int
  | _ => .int
abbrev wsX00 : List Cond := u_ws RX0 TX0 2
theorem nmX0 : ∀ a, a < 2 → ∀ b, b < 2 → a ≠ b → (TX0 a).2.1 ≠ (TX0 b).2.1 := by decide +kernel
theorem tyX0_ok : ∀ k, k < 2 → parseFieldDescriptor (TX0 k).2.2.1 = some (tyX0 k) := by decide +kernel
abbrev cX0_init : ByteArray := prog_2_method_1_code
def yX0_init : MethodName := ⟨RX0, "<init>", "()V"⟩
abbrev cX0_copyFrom : ByteArray := prog_2_method_2_code
def yX0_copyFrom : MethodName := ⟨RX0, "copyFrom", "(LFlatLottery$Flat;)V"⟩
def RX1 : String := "FlatLottery$History"
def TX1 : u_T := fun k => match k with
  | 0 => ("FlatLottery$History", "states", "[LFlatLottery$State;", true)
  | _ => ("FlatLottery$History", "size", "I", false)
def tyX1 : Nat → FieldType := fun k => match k with
  | 0 => .array (.object "FlatLottery$State")
  | _ => .int
abbrev wsX10 : List Cond := u_ws RX1 TX1 2
theorem nmX1 : ∀ a, a < 2 → ∀ b, b < 2 → a ≠ b → (TX1 a).2.1 ≠ (TX1 b).2.1 := by decide +kernel
theorem tyX1_ok : ∀ k, k < 2 → parseFieldDescriptor (TX1 k).2.2.1 = some (tyX1 k) := by decide +kernel
abbrev cX1_init : ByteArray := prog_3_method_1_code
def yX1_init : MethodName := ⟨RX1, "<init>", "()V"⟩
abbrev cX1_record : ByteArray := prog_3_method_2_code
def yX1_record : MethodName := ⟨RX1, "record", "(LFlatLottery$State;)V"⟩
abbrev cX1_dropOldest : ByteArray := prog_3_method_3_code
def yX1_dropOldest : MethodName := ⟨RX1, "dropOldest", "()V"⟩
abbrev cX1_takeBack : ByteArray := prog_3_method_4_code
def yX1_takeBack : MethodName := ⟨RX1, "takeBack", "(LFlatLottery$State;)V"⟩
def RX2 : String := "FlatLottery$Household"
def TX2 : u_T := fun k => match k with
  | 0 => ("FlatLottery$Household", "wishes", "[I", true)
  | 1 => ("FlatLottery$Household", "wishCount", "I", false)
  | 2 => ("FlatLottery$Household", "members", "I", false)
  | 3 => ("FlatLottery$Household", "income", "I", false)
  | 4 => ("FlatLottery$Household", "number", "I", false)
  | 5 => ("FlatLottery$Household", "points", "I", false)
  | 6 => ("FlatLottery$Household", "held", "I", false)
  | 7 => ("FlatLottery$Household", "appeals", "I", false)
  | _ => ("FlatLottery$Household", "passedOver", "I", false)
def tyX2 : Nat → FieldType := fun k => match k with
  | 0 => .array .int
  | 1 => .int
  | 2 => .int
  | 3 => .int
  | 4 => .int
  | 5 => .int
  | 6 => .int
  | 7 => .int
  | _ => .int
abbrev wsX20 : List Cond := u_ws RX2 TX2 9
theorem nmX2 : ∀ a, a < 9 → ∀ b, b < 9 → a ≠ b → (TX2 a).2.1 ≠ (TX2 b).2.1 := by decide +kernel
theorem tyX2_ok : ∀ k, k < 9 → parseFieldDescriptor (TX2 k).2.2.1 = some (tyX2 k) := by decide +kernel
abbrev cX2_init : ByteArray := prog_4_method_1_code
def yX2_init : MethodName := ⟨RX2, "<init>", "()V"⟩
abbrev cX2_begin : ByteArray := prog_4_method_2_code
def yX2_begin : MethodName := ⟨RX2, "begin", "(II)V"⟩
abbrev cX2_copyFrom : ByteArray := prog_4_method_3_code
def yX2_copyFrom : MethodName := ⟨RX2, "copyFrom", "(LFlatLottery$Household;)V"⟩
abbrev cX2_placeOf : ByteArray := prog_4_method_4_code
def yX2_placeOf : MethodName := ⟨RX2, "placeOf", "(I)I"⟩
abbrev cX2_addWish : ByteArray := prog_4_method_5_code
def yX2_addWish : MethodName := ⟨RX2, "addWish", "(I)V"⟩
abbrev cX2_removeWish : ByteArray := prog_4_method_6_code
def yX2_removeWish : MethodName := ⟨RX2, "removeWish", "(I)V"⟩
abbrev cX2_wishesMoreThanItsOwn : ByteArray := prog_4_method_7_code
def yX2_wishesMoreThanItsOwn : MethodName := ⟨RX2, "wishesMoreThanItsOwn", "(I)Z"⟩
abbrev cX2_isEligibleFor : ByteArray := prog_4_method_8_code
def yX2_isEligibleFor : MethodName := ⟨RX2, "isEligibleFor", "(LFlatLottery$Flat;)Z"⟩
abbrev cX2_standsAheadOf : ByteArray := prog_4_method_9_code
def yX2_standsAheadOf : MethodName := ⟨RX2, "standsAheadOf", "(LFlatLottery$Household;)Z"⟩
def RX3 : String := "FlatLottery$ListText"
def TX3 : u_T := fun k => match k with
  | 0 => ("FlatLottery$ListText", "characters", "[C", true)
  | 1 => ("FlatLottery$ListText", "length", "I", false)
  | 2 => ("FlatLottery$ListText", "listCount", "I", false)
  | 3 => ("FlatLottery$ListText", "listHousehold", "[I", true)
  | 4 => ("FlatLottery$ListText", "listSize", "[I", true)
  | 5 => ("FlatLottery$ListText", "listFlats", "[I", true)
  | _ => ("FlatLottery$ListText", "at", "I", false)
def tyX3 : Nat → FieldType := fun k => match k with
  | 0 => .array .char
  | 1 => .int
  | 2 => .int
  | 3 => .array .int
  | 4 => .array .int
  | 5 => .array .int
  | _ => .int
abbrev wsX30 : List Cond := u_ws RX3 TX3 7
theorem nmX3 : ∀ a, a < 7 → ∀ b, b < 7 → a ≠ b → (TX3 a).2.1 ≠ (TX3 b).2.1 := by decide +kernel
theorem tyX3_ok : ∀ k, k < 7 → parseFieldDescriptor (TX3 k).2.2.1 = some (tyX3 k) := by decide +kernel
abbrev cX3_init : ByteArray := prog_5_method_1_code
def yX3_init : MethodName := ⟨RX3, "<init>", "()V"⟩
abbrev cX3_append : ByteArray := prog_5_method_2_code
def yX3_append : MethodName := ⟨RX3, "append", "(C)Z"⟩
abbrev cX3_findFault : ByteArray := prog_5_method_3_code
def yX3_findFault : MethodName := ⟨RX3, "findFault", "()I"⟩
abbrev cX3_atHand : ByteArray := prog_5_method_4_code
def yX3_atHand : MethodName := ⟨RX3, "atHand", "()I"⟩
abbrev cX3_readList : ByteArray := prog_5_method_5_code
def yX3_readList : MethodName := ⟨RX3, "readList", "()Z"⟩
abbrev cX3_readNumber : ByteArray := prog_5_method_6_code
def yX3_readNumber : MethodName := ⟨RX3, "readNumber", "()I"⟩
abbrev cX3_digitAtHand : ByteArray := prog_5_method_7_code
def yX3_digitAtHand : MethodName := ⟨RX3, "digitAtHand", "()I"⟩
abbrev cX3_namesOnlyKnown : ByteArray := prog_5_method_8_code
def yX3_namesOnlyKnown : MethodName := ⟨RX3, "namesOnlyKnown", "(LFlatLottery$State;)Z"⟩
abbrev cX3_hasFlatTwiceInList : ByteArray := prog_5_method_9_code
def yX3_hasFlatTwiceInList : MethodName := ⟨RX3, "hasFlatTwiceInList", "()Z"⟩
abbrev cX3_layLists : ByteArray := prog_5_method_10_code
def yX3_layLists : MethodName := ⟨RX3, "layLists", "(LFlatLottery$State;)V"⟩
def RX4 : String := "FlatLottery$Matching"
def TX4 : u_T := fun k => match k with
  | 0 => ("FlatLottery$Matching", "flatOf", "[I", true)
  | 1 => ("FlatLottery$Matching", "takenBy", "[I", true)
  | 2 => ("FlatLottery$Matching", "askedBy", "[I", true)
  | _ => ("FlatLottery$Matching", "waiting", "[I", true)
def tyX4 : Nat → FieldType := fun k => match k with
  | 0 => .array .int
  | 1 => .array .int
  | 2 => .array .int
  | _ => .array .int
abbrev wsX40 : List Cond := u_ws RX4 TX4 4
theorem nmX4 : ∀ a, a < 4 → ∀ b, b < 4 → a ≠ b → (TX4 a).2.1 ≠ (TX4 b).2.1 := by decide +kernel
theorem tyX4_ok : ∀ k, k < 4 → parseFieldDescriptor (TX4 k).2.2.1 = some (tyX4 k) := by decide +kernel
abbrev cX4_init : ByteArray := prog_6_method_1_code
def yX4_init : MethodName := ⟨RX4, "<init>", "()V"⟩
abbrev cX4_greatest : ByteArray := prog_6_method_2_code
def yX4_greatest : MethodName := ⟨RX4, "greatest", "(LFlatLottery$State;)I"⟩
abbrev cX4_canHouse : ByteArray := prog_6_method_3_code
def yX4_canHouse : MethodName := ⟨RX4, "canHouse", "(ILFlatLottery$State;)Z"⟩
abbrev cX4_handOn : ByteArray := prog_6_method_4_code
def yX4_handOn : MethodName := ⟨RX4, "handOn", "(I)V"⟩
def RX5 : String := "FlatLottery$Rings"
def TX5 : u_T := fun k => match k with
  | 0 => ("FlatLottery$Rings", "pointed", "[I", true)
  | _ => ("FlatLottery$Rings", "size", "I", false)
def tyX5 : Nat → FieldType := fun k => match k with
  | 0 => .array .int
  | _ => .int
abbrev wsX50 : List Cond := u_ws RX5 TX5 2
theorem nmX5 : ∀ a, a < 2 → ∀ b, b < 2 → a ≠ b → (TX5 a).2.1 ≠ (TX5 b).2.1 := by decide +kernel
theorem tyX5_ok : ∀ k, k < 2 → parseFieldDescriptor (TX5 k).2.2.1 = some (tyX5 k) := by decide +kernel
abbrev cX5_init : ByteArray := prog_7_method_1_code
def yX5_init : MethodName := ⟨RX5, "<init>", "()V"⟩
abbrev cX5_lookAt : ByteArray := prog_7_method_2_code
def yX5_lookAt : MethodName := ⟨RX5, "lookAt", "(LFlatLottery$State;)V"⟩
abbrev cX5_after : ByteArray := prog_7_method_3_code
def yX5_after : MethodName := ⟨RX5, "after", "(I)I"⟩
abbrev cX5_isInRing : ByteArray := prog_7_method_4_code
def yX5_isInRing : MethodName := ⟨RX5, "isInRing", "(I)Z"⟩
abbrev cX5_countHouseholds : ByteArray := prog_7_method_5_code
def yX5_countHouseholds : MethodName := ⟨RX5, "countHouseholds", "()I"⟩
abbrev cX5_lowestHousehold : ByteArray := prog_7_method_6_code
def yX5_lowestHousehold : MethodName := ⟨RX5, "lowestHousehold", "()I"⟩
abbrev cX5_swapAll : ByteArray := prog_7_method_7_code
def yX5_swapAll : MethodName := ⟨RX5, "swapAll", "(LFlatLottery$State;)I"⟩
abbrev cX5_swapRingOf : ByteArray := prog_7_method_8_code
def yX5_swapRingOf : MethodName := ⟨RX5, "swapRingOf", "(ILFlatLottery$State;)I"⟩
def RX6 : String := "FlatLottery$State"
def TX6 : u_T := fun k => match k with
  | 0 => ("FlatLottery$State", "flats", "[LFlatLottery$Flat;", true)
  | 1 => ("FlatLottery$State", "households", "[LFlatLottery$Household;", true)
  | 2 => ("FlatLottery$State", "flatCount", "I", false)
  | 3 => ("FlatLottery$State", "householdCount", "I", false)
  | 4 => ("FlatLottery$State", "rounds", "I", false)
  | 5 => ("FlatLottery$State", "refused", "I", false)
  | 6 => ("FlatLottery$State", "declined", "I", false)
  | _ => ("FlatLottery$State", "order", "[I", true)
def tyX6 : Nat → FieldType := fun k => match k with
  | 0 => .array (.object "FlatLottery$Flat")
  | 1 => .array (.object "FlatLottery$Household")
  | 2 => .int
  | 3 => .int
  | 4 => .int
  | 5 => .int
  | 6 => .int
  | _ => .array .int
abbrev wsX60 : List Cond := u_ws RX6 TX6 8
theorem nmX6 : ∀ a, a < 8 → ∀ b, b < 8 → a ≠ b → (TX6 a).2.1 ≠ (TX6 b).2.1 := by decide +kernel
theorem tyX6_ok : ∀ k, k < 8 → parseFieldDescriptor (TX6 k).2.2.1 = some (tyX6 k) := by decide +kernel
abbrev cX6_init : ByteArray := prog_8_method_1_code
def yX6_init : MethodName := ⟨RX6, "<init>", "()V"⟩
abbrev cX6_copyFrom : ByteArray := prog_8_method_2_code
def yX6_copyFrom : MethodName := ⟨RX6, "copyFrom", "(LFlatLottery$State;)V"⟩
abbrev cX6_hasFlat : ByteArray := prog_8_method_3_code
def yX6_hasFlat : MethodName := ⟨RX6, "hasFlat", "(I)Z"⟩
abbrev cX6_hasHousehold : ByteArray := prog_8_method_4_code
def yX6_hasHousehold : MethodName := ⟨RX6, "hasHousehold", "(I)Z"⟩
abbrev cX6_holderOf : ByteArray := prog_8_method_5_code
def yX6_holderOf : MethodName := ⟨RX6, "holderOf", "(I)I"⟩
abbrev cX6_ownerOfNumber : ByteArray := prog_8_method_6_code
def yX6_ownerOfNumber : MethodName := ⟨RX6, "ownerOfNumber", "(I)I"⟩
abbrev cX6_wishersOf : ByteArray := prog_8_method_7_code
def yX6_wishersOf : MethodName := ⟨RX6, "wishersOf", "(I)I"⟩
abbrev cX6_eligibleFor : ByteArray := prog_8_method_8_code
def yX6_eligibleFor : MethodName := ⟨RX6, "eligibleFor", "(I)I"⟩
abbrev cX6_isEligible : ByteArray := prog_8_method_9_code
def yX6_isEligible : MethodName := ⟨RX6, "isEligible", "(LFlatLottery$Household;I)Z"⟩
abbrev cX6_countHeld : ByteArray := prog_8_method_10_code
def yX6_countHeld : MethodName := ⟨RX6, "countHeld", "()I"⟩
abbrev cX6_countNumbered : ByteArray := prog_8_method_11_code
def yX6_countNumbered : MethodName := ⟨RX6, "countNumbered", "()I"⟩
abbrev cX6_countAppeals : ByteArray := prog_8_method_12_code
def yX6_countAppeals : MethodName := ⟨RX6, "countAppeals", "()I"⟩
abbrev cX6_placeInOrder : ByteArray := prog_8_method_13_code
def yX6_placeInOrder : MethodName := ⟨RX6, "placeInOrder", "(LFlatLottery$Household;)I"⟩
abbrev cX6_lineUp : ByteArray := prog_8_method_14_code
def yX6_lineUp : MethodName := ⟨RX6, "lineUp", "()I"⟩
abbrev cX6_giveFlatsInOrder : ByteArray := prog_8_method_15_code
def yX6_giveFlatsInOrder : MethodName := ⟨RX6, "giveFlatsInOrder", "()I"⟩
abbrev cX6_flatIfAllWereFree : ByteArray := prog_8_method_16_code
def yX6_flatIfAllWereFree : MethodName := ⟨RX6, "flatIfAllWereFree", "(II)I"⟩
abbrev cX6_heldFlats : ByteArray := prog_8_method_17_code
def yX6_heldFlats : MethodName := ⟨RX6, "heldFlats", "()I"⟩
abbrev cX6_firstWishOutside : ByteArray := prog_8_method_18_code
def yX6_firstWishOutside : MethodName := ⟨RX6, "firstWishOutside", "(ILFlatLottery$Household;)I"⟩
abbrev cX6_reasonHolds : ByteArray := prog_8_method_19_code
def yX6_reasonHolds : MethodName := ⟨RX6, "reasonHolds", "(LFlatLottery$Household;I)Z"⟩
abbrev cX6_isPassedOver : ByteArray := prog_8_method_20_code
def yX6_isPassedOver : MethodName := ⟨RX6, "isPassedOver", "(LFlatLottery$Household;)Z"⟩
abbrev cX6_isCrowded : ByteArray := prog_8_method_21_code
def yX6_isCrowded : MethodName := ⟨RX6, "isCrowded", "(LFlatLottery$Household;)Z"⟩
abbrev cX6_isWronged : ByteArray := prog_8_method_22_code
def yX6_isWronged : MethodName := ⟨RX6, "isWronged", "(LFlatLottery$Household;)Z"⟩
abbrev cX6_envyOf : ByteArray := prog_8_method_23_code
def yX6_envyOf : MethodName := ⟨RX6, "envyOf", "(LFlatLottery$Household;LFlatLottery$Household;)I"⟩
abbrev cX6_countEnvy : ByteArray := prog_8_method_24_code
def yX6_countEnvy : MethodName := ⟨RX6, "countEnvy", "(I)I"⟩
abbrev cX6_pointsTo : ByteArray := prog_8_method_25_code
def yX6_pointsTo : MethodName := ⟨RX6, "pointsTo", "(LFlatLottery$Household;)I"⟩
def RX7 : String := "FlatLottery"
def TX7 : u_T := fun k => match k with
  | 0 => ("FlatLottery", "state", "LFlatLottery$State;", true)
  | 1 => ("FlatLottery", "snapshot", "LFlatLottery$State;", true)
  | 2 => ("FlatLottery", "hasSnapshot", "Z", false)
  | 3 => ("FlatLottery", "history", "LFlatLottery$History;", true)
  | 4 => ("FlatLottery", "text", "LFlatLottery$ListText;", true)
  | 5 => ("FlatLottery", "rings", "LFlatLottery$Rings;", true)
  | _ => ("FlatLottery", "matching", "LFlatLottery$Matching;", true)
def tyX7 : Nat → FieldType := fun k => match k with
  | 0 => .object "FlatLottery$State"
  | 1 => .object "FlatLottery$State"
  | 2 => .boolean
  | 3 => .object "FlatLottery$History"
  | 4 => .object "FlatLottery$ListText"
  | 5 => .object "FlatLottery$Rings"
  | _ => .object "FlatLottery$Matching"
abbrev wsX70 : List Cond := u_ws RX7 TX7 7
theorem nmX7 : ∀ a, a < 7 → ∀ b, b < 7 → a ≠ b → (TX7 a).2.1 ≠ (TX7 b).2.1 := by decide +kernel
theorem tyX7_ok : ∀ k, k < 7 → parseFieldDescriptor (TX7 k).2.2.1 = some (tyX7 k) := by decide +kernel
abbrev cX7_init : ByteArray := prog_1_method_1_code
def yX7_init : MethodName := ⟨RX7, "<init>", "()V"⟩
abbrev cX7_addFlat : ByteArray := prog_1_method_2_code
def yX7_addFlat : MethodName := ⟨RX7, "addFlat", "(II)I"⟩
abbrev cX7_addHousehold : ByteArray := prog_1_method_3_code
def yX7_addHousehold : MethodName := ⟨RX7, "addHousehold", "(II)I"⟩
abbrev cX7_change : ByteArray := prog_1_method_4_code
def yX7_change : MethodName := ⟨RX7, "change", "(IZI)I"⟩
abbrev cX7_wish : ByteArray := prog_1_method_5_code
def yX7_wish : MethodName := ⟨RX7, "wish", "(II)I"⟩
abbrev cX7_unwish : ByteArray := prog_1_method_6_code
def yX7_unwish : MethodName := ⟨RX7, "unwish", "(II)I"⟩
abbrev cX7_readLists : ByteArray := prog_1_method_7_code
def yX7_readLists : MethodName := ⟨RX7, "readLists", "()I"⟩
abbrev cX7_draw : ByteArray := prog_1_method_8_code
def yX7_draw : MethodName := ⟨RX7, "draw", "(II)I"⟩
abbrev cX7_round : ByteArray := prog_1_method_9_code
def yX7_round : MethodName := ⟨RX7, "round", "()I"⟩
abbrev cX7_decline : ByteArray := prog_1_method_10_code
def yX7_decline : MethodName := ⟨RX7, "decline", "(I)I"⟩
abbrev cX7_appeal : ByteArray := prog_1_method_11_code
def yX7_appeal : MethodName := ⟨RX7, "appeal", "(II)I"⟩
abbrev cX7_swap : ByteArray := prog_1_method_12_code
def yX7_swap : MethodName := ⟨RX7, "swap", "()I"⟩
abbrev cX7_moveOut : ByteArray := prog_1_method_13_code
def yX7_moveOut : MethodName := ⟨RX7, "moveOut", "(I)I"⟩
abbrev cX7_type : ByteArray := prog_1_method_14_code
def yX7_type : MethodName := ⟨RX7, "type", "(C)I"⟩
abbrev cX7_clearText : ByteArray := prog_1_method_15_code
def yX7_clearText : MethodName := ⟨RX7, "clearText", "()I"⟩
abbrev cX7_undo : ByteArray := prog_1_method_16_code
def yX7_undo : MethodName := ⟨RX7, "undo", "()I"⟩
abbrev cX7_keep : ByteArray := prog_1_method_17_code
def yX7_keep : MethodName := ⟨RX7, "keep", "()I"⟩
abbrev cX7_restore : ByteArray := prog_1_method_18_code
def yX7_restore : MethodName := ⟨RX7, "restore", "()I"⟩
abbrev cX7_flat : ByteArray := prog_1_method_19_code
def yX7_flat : MethodName := ⟨RX7, "flat", "(II)I"⟩
abbrev cX7_household : ByteArray := prog_1_method_20_code
def yX7_household : MethodName := ⟨RX7, "household", "(II)I"⟩
abbrev cX7_wished : ByteArray := prog_1_method_21_code
def yX7_wished : MethodName := ⟨RX7, "wished", "(II)I"⟩
abbrev cX7_ordered : ByteArray := prog_1_method_22_code
def yX7_ordered : MethodName := ⟨RX7, "ordered", "(I)I"⟩
abbrev cX7_envies : ByteArray := prog_1_method_23_code
def yX7_envies : MethodName := ⟨RX7, "envies", "(II)I"⟩
abbrev cX7_wouldGet : ByteArray := prog_1_method_24_code
def yX7_wouldGet : MethodName := ⟨RX7, "wouldGet", "(II)I"⟩
abbrev cX7_most : ByteArray := prog_1_method_25_code
def yX7_most : MethodName := ⟨RX7, "most", "()I"⟩
abbrev cX7_count : ByteArray := prog_1_method_26_code
def yX7_count : MethodName := ⟨RX7, "count", "(I)I"⟩
abbrev cX7_isWithin : ByteArray := prog_1_method_27_code
def yX7_isWithin : MethodName := ⟨RX7, "isWithin", "(III)Z"⟩
def RX8 : String := "FlatLotteryModel"
def TX8 : u_T := fun k => match k with
  | _ => ("", "", "", false)
def tyX8 : Nat → FieldType := fun k => match k with
  | _ => .int
abbrev wsX80 : List Cond := u_ws RX8 TX8 0
theorem nmX8 : ∀ a, a < 0 → ∀ b, b < 0 → a ≠ b → (TX8 a).2.1 ≠ (TX8 b).2.1 := by decide +kernel
theorem tyX8_ok : ∀ k, k < 0 → parseFieldDescriptor (TX8 k).2.2.1 = some (tyX8 k) := by decide +kernel
def RJ9 : String := "java/lang/Math"
def TJ9 : u_T := fun k => match k with
  | _ => ("", "", "", false)
def tyJ9 : Nat → FieldType := fun k => match k with
  | _ => .int
abbrev wsJ90 : List Cond := u_ws RJ9 TJ9 0
theorem nmJ9 : ∀ a, a < 0 → ∀ b, b < 0 → a ≠ b → (TJ9 a).2.1 ≠ (TJ9 b).2.1 := by decide +kernel
theorem tyJ9_ok : ∀ k, k < 0 → parseFieldDescriptor (TJ9 k).2.2.1 = some (tyJ9 k) := by decide +kernel
abbrev cJ9_max_7cf53 : ByteArray := prog_11_method_65_code
def yJ9_max_7cf53 : MethodName := ⟨RJ9, "max", "(II)I"⟩
def RL : String := "FlatLotteryLaw"
abbrev cL_part : ByteArray := method_2_code
def yL_part : MethodName := ⟨RL, "part", "(II)I"⟩
abbrev cL_drawn : ByteArray := method_3_code
def yL_drawn : MethodName := ⟨RL, "drawn", "([II)I"⟩
abbrev cL_seen : ByteArray := method_4_code
def yL_seen : MethodName := ⟨RL, "seen", "(LFlatLottery;)J"⟩
abbrev cL_refusesAny : ByteArray := method_5_code
def yL_refusesAny : MethodName := ⟨RL, "refusesAny", "(LFlatLottery;I)Z"⟩
abbrev cL_refused : ByteArray := method_6_code
def yL_refused : MethodName := ⟨RL, "refused", "(LFlatLottery;)Z"⟩
abbrev cL_types : ByteArray := method_7_code
def yL_types : MethodName := ⟨RL, "types", "(LFlatLottery;J)Z"⟩
abbrev cL_homes : ByteArray := method_8_code
def yL_homes : MethodName := ⟨RL, "homes", "()Z"⟩
abbrev cL_faultOf : ByteArray := method_9_code
def yL_faultOf : MethodName := ⟨RL, "faultOf", "(JJ)I"⟩
abbrev cL_texts : ByteArray := method_10_code
def yL_texts : MethodName := ⟨RL, "texts", "()Z"⟩
abbrev cL_law : ByteArray := code
def yL_law : MethodName := ⟨RL, "law", "([I)Z"⟩
def wsX0_init : List Cond := .code yX0_init cX0_init 1 none :: ([.methodLink RX0 1 objectInit, .instanceMethod objectInit, .code objectInit ⟨#[0xb1]⟩ 1 none])
def wsX0_copyFrom : List Cond := .code yX0_copyFrom cX0_copyFrom 2 none :: ([.fieldLink RX0 7 "FlatLottery$Flat" "rooms" "I", .fieldLink RX0 13 "FlatLottery$Flat" "rent" "I"] ++ wsX00)
def wsX2_init : List Cond := .code yX2_init cX2_init 1 none :: ([.methodLink RX2 3 objectInit, .instanceMethod objectInit, .code objectInit ⟨#[0xb1]⟩ 1 none, .arrayClass .int, .fieldLink RX2 9 "FlatLottery$Household" "wishes" "[I"] ++ wsX20)
def wsX6_init : List Cond := .code yX6_init cX6_init 2 none :: ([.methodLink RX6 3 objectInit, .instanceMethod objectInit, .code objectInit ⟨#[0xb1]⟩ 1 none, .classLink RX6 9 RX0, .fieldLink RX6 11 "FlatLottery$State" "flats" "[LFlatLottery$Flat;", .classLink RX6 17 RX2, .fieldLink RX6 19 "FlatLottery$State" "households" "[LFlatLottery$Household;", .arrayClass .int, .fieldLink RX6 23 "FlatLottery$State" "order" "[I", .instantiable RX0 2, .initialized RX0, .instantiable RX2 9, .initialized RX2, .instanceMethod yX0_init, .code yX0_init cX0_init 1 none, .methodLink RX0 1 objectInit, .instanceMethod yX2_init, .code yX2_init cX2_init 1 none, .methodLink RX2 3 objectInit, .fieldLink RX2 9 "FlatLottery$Household" "wishes" "[I"] ++ wsX60 ++ wsX00 ++ wsX20)
def wsX1_init_r1 : List Cond := [Cond.methodLink RX1 3 objectInit, Cond.instanceMethod objectInit, Cond.code objectInit ⟨#[0xb1]⟩ 1 none, Cond.classLink RX1 9 RX6, Cond.fieldLink RX1 11 "FlatLottery$History" "states" "[LFlatLottery$State;", Cond.instantiable RX6 8, Cond.initialized RX6, Cond.methodLink RX1 17 yX6_init, Cond.instanceMethod yX6_init, Cond.code yX6_init cX6_init 2 none, Cond.methodLink RX6 3 objectInit, Cond.classLink RX6 9 RX0, Cond.fieldLink RX6 11 "FlatLottery$State" "flats" "[LFlatLottery$Flat;", Cond.classLink RX6 17 RX2, Cond.fieldLink RX6 19 "FlatLottery$State" "households" "[LFlatLottery$Household;", Cond.arrayClass .int, Cond.fieldLink RX6 23 "FlatLottery$State" "order" "[I", Cond.instantiable RX0 2, Cond.initialized RX0, Cond.instantiable RX2 9, Cond.initialized RX2, Cond.instanceMethod yX0_init, Cond.code yX0_init cX0_init 1 none, Cond.methodLink RX0 1 objectInit]
def wsX1_init_r2 : List Cond := [Cond.instanceMethod yX2_init, Cond.code yX2_init cX2_init 1 none, Cond.methodLink RX2 3 objectInit, Cond.fieldLink RX2 9 "FlatLottery$Household" "wishes" "[I"]
def wsX1_init : List Cond := .code yX1_init cX1_init 2 none :: ((wsX1_init_r1 ++ wsX1_init_r2) ++ wsX10 ++ wsX60 ++ wsX00 ++ wsX20)
def wsX1_dropOldest : List Cond := .code yX1_dropOldest cX1_dropOldest 3 none :: ([.fieldLink RX1 11 "FlatLottery$History" "states" "[LFlatLottery$State;", .fieldLink RX1 18 "FlatLottery$History" "size" "I"] ++ wsX10)
def wsX2_copyFrom : List Cond := .code yX2_copyFrom cX2_copyFrom 3 none :: ([.fieldLink RX2 9 "FlatLottery$Household" "wishes" "[I", .fieldLink RX2 15 "FlatLottery$Household" "wishCount" "I", .fieldLink RX2 19 "FlatLottery$Household" "members" "I", .fieldLink RX2 22 "FlatLottery$Household" "income" "I", .fieldLink RX2 25 "FlatLottery$Household" "number" "I", .fieldLink RX2 28 "FlatLottery$Household" "points" "I", .fieldLink RX2 31 "FlatLottery$Household" "held" "I", .fieldLink RX2 34 "FlatLottery$Household" "appeals" "I", .fieldLink RX2 37 "FlatLottery$Household" "passedOver" "I"] ++ wsX20)
def wsX6_copyFrom_r1 : List Cond := [Cond.fieldLink RX6 29 "FlatLottery$State" "flatCount" "I", Cond.fieldLink RX6 11 "FlatLottery$State" "flats" "[LFlatLottery$Flat;", Cond.fieldLink RX6 37 "FlatLottery$State" "householdCount" "I", Cond.fieldLink RX6 19 "FlatLottery$State" "households" "[LFlatLottery$Household;", Cond.fieldLink RX6 43 "FlatLottery$State" "rounds" "I", Cond.fieldLink RX6 46 "FlatLottery$State" "refused" "I", Cond.fieldLink RX6 49 "FlatLottery$State" "declined" "I", Cond.methodLink RX6 33 yX0_copyFrom, Cond.instanceMethod yX0_copyFrom, Cond.selects RX0 yX0_copyFrom yX0_copyFrom, Cond.initialized RX0, Cond.code yX0_copyFrom cX0_copyFrom 2 none, Cond.fieldLink RX0 7 "FlatLottery$Flat" "rooms" "I", Cond.fieldLink RX0 13 "FlatLottery$Flat" "rent" "I", Cond.methodLink RX6 40 yX2_copyFrom, Cond.instanceMethod yX2_copyFrom, Cond.selects RX2 yX2_copyFrom yX2_copyFrom, Cond.initialized RX2, Cond.code yX2_copyFrom cX2_copyFrom 3 none, Cond.fieldLink RX2 9 "FlatLottery$Household" "wishes" "[I", Cond.fieldLink RX2 15 "FlatLottery$Household" "wishCount" "I", Cond.fieldLink RX2 19 "FlatLottery$Household" "members" "I", Cond.fieldLink RX2 22 "FlatLottery$Household" "income" "I", Cond.fieldLink RX2 25 "FlatLottery$Household" "number" "I"]
def wsX6_copyFrom_r2 : List Cond := [Cond.fieldLink RX2 28 "FlatLottery$Household" "points" "I", Cond.fieldLink RX2 31 "FlatLottery$Household" "held" "I", Cond.fieldLink RX2 34 "FlatLottery$Household" "appeals" "I", Cond.fieldLink RX2 37 "FlatLottery$Household" "passedOver" "I"]
def wsX6_copyFrom : List Cond := .code yX6_copyFrom cX6_copyFrom 3 none :: ((wsX6_copyFrom_r1 ++ wsX6_copyFrom_r2) ++ wsX60 ++ wsX00 ++ wsX20)
def wsX1_record_r1 : List Cond := [Cond.fieldLink RX1 18 "FlatLottery$History" "size" "I", Cond.fieldLink RX1 11 "FlatLottery$History" "states" "[LFlatLottery$State;", Cond.methodLink RX1 22 yX1_dropOldest, Cond.instanceMethod yX1_dropOldest, Cond.selects RX1 yX1_dropOldest yX1_dropOldest, Cond.initialized RX1, Cond.code yX1_dropOldest cX1_dropOldest 3 none, Cond.methodLink RX1 25 yX6_copyFrom, Cond.instanceMethod yX6_copyFrom, Cond.selects RX6 yX6_copyFrom yX6_copyFrom, Cond.initialized RX6, Cond.code yX6_copyFrom cX6_copyFrom 3 none, Cond.fieldLink RX6 29 "FlatLottery$State" "flatCount" "I", Cond.fieldLink RX6 11 "FlatLottery$State" "flats" "[LFlatLottery$Flat;", Cond.fieldLink RX6 37 "FlatLottery$State" "householdCount" "I", Cond.fieldLink RX6 19 "FlatLottery$State" "households" "[LFlatLottery$Household;", Cond.fieldLink RX6 43 "FlatLottery$State" "rounds" "I", Cond.fieldLink RX6 46 "FlatLottery$State" "refused" "I", Cond.fieldLink RX6 49 "FlatLottery$State" "declined" "I", Cond.methodLink RX6 33 yX0_copyFrom, Cond.instanceMethod yX0_copyFrom, Cond.selects RX0 yX0_copyFrom yX0_copyFrom, Cond.initialized RX0, Cond.code yX0_copyFrom cX0_copyFrom 2 none]
def wsX1_record_r2 : List Cond := [Cond.fieldLink RX0 7 "FlatLottery$Flat" "rooms" "I", Cond.fieldLink RX0 13 "FlatLottery$Flat" "rent" "I", Cond.methodLink RX6 40 yX2_copyFrom, Cond.instanceMethod yX2_copyFrom, Cond.selects RX2 yX2_copyFrom yX2_copyFrom, Cond.initialized RX2, Cond.code yX2_copyFrom cX2_copyFrom 3 none, Cond.fieldLink RX2 9 "FlatLottery$Household" "wishes" "[I", Cond.fieldLink RX2 15 "FlatLottery$Household" "wishCount" "I", Cond.fieldLink RX2 19 "FlatLottery$Household" "members" "I", Cond.fieldLink RX2 22 "FlatLottery$Household" "income" "I", Cond.fieldLink RX2 25 "FlatLottery$Household" "number" "I", Cond.fieldLink RX2 28 "FlatLottery$Household" "points" "I", Cond.fieldLink RX2 31 "FlatLottery$Household" "held" "I", Cond.fieldLink RX2 34 "FlatLottery$Household" "appeals" "I", Cond.fieldLink RX2 37 "FlatLottery$Household" "passedOver" "I"]
def wsX1_record : List Cond := .code yX1_record cX1_record 2 none :: ((wsX1_record_r1 ++ wsX1_record_r2) ++ wsX10 ++ wsX60 ++ wsX00 ++ wsX20)
def wsX1_takeBack_r1 : List Cond := [Cond.fieldLink RX1 18 "FlatLottery$History" "size" "I", Cond.fieldLink RX1 11 "FlatLottery$History" "states" "[LFlatLottery$State;", Cond.methodLink RX1 25 yX6_copyFrom, Cond.instanceMethod yX6_copyFrom, Cond.selects RX6 yX6_copyFrom yX6_copyFrom, Cond.initialized RX6, Cond.code yX6_copyFrom cX6_copyFrom 3 none, Cond.fieldLink RX6 29 "FlatLottery$State" "flatCount" "I", Cond.fieldLink RX6 11 "FlatLottery$State" "flats" "[LFlatLottery$Flat;", Cond.fieldLink RX6 37 "FlatLottery$State" "householdCount" "I", Cond.fieldLink RX6 19 "FlatLottery$State" "households" "[LFlatLottery$Household;", Cond.fieldLink RX6 43 "FlatLottery$State" "rounds" "I", Cond.fieldLink RX6 46 "FlatLottery$State" "refused" "I", Cond.fieldLink RX6 49 "FlatLottery$State" "declined" "I", Cond.methodLink RX6 33 yX0_copyFrom, Cond.instanceMethod yX0_copyFrom, Cond.selects RX0 yX0_copyFrom yX0_copyFrom, Cond.initialized RX0, Cond.code yX0_copyFrom cX0_copyFrom 2 none, Cond.fieldLink RX0 7 "FlatLottery$Flat" "rooms" "I", Cond.fieldLink RX0 13 "FlatLottery$Flat" "rent" "I", Cond.methodLink RX6 40 yX2_copyFrom, Cond.instanceMethod yX2_copyFrom, Cond.selects RX2 yX2_copyFrom yX2_copyFrom]
def wsX1_takeBack_r2 : List Cond := [Cond.initialized RX2, Cond.code yX2_copyFrom cX2_copyFrom 3 none, Cond.fieldLink RX2 9 "FlatLottery$Household" "wishes" "[I", Cond.fieldLink RX2 15 "FlatLottery$Household" "wishCount" "I", Cond.fieldLink RX2 19 "FlatLottery$Household" "members" "I", Cond.fieldLink RX2 22 "FlatLottery$Household" "income" "I", Cond.fieldLink RX2 25 "FlatLottery$Household" "number" "I", Cond.fieldLink RX2 28 "FlatLottery$Household" "points" "I", Cond.fieldLink RX2 31 "FlatLottery$Household" "held" "I", Cond.fieldLink RX2 34 "FlatLottery$Household" "appeals" "I", Cond.fieldLink RX2 37 "FlatLottery$Household" "passedOver" "I"]
def wsX1_takeBack : List Cond := .code yX1_takeBack cX1_takeBack 2 none :: ((wsX1_takeBack_r1 ++ wsX1_takeBack_r2) ++ wsX10 ++ wsX60 ++ wsX00 ++ wsX20)
def wsX2_begin : List Cond := .code yX2_begin cX2_begin 3 none :: ([.fieldLink RX2 15 "FlatLottery$Household" "wishCount" "I", .fieldLink RX2 19 "FlatLottery$Household" "members" "I", .fieldLink RX2 22 "FlatLottery$Household" "income" "I", .fieldLink RX2 25 "FlatLottery$Household" "number" "I", .fieldLink RX2 28 "FlatLottery$Household" "points" "I", .fieldLink RX2 31 "FlatLottery$Household" "held" "I", .fieldLink RX2 34 "FlatLottery$Household" "appeals" "I", .fieldLink RX2 37 "FlatLottery$Household" "passedOver" "I"] ++ wsX20)
def wsX2_placeOf : List Cond := .code yX2_placeOf cX2_placeOf 3 (some .int) :: ([.fieldLink RX2 15 "FlatLottery$Household" "wishCount" "I", .fieldLink RX2 9 "FlatLottery$Household" "wishes" "[I"] ++ wsX20)
def wsX2_addWish : List Cond := .code yX2_addWish cX2_addWish 2 none :: ([.fieldLink RX2 15 "FlatLottery$Household" "wishCount" "I", .fieldLink RX2 9 "FlatLottery$Household" "wishes" "[I"] ++ wsX20)
def wsX2_removeWish : List Cond := .code yX2_removeWish cX2_removeWish 4 none :: ([.fieldLink RX2 15 "FlatLottery$Household" "wishCount" "I", .fieldLink RX2 9 "FlatLottery$Household" "wishes" "[I", .methodLink RX2 40 yX2_placeOf, .instanceMethod yX2_placeOf, .selects RX2 yX2_placeOf yX2_placeOf, .initialized RX2, .code yX2_placeOf cX2_placeOf 3 (some .int)] ++ wsX20)
def wsX2_wishesMoreThanItsOwn : List Cond := .code yX2_wishesMoreThanItsOwn cX2_wishesMoreThanItsOwn 4 (some .boolean) :: ([.fieldLink RX2 31 "FlatLottery$Household" "held" "I", .methodLink RX2 40 yX2_placeOf, .instanceMethod yX2_placeOf, .selects RX2 yX2_placeOf yX2_placeOf, .initialized RX2, .code yX2_placeOf cX2_placeOf 3 (some .int), .fieldLink RX2 15 "FlatLottery$Household" "wishCount" "I", .fieldLink RX2 9 "FlatLottery$Household" "wishes" "[I"] ++ wsX20)
def wsX2_isEligibleFor : List Cond := .code yX2_isEligibleFor cX2_isEligibleFor 2 (some .boolean) :: ([.fieldLink RX2 19 "FlatLottery$Household" "members" "I", .fieldLink RX2 44 "FlatLottery$Flat" "rooms" "I", .fieldLink RX2 49 "FlatLottery$Flat" "rent" "I", .fieldLink RX2 22 "FlatLottery$Household" "income" "I"] ++ wsX20 ++ wsX00)
def wsX2_standsAheadOf : List Cond := .code yX2_standsAheadOf cX2_standsAheadOf 2 (some .boolean) :: ([.fieldLink RX2 25 "FlatLottery$Household" "number" "I", .fieldLink RX2 28 "FlatLottery$Household" "points" "I"] ++ wsX20)
def wsX3_init : List Cond := .code yX3_init cX3_init 1 none :: ([.methodLink RX3 3 objectInit, .instanceMethod objectInit, .code objectInit ⟨#[0xb1]⟩ 1 none, .arrayClass .char, .fieldLink RX3 9 "FlatLottery$ListText" "characters" "[C", .arrayClass .int, .fieldLink RX3 15 "FlatLottery$ListText" "listHousehold" "[I", .fieldLink RX3 19 "FlatLottery$ListText" "listSize" "[I", .fieldLink RX3 22 "FlatLottery$ListText" "listFlats" "[I"] ++ wsX30)
def wsX3_append : List Cond := .code yX3_append cX3_append 2 (some .boolean) :: ([.fieldLink RX3 25 "FlatLottery$ListText" "length" "I", .fieldLink RX3 9 "FlatLottery$ListText" "characters" "[C"] ++ wsX30)
def wsX3_atHand : List Cond := .code yX3_atHand cX3_atHand 1 (some .int) :: ([.fieldLink RX3 29 "FlatLottery$ListText" "at" "I", .fieldLink RX3 25 "FlatLottery$ListText" "length" "I", .fieldLink RX3 9 "FlatLottery$ListText" "characters" "[C"] ++ wsX30)
def wsX3_digitAtHand : List Cond := .code yX3_digitAtHand cX3_digitAtHand 2 (some .int) :: ([.methodLink RX3 39 yX3_atHand, .instanceMethod yX3_atHand, .selects RX3 yX3_atHand yX3_atHand, .initialized RX3, .code yX3_atHand cX3_atHand 1 (some .int), .fieldLink RX3 29 "FlatLottery$ListText" "at" "I", .fieldLink RX3 25 "FlatLottery$ListText" "length" "I", .fieldLink RX3 9 "FlatLottery$ListText" "characters" "[C"] ++ wsX30)
def wsX3_readNumber : List Cond := .code yX3_readNumber cX3_readNumber 3 (some .int) :: ([.fieldLink RX3 29 "FlatLottery$ListText" "at" "I", .methodLink RX3 46 yX3_digitAtHand, .instanceMethod yX3_digitAtHand, .selects RX3 yX3_digitAtHand yX3_digitAtHand, .initialized RX3, .code yX3_digitAtHand cX3_digitAtHand 2 (some .int), .methodLink RX3 39 yX3_atHand, .instanceMethod yX3_atHand, .selects RX3 yX3_atHand yX3_atHand, .code yX3_atHand cX3_atHand 1 (some .int), .fieldLink RX3 25 "FlatLottery$ListText" "length" "I", .fieldLink RX3 9 "FlatLottery$ListText" "characters" "[C"] ++ wsX30)
def wsX3_readList : List Cond := .code yX3_readList cX3_readList 4 (some .boolean) :: ([.fieldLink RX3 29 "FlatLottery$ListText" "at" "I", .fieldLink RX3 15 "FlatLottery$ListText" "listHousehold" "[I", .fieldLink RX3 32 "FlatLottery$ListText" "listCount" "I", .fieldLink RX3 22 "FlatLottery$ListText" "listFlats" "[I", .fieldLink RX3 19 "FlatLottery$ListText" "listSize" "[I", .methodLink RX3 43 yX3_readNumber, .instanceMethod yX3_readNumber, .selects RX3 yX3_readNumber yX3_readNumber, .initialized RX3, .code yX3_readNumber cX3_readNumber 3 (some .int), .methodLink RX3 46 yX3_digitAtHand, .instanceMethod yX3_digitAtHand, .selects RX3 yX3_digitAtHand yX3_digitAtHand, .code yX3_digitAtHand cX3_digitAtHand 2 (some .int), .methodLink RX3 39 yX3_atHand, .instanceMethod yX3_atHand, .selects RX3 yX3_atHand yX3_atHand, .code yX3_atHand cX3_atHand 1 (some .int), .fieldLink RX3 25 "FlatLottery$ListText" "length" "I", .fieldLink RX3 9 "FlatLottery$ListText" "characters" "[C"] ++ wsX30)
def wsX3_findFault : List Cond := .code yX3_findFault cX3_findFault 1 (some .int) :: ([.fieldLink RX3 29 "FlatLottery$ListText" "at" "I", .fieldLink RX3 32 "FlatLottery$ListText" "listCount" "I", .methodLink RX3 35 yX3_readList, .instanceMethod yX3_readList, .selects RX3 yX3_readList yX3_readList, .initialized RX3, .code yX3_readList cX3_readList 4 (some .boolean), .fieldLink RX3 15 "FlatLottery$ListText" "listHousehold" "[I", .fieldLink RX3 22 "FlatLottery$ListText" "listFlats" "[I", .fieldLink RX3 19 "FlatLottery$ListText" "listSize" "[I", .methodLink RX3 43 yX3_readNumber, .instanceMethod yX3_readNumber, .selects RX3 yX3_readNumber yX3_readNumber, .code yX3_readNumber cX3_readNumber 3 (some .int), .methodLink RX3 46 yX3_digitAtHand, .instanceMethod yX3_digitAtHand, .selects RX3 yX3_digitAtHand yX3_digitAtHand, .code yX3_digitAtHand cX3_digitAtHand 2 (some .int), .methodLink RX3 39 yX3_atHand, .instanceMethod yX3_atHand, .selects RX3 yX3_atHand yX3_atHand, .code yX3_atHand cX3_atHand 1 (some .int), .fieldLink RX3 25 "FlatLottery$ListText" "length" "I", .fieldLink RX3 9 "FlatLottery$ListText" "characters" "[C"] ++ wsX30)
def wsX6_hasHousehold : List Cond := .code yX6_hasHousehold cX6_hasHousehold 2 (some .boolean) :: ([.fieldLink RX6 37 "FlatLottery$State" "householdCount" "I"] ++ wsX60)
def wsX6_hasFlat : List Cond := .code yX6_hasFlat cX6_hasFlat 2 (some .boolean) :: ([.fieldLink RX6 29 "FlatLottery$State" "flatCount" "I"] ++ wsX60)
def wsX3_namesOnlyKnown : List Cond := .code yX3_namesOnlyKnown cX3_namesOnlyKnown 4 (some .boolean) :: ([.fieldLink RX3 32 "FlatLottery$ListText" "listCount" "I", .fieldLink RX3 15 "FlatLottery$ListText" "listHousehold" "[I", .fieldLink RX3 19 "FlatLottery$ListText" "listSize" "[I", .fieldLink RX3 22 "FlatLottery$ListText" "listFlats" "[I", .methodLink RX3 49 yX6_hasHousehold, .instanceMethod yX6_hasHousehold, .selects RX6 yX6_hasHousehold yX6_hasHousehold, .initialized RX6, .code yX6_hasHousehold cX6_hasHousehold 2 (some .boolean), .fieldLink RX6 37 "FlatLottery$State" "householdCount" "I", .methodLink RX3 55 yX6_hasFlat, .instanceMethod yX6_hasFlat, .selects RX6 yX6_hasFlat yX6_hasFlat, .code yX6_hasFlat cX6_hasFlat 2 (some .boolean), .fieldLink RX6 29 "FlatLottery$State" "flatCount" "I"] ++ wsX30 ++ wsX60)
def wsX3_hasFlatTwiceInList : List Cond := .code yX3_hasFlatTwiceInList cX3_hasFlatTwiceInList 5 (some .boolean) :: ([.fieldLink RX3 32 "FlatLottery$ListText" "listCount" "I", .fieldLink RX3 19 "FlatLottery$ListText" "listSize" "[I", .fieldLink RX3 22 "FlatLottery$ListText" "listFlats" "[I"] ++ wsX30)
def wsX3_layLists : List Cond := .code yX3_layLists cX3_layLists 6 none :: ([.fieldLink RX3 32 "FlatLottery$ListText" "listCount" "I", .fieldLink RX3 15 "FlatLottery$ListText" "listHousehold" "[I", .fieldLink RX3 58 "FlatLottery$State" "households" "[LFlatLottery$Household;", .fieldLink RX3 62 "FlatLottery$Household" "wishCount" "I", .fieldLink RX3 19 "FlatLottery$ListText" "listSize" "[I", .fieldLink RX3 22 "FlatLottery$ListText" "listFlats" "[I", .methodLink RX3 49 yX6_hasHousehold, .instanceMethod yX6_hasHousehold, .selects RX6 yX6_hasHousehold yX6_hasHousehold, .initialized RX6, .code yX6_hasHousehold cX6_hasHousehold 2 (some .boolean), .fieldLink RX6 37 "FlatLottery$State" "householdCount" "I", .methodLink RX3 67 yX2_addWish, .instanceMethod yX2_addWish, .selects RX2 yX2_addWish yX2_addWish, .initialized RX2, .code yX2_addWish cX2_addWish 2 none, .fieldLink RX2 15 "FlatLottery$Household" "wishCount" "I", .fieldLink RX2 9 "FlatLottery$Household" "wishes" "[I"] ++ wsX30 ++ wsX60 ++ wsX20)
def wsX4_init : List Cond := .code yX4_init cX4_init 1 none :: ([.methodLink RX4 3 objectInit, .instanceMethod objectInit, .code objectInit ⟨#[0xb1]⟩ 1 none, .arrayClass .int, .fieldLink RX4 9 "FlatLottery$Matching" "flatOf" "[I", .fieldLink RX4 15 "FlatLottery$Matching" "takenBy" "[I", .fieldLink RX4 18 "FlatLottery$Matching" "askedBy" "[I", .fieldLink RX4 21 "FlatLottery$Matching" "waiting" "[I"] ++ wsX40)
def wsX6_isEligible : List Cond := .code yX6_isEligible cX6_isEligible 3 (some .boolean) :: ([.fieldLink RX6 11 "FlatLottery$State" "flats" "[LFlatLottery$Flat;", .methodLink RX6 66 yX6_hasFlat, .instanceMethod yX6_hasFlat, .selects RX6 yX6_hasFlat yX6_hasFlat, .initialized RX6, .code yX6_hasFlat cX6_hasFlat 2 (some .boolean), .fieldLink RX6 29 "FlatLottery$State" "flatCount" "I", .methodLink RX6 70 yX2_isEligibleFor, .instanceMethod yX2_isEligibleFor, .selects RX2 yX2_isEligibleFor yX2_isEligibleFor, .initialized RX2, .code yX2_isEligibleFor cX2_isEligibleFor 2 (some .boolean), .fieldLink RX2 19 "FlatLottery$Household" "members" "I", .fieldLink RX2 44 "FlatLottery$Flat" "rooms" "I", .fieldLink RX2 49 "FlatLottery$Flat" "rent" "I", .fieldLink RX2 22 "FlatLottery$Household" "income" "I"] ++ wsX60 ++ wsX20 ++ wsX00)
def wsX4_handOn : List Cond := .code yX4_handOn cX4_handOn 6 none :: ([.fieldLink RX4 18 "FlatLottery$Matching" "askedBy" "[I", .fieldLink RX4 9 "FlatLottery$Matching" "flatOf" "[I", .fieldLink RX4 15 "FlatLottery$Matching" "takenBy" "[I"] ++ wsX40)
def wsX4_canHouse_r1 : List Cond := [Cond.fieldLink RX4 18 "FlatLottery$Matching" "askedBy" "[I", Cond.fieldLink RX4 21 "FlatLottery$Matching" "waiting" "[I", Cond.fieldLink RX4 34 "FlatLottery$State" "households" "[LFlatLottery$Household;", Cond.fieldLink RX4 38 "FlatLottery$Household" "wishCount" "I", Cond.fieldLink RX4 43 "FlatLottery$Household" "wishes" "[I", Cond.fieldLink RX4 15 "FlatLottery$Matching" "takenBy" "[I", Cond.methodLink RX4 46 yX6_isEligible, Cond.instanceMethod yX6_isEligible, Cond.selects RX6 yX6_isEligible yX6_isEligible, Cond.initialized RX6, Cond.code yX6_isEligible cX6_isEligible 3 (some .boolean), Cond.fieldLink RX6 11 "FlatLottery$State" "flats" "[LFlatLottery$Flat;", Cond.methodLink RX6 66 yX6_hasFlat, Cond.instanceMethod yX6_hasFlat, Cond.selects RX6 yX6_hasFlat yX6_hasFlat, Cond.code yX6_hasFlat cX6_hasFlat 2 (some .boolean), Cond.fieldLink RX6 29 "FlatLottery$State" "flatCount" "I", Cond.methodLink RX6 70 yX2_isEligibleFor, Cond.instanceMethod yX2_isEligibleFor, Cond.selects RX2 yX2_isEligibleFor yX2_isEligibleFor, Cond.initialized RX2, Cond.code yX2_isEligibleFor cX2_isEligibleFor 2 (some .boolean), Cond.fieldLink RX2 19 "FlatLottery$Household" "members" "I", Cond.fieldLink RX2 44 "FlatLottery$Flat" "rooms" "I"]
def wsX4_canHouse_r2 : List Cond := [Cond.fieldLink RX2 49 "FlatLottery$Flat" "rent" "I", Cond.fieldLink RX2 22 "FlatLottery$Household" "income" "I", Cond.methodLink RX4 50 yX4_handOn, Cond.instanceMethod yX4_handOn, Cond.selects RX4 yX4_handOn yX4_handOn, Cond.initialized RX4, Cond.code yX4_handOn cX4_handOn 6 none, Cond.fieldLink RX4 9 "FlatLottery$Matching" "flatOf" "[I"]
def wsX4_canHouse : List Cond := .code yX4_canHouse cX4_canHouse 9 (some .boolean) :: ((wsX4_canHouse_r1 ++ wsX4_canHouse_r2) ++ wsX40 ++ wsX60 ++ wsX20 ++ wsX00)
def wsX4_greatest_r1 : List Cond := [Cond.fieldLink RX4 9 "FlatLottery$Matching" "flatOf" "[I", Cond.fieldLink RX4 15 "FlatLottery$Matching" "takenBy" "[I", Cond.fieldLink RX4 24 "FlatLottery$State" "householdCount" "I", Cond.methodLink RX4 30 yX4_canHouse, Cond.instanceMethod yX4_canHouse, Cond.selects RX4 yX4_canHouse yX4_canHouse, Cond.initialized RX4, Cond.code yX4_canHouse cX4_canHouse 9 (some .boolean), Cond.fieldLink RX4 18 "FlatLottery$Matching" "askedBy" "[I", Cond.fieldLink RX4 21 "FlatLottery$Matching" "waiting" "[I", Cond.fieldLink RX4 34 "FlatLottery$State" "households" "[LFlatLottery$Household;", Cond.fieldLink RX4 38 "FlatLottery$Household" "wishCount" "I", Cond.fieldLink RX4 43 "FlatLottery$Household" "wishes" "[I", Cond.methodLink RX4 46 yX6_isEligible, Cond.instanceMethod yX6_isEligible, Cond.selects RX6 yX6_isEligible yX6_isEligible, Cond.initialized RX6, Cond.code yX6_isEligible cX6_isEligible 3 (some .boolean), Cond.fieldLink RX6 11 "FlatLottery$State" "flats" "[LFlatLottery$Flat;", Cond.methodLink RX6 66 yX6_hasFlat, Cond.instanceMethod yX6_hasFlat, Cond.selects RX6 yX6_hasFlat yX6_hasFlat, Cond.code yX6_hasFlat cX6_hasFlat 2 (some .boolean), Cond.fieldLink RX6 29 "FlatLottery$State" "flatCount" "I"]
def wsX4_greatest_r2 : List Cond := [Cond.methodLink RX6 70 yX2_isEligibleFor, Cond.instanceMethod yX2_isEligibleFor, Cond.selects RX2 yX2_isEligibleFor yX2_isEligibleFor, Cond.initialized RX2, Cond.code yX2_isEligibleFor cX2_isEligibleFor 2 (some .boolean), Cond.fieldLink RX2 19 "FlatLottery$Household" "members" "I", Cond.fieldLink RX2 44 "FlatLottery$Flat" "rooms" "I", Cond.fieldLink RX2 49 "FlatLottery$Flat" "rent" "I", Cond.fieldLink RX2 22 "FlatLottery$Household" "income" "I", Cond.methodLink RX4 50 yX4_handOn, Cond.instanceMethod yX4_handOn, Cond.selects RX4 yX4_handOn yX4_handOn, Cond.code yX4_handOn cX4_handOn 6 none]
def wsX4_greatest : List Cond := .code yX4_greatest cX4_greatest 4 (some .int) :: ((wsX4_greatest_r1 ++ wsX4_greatest_r2) ++ wsX40 ++ wsX60 ++ wsX20 ++ wsX00)
def wsX5_init : List Cond := .code yX5_init cX5_init 1 none :: ([.methodLink RX5 3 objectInit, .instanceMethod objectInit, .code objectInit ⟨#[0xb1]⟩ 1 none, .arrayClass .int, .fieldLink RX5 9 "FlatLottery$Rings" "pointed" "[I"] ++ wsX50)
def wsX6_holderOf : List Cond := .code yX6_holderOf cX6_holderOf 3 (some .int) :: ([.fieldLink RX6 37 "FlatLottery$State" "householdCount" "I", .fieldLink RX6 19 "FlatLottery$State" "households" "[LFlatLottery$Household;", .fieldLink RX6 52 "FlatLottery$Household" "held" "I"] ++ wsX60 ++ wsX20)
def wsX6_pointsTo_r1 : List Cond := [Cond.fieldLink RX6 52 "FlatLottery$Household" "held" "I", Cond.fieldLink RX6 99 "FlatLottery$Household" "wishCount" "I", Cond.fieldLink RX6 102 "FlatLottery$Household" "wishes" "[I", Cond.methodLink RX6 124 yX2_wishesMoreThanItsOwn, Cond.instanceMethod yX2_wishesMoreThanItsOwn, Cond.selects RX2 yX2_wishesMoreThanItsOwn yX2_wishesMoreThanItsOwn, Cond.initialized RX2, Cond.code yX2_wishesMoreThanItsOwn cX2_wishesMoreThanItsOwn 4 (some .boolean), Cond.fieldLink RX2 31 "FlatLottery$Household" "held" "I", Cond.methodLink RX2 40 yX2_placeOf, Cond.instanceMethod yX2_placeOf, Cond.selects RX2 yX2_placeOf yX2_placeOf, Cond.code yX2_placeOf cX2_placeOf 3 (some .int), Cond.fieldLink RX2 15 "FlatLottery$Household" "wishCount" "I", Cond.fieldLink RX2 9 "FlatLottery$Household" "wishes" "[I", Cond.methodLink RX6 127 yX6_holderOf, Cond.instanceMethod yX6_holderOf, Cond.selects RX6 yX6_holderOf yX6_holderOf, Cond.initialized RX6, Cond.code yX6_holderOf cX6_holderOf 3 (some .int), Cond.fieldLink RX6 37 "FlatLottery$State" "householdCount" "I", Cond.fieldLink RX6 19 "FlatLottery$State" "households" "[LFlatLottery$Household;", Cond.methodLink RX6 62 yX6_isEligible, Cond.instanceMethod yX6_isEligible]
def wsX6_pointsTo_r2 : List Cond := [Cond.selects RX6 yX6_isEligible yX6_isEligible, Cond.code yX6_isEligible cX6_isEligible 3 (some .boolean), Cond.fieldLink RX6 11 "FlatLottery$State" "flats" "[LFlatLottery$Flat;", Cond.methodLink RX6 66 yX6_hasFlat, Cond.instanceMethod yX6_hasFlat, Cond.selects RX6 yX6_hasFlat yX6_hasFlat, Cond.code yX6_hasFlat cX6_hasFlat 2 (some .boolean), Cond.fieldLink RX6 29 "FlatLottery$State" "flatCount" "I", Cond.methodLink RX6 70 yX2_isEligibleFor, Cond.instanceMethod yX2_isEligibleFor, Cond.selects RX2 yX2_isEligibleFor yX2_isEligibleFor, Cond.code yX2_isEligibleFor cX2_isEligibleFor 2 (some .boolean), Cond.fieldLink RX2 19 "FlatLottery$Household" "members" "I", Cond.fieldLink RX2 44 "FlatLottery$Flat" "rooms" "I", Cond.fieldLink RX2 49 "FlatLottery$Flat" "rent" "I", Cond.fieldLink RX2 22 "FlatLottery$Household" "income" "I"]
def wsX6_pointsTo : List Cond := .code yX6_pointsTo cX6_pointsTo 5 (some .int) :: ((wsX6_pointsTo_r1 ++ wsX6_pointsTo_r2) ++ wsX20 ++ wsX60 ++ wsX00)
def wsX5_lookAt_r1 : List Cond := [Cond.fieldLink RX5 15 "FlatLottery$State" "householdCount" "I", Cond.fieldLink RX5 21 "FlatLottery$Rings" "size" "I", Cond.fieldLink RX5 9 "FlatLottery$Rings" "pointed" "[I", Cond.fieldLink RX5 24 "FlatLottery$State" "households" "[LFlatLottery$Household;", Cond.methodLink RX5 28 yX6_pointsTo, Cond.instanceMethod yX6_pointsTo, Cond.selects RX6 yX6_pointsTo yX6_pointsTo, Cond.initialized RX6, Cond.code yX6_pointsTo cX6_pointsTo 5 (some .int), Cond.fieldLink RX6 52 "FlatLottery$Household" "held" "I", Cond.fieldLink RX6 99 "FlatLottery$Household" "wishCount" "I", Cond.fieldLink RX6 102 "FlatLottery$Household" "wishes" "[I", Cond.methodLink RX6 124 yX2_wishesMoreThanItsOwn, Cond.instanceMethod yX2_wishesMoreThanItsOwn, Cond.selects RX2 yX2_wishesMoreThanItsOwn yX2_wishesMoreThanItsOwn, Cond.initialized RX2, Cond.code yX2_wishesMoreThanItsOwn cX2_wishesMoreThanItsOwn 4 (some .boolean), Cond.fieldLink RX2 31 "FlatLottery$Household" "held" "I", Cond.methodLink RX2 40 yX2_placeOf, Cond.instanceMethod yX2_placeOf, Cond.selects RX2 yX2_placeOf yX2_placeOf, Cond.code yX2_placeOf cX2_placeOf 3 (some .int), Cond.fieldLink RX2 15 "FlatLottery$Household" "wishCount" "I", Cond.fieldLink RX2 9 "FlatLottery$Household" "wishes" "[I"]
def wsX5_lookAt_r2 : List Cond := [Cond.methodLink RX6 127 yX6_holderOf, Cond.instanceMethod yX6_holderOf, Cond.selects RX6 yX6_holderOf yX6_holderOf, Cond.code yX6_holderOf cX6_holderOf 3 (some .int), Cond.fieldLink RX6 37 "FlatLottery$State" "householdCount" "I", Cond.fieldLink RX6 19 "FlatLottery$State" "households" "[LFlatLottery$Household;", Cond.methodLink RX6 62 yX6_isEligible, Cond.instanceMethod yX6_isEligible, Cond.selects RX6 yX6_isEligible yX6_isEligible, Cond.code yX6_isEligible cX6_isEligible 3 (some .boolean), Cond.fieldLink RX6 11 "FlatLottery$State" "flats" "[LFlatLottery$Flat;", Cond.methodLink RX6 66 yX6_hasFlat, Cond.instanceMethod yX6_hasFlat, Cond.selects RX6 yX6_hasFlat yX6_hasFlat, Cond.code yX6_hasFlat cX6_hasFlat 2 (some .boolean), Cond.fieldLink RX6 29 "FlatLottery$State" "flatCount" "I", Cond.methodLink RX6 70 yX2_isEligibleFor, Cond.instanceMethod yX2_isEligibleFor, Cond.selects RX2 yX2_isEligibleFor yX2_isEligibleFor, Cond.code yX2_isEligibleFor cX2_isEligibleFor 2 (some .boolean), Cond.fieldLink RX2 19 "FlatLottery$Household" "members" "I", Cond.fieldLink RX2 44 "FlatLottery$Flat" "rooms" "I", Cond.fieldLink RX2 49 "FlatLottery$Flat" "rent" "I", Cond.fieldLink RX2 22 "FlatLottery$Household" "income" "I"]
def wsX5_lookAt : List Cond := .code yX5_lookAt cX5_lookAt 3 none :: ((wsX5_lookAt_r1 ++ wsX5_lookAt_r2) ++ wsX60 ++ wsX50 ++ wsX20 ++ wsX00)
def wsX5_after : List Cond := .code yX5_after cX5_after 2 (some .int) :: ([.fieldLink RX5 21 "FlatLottery$Rings" "size" "I", .fieldLink RX5 9 "FlatLottery$Rings" "pointed" "[I"] ++ wsX50)
def wsX5_isInRing : List Cond := .code yX5_isInRing cX5_isInRing 4 (some .boolean) :: ([.fieldLink RX5 21 "FlatLottery$Rings" "size" "I", .methodLink RX5 32 yX5_after, .instanceMethod yX5_after, .selects RX5 yX5_after yX5_after, .initialized RX5, .code yX5_after cX5_after 2 (some .int), .fieldLink RX5 9 "FlatLottery$Rings" "pointed" "[I"] ++ wsX50)
def wsX5_countHouseholds : List Cond := .code yX5_countHouseholds cX5_countHouseholds 3 (some .int) :: ([.fieldLink RX5 21 "FlatLottery$Rings" "size" "I", .methodLink RX5 36 yX5_isInRing, .instanceMethod yX5_isInRing, .selects RX5 yX5_isInRing yX5_isInRing, .initialized RX5, .code yX5_isInRing cX5_isInRing 4 (some .boolean), .methodLink RX5 32 yX5_after, .instanceMethod yX5_after, .selects RX5 yX5_after yX5_after, .code yX5_after cX5_after 2 (some .int), .fieldLink RX5 9 "FlatLottery$Rings" "pointed" "[I"] ++ wsX50)
def wsX5_lowestHousehold : List Cond := .code yX5_lowestHousehold cX5_lowestHousehold 2 (some .int) :: ([.fieldLink RX5 21 "FlatLottery$Rings" "size" "I", .methodLink RX5 36 yX5_isInRing, .instanceMethod yX5_isInRing, .selects RX5 yX5_isInRing yX5_isInRing, .initialized RX5, .code yX5_isInRing cX5_isInRing 4 (some .boolean), .methodLink RX5 32 yX5_after, .instanceMethod yX5_after, .selects RX5 yX5_after yX5_after, .code yX5_after cX5_after 2 (some .int), .fieldLink RX5 9 "FlatLottery$Rings" "pointed" "[I"] ++ wsX50)
def wsX5_swapRingOf : List Cond := .code yX5_swapRingOf cX5_swapRingOf 7 (some .int) :: ([.fieldLink RX5 24 "FlatLottery$State" "households" "[LFlatLottery$Household;", .fieldLink RX5 52 "FlatLottery$Household" "held" "I", .fieldLink RX5 21 "FlatLottery$Rings" "size" "I", .methodLink RX5 32 yX5_after, .instanceMethod yX5_after, .selects RX5 yX5_after yX5_after, .initialized RX5, .code yX5_after cX5_after 2 (some .int), .fieldLink RX5 9 "FlatLottery$Rings" "pointed" "[I"] ++ wsX60 ++ wsX20 ++ wsX50)
def wsX5_swapAll_r1 : List Cond := [Cond.methodLink RX5 40 yX5_lookAt, Cond.instanceMethod yX5_lookAt, Cond.selects RX5 yX5_lookAt yX5_lookAt, Cond.initialized RX5, Cond.code yX5_lookAt cX5_lookAt 3 none, Cond.fieldLink RX5 15 "FlatLottery$State" "householdCount" "I", Cond.fieldLink RX5 21 "FlatLottery$Rings" "size" "I", Cond.fieldLink RX5 9 "FlatLottery$Rings" "pointed" "[I", Cond.fieldLink RX5 24 "FlatLottery$State" "households" "[LFlatLottery$Household;", Cond.methodLink RX5 28 yX6_pointsTo, Cond.instanceMethod yX6_pointsTo, Cond.selects RX6 yX6_pointsTo yX6_pointsTo, Cond.initialized RX6, Cond.code yX6_pointsTo cX6_pointsTo 5 (some .int), Cond.fieldLink RX6 52 "FlatLottery$Household" "held" "I", Cond.fieldLink RX6 99 "FlatLottery$Household" "wishCount" "I", Cond.fieldLink RX6 102 "FlatLottery$Household" "wishes" "[I", Cond.methodLink RX6 124 yX2_wishesMoreThanItsOwn, Cond.instanceMethod yX2_wishesMoreThanItsOwn, Cond.selects RX2 yX2_wishesMoreThanItsOwn yX2_wishesMoreThanItsOwn, Cond.initialized RX2, Cond.code yX2_wishesMoreThanItsOwn cX2_wishesMoreThanItsOwn 4 (some .boolean), Cond.fieldLink RX2 31 "FlatLottery$Household" "held" "I", Cond.methodLink RX2 40 yX2_placeOf]
def wsX5_swapAll_r2 : List Cond := [Cond.instanceMethod yX2_placeOf, Cond.selects RX2 yX2_placeOf yX2_placeOf, Cond.code yX2_placeOf cX2_placeOf 3 (some .int), Cond.fieldLink RX2 15 "FlatLottery$Household" "wishCount" "I", Cond.fieldLink RX2 9 "FlatLottery$Household" "wishes" "[I", Cond.methodLink RX6 127 yX6_holderOf, Cond.instanceMethod yX6_holderOf, Cond.selects RX6 yX6_holderOf yX6_holderOf, Cond.code yX6_holderOf cX6_holderOf 3 (some .int), Cond.fieldLink RX6 37 "FlatLottery$State" "householdCount" "I", Cond.fieldLink RX6 19 "FlatLottery$State" "households" "[LFlatLottery$Household;", Cond.methodLink RX6 62 yX6_isEligible, Cond.instanceMethod yX6_isEligible, Cond.selects RX6 yX6_isEligible yX6_isEligible, Cond.code yX6_isEligible cX6_isEligible 3 (some .boolean), Cond.fieldLink RX6 11 "FlatLottery$State" "flats" "[LFlatLottery$Flat;", Cond.methodLink RX6 66 yX6_hasFlat, Cond.instanceMethod yX6_hasFlat, Cond.selects RX6 yX6_hasFlat yX6_hasFlat, Cond.code yX6_hasFlat cX6_hasFlat 2 (some .boolean), Cond.fieldLink RX6 29 "FlatLottery$State" "flatCount" "I", Cond.methodLink RX6 70 yX2_isEligibleFor, Cond.instanceMethod yX2_isEligibleFor, Cond.selects RX2 yX2_isEligibleFor yX2_isEligibleFor]
def wsX5_swapAll_r3 : List Cond := [Cond.code yX2_isEligibleFor cX2_isEligibleFor 2 (some .boolean), Cond.fieldLink RX2 19 "FlatLottery$Household" "members" "I", Cond.fieldLink RX2 44 "FlatLottery$Flat" "rooms" "I", Cond.fieldLink RX2 49 "FlatLottery$Flat" "rent" "I", Cond.fieldLink RX2 22 "FlatLottery$Household" "income" "I", Cond.methodLink RX5 44 yX5_lowestHousehold, Cond.instanceMethod yX5_lowestHousehold, Cond.selects RX5 yX5_lowestHousehold yX5_lowestHousehold, Cond.code yX5_lowestHousehold cX5_lowestHousehold 2 (some .int), Cond.methodLink RX5 36 yX5_isInRing, Cond.instanceMethod yX5_isInRing, Cond.selects RX5 yX5_isInRing yX5_isInRing, Cond.code yX5_isInRing cX5_isInRing 4 (some .boolean), Cond.methodLink RX5 32 yX5_after, Cond.instanceMethod yX5_after, Cond.selects RX5 yX5_after yX5_after, Cond.code yX5_after cX5_after 2 (some .int), Cond.methodLink RX5 48 yX5_swapRingOf, Cond.instanceMethod yX5_swapRingOf, Cond.selects RX5 yX5_swapRingOf yX5_swapRingOf, Cond.code yX5_swapRingOf cX5_swapRingOf 7 (some .int), Cond.fieldLink RX5 52 "FlatLottery$Household" "held" "I"]
def wsX5_swapAll : List Cond := .code yX5_swapAll cX5_swapAll 5 (some .int) :: ((wsX5_swapAll_r1 ++ (wsX5_swapAll_r2 ++ wsX5_swapAll_r3)) ++ wsX60 ++ wsX50 ++ wsX20 ++ wsX00)
def wsX6_ownerOfNumber : List Cond := .code yX6_ownerOfNumber cX6_ownerOfNumber 3 (some .int) :: ([.fieldLink RX6 37 "FlatLottery$State" "householdCount" "I", .fieldLink RX6 19 "FlatLottery$State" "households" "[LFlatLottery$Household;", .fieldLink RX6 55 "FlatLottery$Household" "number" "I"] ++ wsX60 ++ wsX20)
def wsX6_wishersOf : List Cond := .code yX6_wishersOf cX6_wishersOf 4 (some .int) :: ([.fieldLink RX6 37 "FlatLottery$State" "householdCount" "I", .fieldLink RX6 19 "FlatLottery$State" "households" "[LFlatLottery$Household;", .methodLink RX6 58 yX2_placeOf, .instanceMethod yX2_placeOf, .selects RX2 yX2_placeOf yX2_placeOf, .initialized RX2, .code yX2_placeOf cX2_placeOf 3 (some .int), .fieldLink RX2 15 "FlatLottery$Household" "wishCount" "I", .fieldLink RX2 9 "FlatLottery$Household" "wishes" "[I"] ++ wsX60 ++ wsX20)
def wsX6_eligibleFor : List Cond := .code yX6_eligibleFor cX6_eligibleFor 4 (some .int) :: ([.fieldLink RX6 37 "FlatLottery$State" "householdCount" "I", .fieldLink RX6 19 "FlatLottery$State" "households" "[LFlatLottery$Household;", .methodLink RX6 62 yX6_isEligible, .instanceMethod yX6_isEligible, .selects RX6 yX6_isEligible yX6_isEligible, .initialized RX6, .code yX6_isEligible cX6_isEligible 3 (some .boolean), .fieldLink RX6 11 "FlatLottery$State" "flats" "[LFlatLottery$Flat;", .methodLink RX6 66 yX6_hasFlat, .instanceMethod yX6_hasFlat, .selects RX6 yX6_hasFlat yX6_hasFlat, .code yX6_hasFlat cX6_hasFlat 2 (some .boolean), .fieldLink RX6 29 "FlatLottery$State" "flatCount" "I", .methodLink RX6 70 yX2_isEligibleFor, .instanceMethod yX2_isEligibleFor, .selects RX2 yX2_isEligibleFor yX2_isEligibleFor, .initialized RX2, .code yX2_isEligibleFor cX2_isEligibleFor 2 (some .boolean), .fieldLink RX2 19 "FlatLottery$Household" "members" "I", .fieldLink RX2 44 "FlatLottery$Flat" "rooms" "I", .fieldLink RX2 49 "FlatLottery$Flat" "rent" "I", .fieldLink RX2 22 "FlatLottery$Household" "income" "I"] ++ wsX60 ++ wsX20 ++ wsX00)
def wsX6_countHeld : List Cond := .code yX6_countHeld cX6_countHeld 3 (some .int) :: ([.fieldLink RX6 37 "FlatLottery$State" "householdCount" "I", .fieldLink RX6 19 "FlatLottery$State" "households" "[LFlatLottery$Household;", .fieldLink RX6 52 "FlatLottery$Household" "held" "I"] ++ wsX60 ++ wsX20)
def wsX6_countNumbered : List Cond := .code yX6_countNumbered cX6_countNumbered 3 (some .int) :: ([.fieldLink RX6 37 "FlatLottery$State" "householdCount" "I", .fieldLink RX6 19 "FlatLottery$State" "households" "[LFlatLottery$Household;", .fieldLink RX6 55 "FlatLottery$Household" "number" "I"] ++ wsX60 ++ wsX20)
def wsX6_countAppeals : List Cond := .code yX6_countAppeals cX6_countAppeals 3 (some .int) :: ([.fieldLink RX6 37 "FlatLottery$State" "householdCount" "I", .fieldLink RX6 19 "FlatLottery$State" "households" "[LFlatLottery$Household;", .fieldLink RX6 74 "FlatLottery$Household" "appeals" "I"] ++ wsX60 ++ wsX20)
def wsX6_placeInOrder : List Cond := .code yX6_placeInOrder cX6_placeInOrder 4 (some .int) :: ([.fieldLink RX6 55 "FlatLottery$Household" "number" "I", .fieldLink RX6 37 "FlatLottery$State" "householdCount" "I", .fieldLink RX6 19 "FlatLottery$State" "households" "[LFlatLottery$Household;", .methodLink RX6 77 yX2_standsAheadOf, .instanceMethod yX2_standsAheadOf, .selects RX2 yX2_standsAheadOf yX2_standsAheadOf, .initialized RX2, .code yX2_standsAheadOf cX2_standsAheadOf 2 (some .boolean), .fieldLink RX2 25 "FlatLottery$Household" "number" "I", .fieldLink RX2 28 "FlatLottery$Household" "points" "I"] ++ wsX20 ++ wsX60)
def wsX6_lineUp : List Cond := .code yX6_lineUp cX6_lineUp 4 (some .int) :: ([.fieldLink RX6 37 "FlatLottery$State" "householdCount" "I", .fieldLink RX6 19 "FlatLottery$State" "households" "[LFlatLottery$Household;", .fieldLink RX6 23 "FlatLottery$State" "order" "[I", .methodLink RX6 81 yX6_placeInOrder, .instanceMethod yX6_placeInOrder, .selects RX6 yX6_placeInOrder yX6_placeInOrder, .initialized RX6, .code yX6_placeInOrder cX6_placeInOrder 4 (some .int), .fieldLink RX6 55 "FlatLottery$Household" "number" "I", .methodLink RX6 77 yX2_standsAheadOf, .instanceMethod yX2_standsAheadOf, .selects RX2 yX2_standsAheadOf yX2_standsAheadOf, .initialized RX2, .code yX2_standsAheadOf cX2_standsAheadOf 2 (some .boolean), .fieldLink RX2 25 "FlatLottery$Household" "number" "I", .fieldLink RX2 28 "FlatLottery$Household" "points" "I"] ++ wsX60 ++ wsX20)
def wsX6_heldFlats : List Cond := .code yX6_heldFlats cX6_heldFlats 4 (some .int) :: ([.fieldLink RX6 37 "FlatLottery$State" "householdCount" "I", .fieldLink RX6 19 "FlatLottery$State" "households" "[LFlatLottery$Household;", .fieldLink RX6 52 "FlatLottery$Household" "held" "I"] ++ wsX60 ++ wsX20)
def wsX6_firstWishOutside : List Cond := .code yX6_firstWishOutside cX6_firstWishOutside 5 (some .int) :: ([.fieldLink RX6 99 "FlatLottery$Household" "wishCount" "I", .fieldLink RX6 102 "FlatLottery$Household" "wishes" "[I", .methodLink RX6 62 yX6_isEligible, .instanceMethod yX6_isEligible, .selects RX6 yX6_isEligible yX6_isEligible, .initialized RX6, .code yX6_isEligible cX6_isEligible 3 (some .boolean), .fieldLink RX6 11 "FlatLottery$State" "flats" "[LFlatLottery$Flat;", .methodLink RX6 66 yX6_hasFlat, .instanceMethod yX6_hasFlat, .selects RX6 yX6_hasFlat yX6_hasFlat, .code yX6_hasFlat cX6_hasFlat 2 (some .boolean), .fieldLink RX6 29 "FlatLottery$State" "flatCount" "I", .methodLink RX6 70 yX2_isEligibleFor, .instanceMethod yX2_isEligibleFor, .selects RX2 yX2_isEligibleFor yX2_isEligibleFor, .initialized RX2, .code yX2_isEligibleFor cX2_isEligibleFor 2 (some .boolean), .fieldLink RX2 19 "FlatLottery$Household" "members" "I", .fieldLink RX2 44 "FlatLottery$Flat" "rooms" "I", .fieldLink RX2 49 "FlatLottery$Flat" "rent" "I", .fieldLink RX2 22 "FlatLottery$Household" "income" "I"] ++ wsX20 ++ wsX60 ++ wsX00)
def wsX6_giveFlatsInOrder_r1 : List Cond := [Cond.fieldLink RX6 19 "FlatLottery$State" "households" "[LFlatLottery$Household;", Cond.fieldLink RX6 23 "FlatLottery$State" "order" "[I", Cond.fieldLink RX6 52 "FlatLottery$Household" "held" "I", Cond.fieldLink RX6 96 "FlatLottery$Household" "passedOver" "I", Cond.methodLink RX6 85 yX6_heldFlats, Cond.instanceMethod yX6_heldFlats, Cond.selects RX6 yX6_heldFlats yX6_heldFlats, Cond.initialized RX6, Cond.code yX6_heldFlats cX6_heldFlats 4 (some .int), Cond.fieldLink RX6 37 "FlatLottery$State" "householdCount" "I", Cond.methodLink RX6 89 yX6_lineUp, Cond.instanceMethod yX6_lineUp, Cond.selects RX6 yX6_lineUp yX6_lineUp, Cond.code yX6_lineUp cX6_lineUp 4 (some .int), Cond.methodLink RX6 81 yX6_placeInOrder, Cond.instanceMethod yX6_placeInOrder, Cond.selects RX6 yX6_placeInOrder yX6_placeInOrder, Cond.code yX6_placeInOrder cX6_placeInOrder 4 (some .int), Cond.fieldLink RX6 55 "FlatLottery$Household" "number" "I", Cond.methodLink RX6 77 yX2_standsAheadOf, Cond.instanceMethod yX2_standsAheadOf, Cond.selects RX2 yX2_standsAheadOf yX2_standsAheadOf, Cond.initialized RX2, Cond.code yX2_standsAheadOf cX2_standsAheadOf 2 (some .boolean)]
def wsX6_giveFlatsInOrder_r2 : List Cond := [Cond.fieldLink RX2 25 "FlatLottery$Household" "number" "I", Cond.fieldLink RX2 28 "FlatLottery$Household" "points" "I", Cond.methodLink RX6 92 yX6_firstWishOutside, Cond.instanceMethod yX6_firstWishOutside, Cond.selects RX6 yX6_firstWishOutside yX6_firstWishOutside, Cond.code yX6_firstWishOutside cX6_firstWishOutside 5 (some .int), Cond.fieldLink RX6 99 "FlatLottery$Household" "wishCount" "I", Cond.fieldLink RX6 102 "FlatLottery$Household" "wishes" "[I", Cond.methodLink RX6 62 yX6_isEligible, Cond.instanceMethod yX6_isEligible, Cond.selects RX6 yX6_isEligible yX6_isEligible, Cond.code yX6_isEligible cX6_isEligible 3 (some .boolean), Cond.fieldLink RX6 11 "FlatLottery$State" "flats" "[LFlatLottery$Flat;", Cond.methodLink RX6 66 yX6_hasFlat, Cond.instanceMethod yX6_hasFlat, Cond.selects RX6 yX6_hasFlat yX6_hasFlat, Cond.code yX6_hasFlat cX6_hasFlat 2 (some .boolean), Cond.fieldLink RX6 29 "FlatLottery$State" "flatCount" "I", Cond.methodLink RX6 70 yX2_isEligibleFor, Cond.instanceMethod yX2_isEligibleFor, Cond.selects RX2 yX2_isEligibleFor yX2_isEligibleFor, Cond.code yX2_isEligibleFor cX2_isEligibleFor 2 (some .boolean), Cond.fieldLink RX2 19 "FlatLottery$Household" "members" "I", Cond.fieldLink RX2 44 "FlatLottery$Flat" "rooms" "I"]
def wsX6_giveFlatsInOrder_r3 : List Cond := [Cond.fieldLink RX2 49 "FlatLottery$Flat" "rent" "I", Cond.fieldLink RX2 22 "FlatLottery$Household" "income" "I"]
def wsX6_giveFlatsInOrder : List Cond := .code yX6_giveFlatsInOrder cX6_giveFlatsInOrder 7 (some .int) :: ((wsX6_giveFlatsInOrder_r1 ++ (wsX6_giveFlatsInOrder_r2 ++ wsX6_giveFlatsInOrder_r3)) ++ wsX60 ++ wsX20 ++ wsX00)
def wsX6_flatIfAllWereFree_r1 : List Cond := [Cond.fieldLink RX6 23 "FlatLottery$State" "order" "[I", Cond.fieldLink RX6 19 "FlatLottery$State" "households" "[LFlatLottery$Household;", Cond.methodLink RX6 89 yX6_lineUp, Cond.instanceMethod yX6_lineUp, Cond.selects RX6 yX6_lineUp yX6_lineUp, Cond.initialized RX6, Cond.code yX6_lineUp cX6_lineUp 4 (some .int), Cond.fieldLink RX6 37 "FlatLottery$State" "householdCount" "I", Cond.methodLink RX6 81 yX6_placeInOrder, Cond.instanceMethod yX6_placeInOrder, Cond.selects RX6 yX6_placeInOrder yX6_placeInOrder, Cond.code yX6_placeInOrder cX6_placeInOrder 4 (some .int), Cond.fieldLink RX6 55 "FlatLottery$Household" "number" "I", Cond.methodLink RX6 77 yX2_standsAheadOf, Cond.instanceMethod yX2_standsAheadOf, Cond.selects RX2 yX2_standsAheadOf yX2_standsAheadOf, Cond.initialized RX2, Cond.code yX2_standsAheadOf cX2_standsAheadOf 2 (some .boolean), Cond.fieldLink RX2 25 "FlatLottery$Household" "number" "I", Cond.fieldLink RX2 28 "FlatLottery$Household" "points" "I", Cond.methodLink RX6 92 yX6_firstWishOutside, Cond.instanceMethod yX6_firstWishOutside, Cond.selects RX6 yX6_firstWishOutside yX6_firstWishOutside, Cond.code yX6_firstWishOutside cX6_firstWishOutside 5 (some .int)]
def wsX6_flatIfAllWereFree_r2 : List Cond := [Cond.fieldLink RX6 99 "FlatLottery$Household" "wishCount" "I", Cond.fieldLink RX6 102 "FlatLottery$Household" "wishes" "[I", Cond.methodLink RX6 62 yX6_isEligible, Cond.instanceMethod yX6_isEligible, Cond.selects RX6 yX6_isEligible yX6_isEligible, Cond.code yX6_isEligible cX6_isEligible 3 (some .boolean), Cond.fieldLink RX6 11 "FlatLottery$State" "flats" "[LFlatLottery$Flat;", Cond.methodLink RX6 66 yX6_hasFlat, Cond.instanceMethod yX6_hasFlat, Cond.selects RX6 yX6_hasFlat yX6_hasFlat, Cond.code yX6_hasFlat cX6_hasFlat 2 (some .boolean), Cond.fieldLink RX6 29 "FlatLottery$State" "flatCount" "I", Cond.methodLink RX6 70 yX2_isEligibleFor, Cond.instanceMethod yX2_isEligibleFor, Cond.selects RX2 yX2_isEligibleFor yX2_isEligibleFor, Cond.code yX2_isEligibleFor cX2_isEligibleFor 2 (some .boolean), Cond.fieldLink RX2 19 "FlatLottery$Household" "members" "I", Cond.fieldLink RX2 44 "FlatLottery$Flat" "rooms" "I", Cond.fieldLink RX2 49 "FlatLottery$Flat" "rent" "I", Cond.fieldLink RX2 22 "FlatLottery$Household" "income" "I"]
def wsX6_flatIfAllWereFree : List Cond := .code yX6_flatIfAllWereFree cX6_flatIfAllWereFree 8 (some .int) :: ((wsX6_flatIfAllWereFree_r1 ++ wsX6_flatIfAllWereFree_r2) ++ wsX60 ++ wsX20 ++ wsX00)
def wsX6_isPassedOver : List Cond := .code yX6_isPassedOver cX6_isPassedOver 2 (some .boolean) :: ([.fieldLink RX6 55 "FlatLottery$Household" "number" "I", .fieldLink RX6 52 "FlatLottery$Household" "held" "I", .fieldLink RX6 96 "FlatLottery$Household" "passedOver" "I"] ++ wsX20)
def wsX6_isCrowded : List Cond := .code yX6_isCrowded cX6_isCrowded 2 (some .boolean) :: ([.fieldLink RX6 52 "FlatLottery$Household" "held" "I", .fieldLink RX6 114 "FlatLottery$Household" "members" "I", .fieldLink RX6 11 "FlatLottery$State" "flats" "[LFlatLottery$Flat;", .fieldLink RX6 117 "FlatLottery$Flat" "rooms" "I", .methodLink RX6 66 yX6_hasFlat, .instanceMethod yX6_hasFlat, .selects RX6 yX6_hasFlat yX6_hasFlat, .initialized RX6, .code yX6_hasFlat cX6_hasFlat 2 (some .boolean), .fieldLink RX6 29 "FlatLottery$State" "flatCount" "I"] ++ wsX20 ++ wsX60 ++ wsX00)
def wsX6_envyOf_r1 : List Cond := [Cond.fieldLink RX6 52 "FlatLottery$Household" "held" "I", Cond.methodLink RX6 124 yX2_wishesMoreThanItsOwn, Cond.instanceMethod yX2_wishesMoreThanItsOwn, Cond.selects RX2 yX2_wishesMoreThanItsOwn yX2_wishesMoreThanItsOwn, Cond.initialized RX2, Cond.code yX2_wishesMoreThanItsOwn cX2_wishesMoreThanItsOwn 4 (some .boolean), Cond.fieldLink RX2 31 "FlatLottery$Household" "held" "I", Cond.methodLink RX2 40 yX2_placeOf, Cond.instanceMethod yX2_placeOf, Cond.selects RX2 yX2_placeOf yX2_placeOf, Cond.code yX2_placeOf cX2_placeOf 3 (some .int), Cond.fieldLink RX2 15 "FlatLottery$Household" "wishCount" "I", Cond.fieldLink RX2 9 "FlatLottery$Household" "wishes" "[I", Cond.methodLink RX6 62 yX6_isEligible, Cond.instanceMethod yX6_isEligible, Cond.selects RX6 yX6_isEligible yX6_isEligible, Cond.initialized RX6, Cond.code yX6_isEligible cX6_isEligible 3 (some .boolean), Cond.fieldLink RX6 11 "FlatLottery$State" "flats" "[LFlatLottery$Flat;", Cond.methodLink RX6 66 yX6_hasFlat, Cond.instanceMethod yX6_hasFlat, Cond.selects RX6 yX6_hasFlat yX6_hasFlat, Cond.code yX6_hasFlat cX6_hasFlat 2 (some .boolean), Cond.fieldLink RX6 29 "FlatLottery$State" "flatCount" "I"]
def wsX6_envyOf_r2 : List Cond := [Cond.methodLink RX6 70 yX2_isEligibleFor, Cond.instanceMethod yX2_isEligibleFor, Cond.selects RX2 yX2_isEligibleFor yX2_isEligibleFor, Cond.code yX2_isEligibleFor cX2_isEligibleFor 2 (some .boolean), Cond.fieldLink RX2 19 "FlatLottery$Household" "members" "I", Cond.fieldLink RX2 44 "FlatLottery$Flat" "rooms" "I", Cond.fieldLink RX2 49 "FlatLottery$Flat" "rent" "I", Cond.fieldLink RX2 22 "FlatLottery$Household" "income" "I", Cond.methodLink RX6 77 yX2_standsAheadOf, Cond.instanceMethod yX2_standsAheadOf, Cond.selects RX2 yX2_standsAheadOf yX2_standsAheadOf, Cond.code yX2_standsAheadOf cX2_standsAheadOf 2 (some .boolean), Cond.fieldLink RX2 25 "FlatLottery$Household" "number" "I", Cond.fieldLink RX2 28 "FlatLottery$Household" "points" "I"]
def wsX6_envyOf : List Cond := .code yX6_envyOf cX6_envyOf 4 (some .int) :: ((wsX6_envyOf_r1 ++ wsX6_envyOf_r2) ++ wsX20 ++ wsX60 ++ wsX00)
def wsX6_isWronged_r1 : List Cond := [Cond.fieldLink RX6 37 "FlatLottery$State" "householdCount" "I", Cond.fieldLink RX6 19 "FlatLottery$State" "households" "[LFlatLottery$Household;", Cond.methodLink RX6 120 yX6_envyOf, Cond.instanceMethod yX6_envyOf, Cond.selects RX6 yX6_envyOf yX6_envyOf, Cond.initialized RX6, Cond.code yX6_envyOf cX6_envyOf 4 (some .int), Cond.fieldLink RX6 52 "FlatLottery$Household" "held" "I", Cond.methodLink RX6 124 yX2_wishesMoreThanItsOwn, Cond.instanceMethod yX2_wishesMoreThanItsOwn, Cond.selects RX2 yX2_wishesMoreThanItsOwn yX2_wishesMoreThanItsOwn, Cond.initialized RX2, Cond.code yX2_wishesMoreThanItsOwn cX2_wishesMoreThanItsOwn 4 (some .boolean), Cond.fieldLink RX2 31 "FlatLottery$Household" "held" "I", Cond.methodLink RX2 40 yX2_placeOf, Cond.instanceMethod yX2_placeOf, Cond.selects RX2 yX2_placeOf yX2_placeOf, Cond.code yX2_placeOf cX2_placeOf 3 (some .int), Cond.fieldLink RX2 15 "FlatLottery$Household" "wishCount" "I", Cond.fieldLink RX2 9 "FlatLottery$Household" "wishes" "[I", Cond.methodLink RX6 62 yX6_isEligible, Cond.instanceMethod yX6_isEligible, Cond.selects RX6 yX6_isEligible yX6_isEligible, Cond.code yX6_isEligible cX6_isEligible 3 (some .boolean)]
def wsX6_isWronged_r2 : List Cond := [Cond.fieldLink RX6 11 "FlatLottery$State" "flats" "[LFlatLottery$Flat;", Cond.methodLink RX6 66 yX6_hasFlat, Cond.instanceMethod yX6_hasFlat, Cond.selects RX6 yX6_hasFlat yX6_hasFlat, Cond.code yX6_hasFlat cX6_hasFlat 2 (some .boolean), Cond.fieldLink RX6 29 "FlatLottery$State" "flatCount" "I", Cond.methodLink RX6 70 yX2_isEligibleFor, Cond.instanceMethod yX2_isEligibleFor, Cond.selects RX2 yX2_isEligibleFor yX2_isEligibleFor, Cond.code yX2_isEligibleFor cX2_isEligibleFor 2 (some .boolean), Cond.fieldLink RX2 19 "FlatLottery$Household" "members" "I", Cond.fieldLink RX2 44 "FlatLottery$Flat" "rooms" "I", Cond.fieldLink RX2 49 "FlatLottery$Flat" "rent" "I", Cond.fieldLink RX2 22 "FlatLottery$Household" "income" "I", Cond.methodLink RX6 77 yX2_standsAheadOf, Cond.instanceMethod yX2_standsAheadOf, Cond.selects RX2 yX2_standsAheadOf yX2_standsAheadOf, Cond.code yX2_standsAheadOf cX2_standsAheadOf 2 (some .boolean), Cond.fieldLink RX2 25 "FlatLottery$Household" "number" "I", Cond.fieldLink RX2 28 "FlatLottery$Household" "points" "I"]
def wsX6_isWronged : List Cond := .code yX6_isWronged cX6_isWronged 3 (some .boolean) :: ((wsX6_isWronged_r1 ++ wsX6_isWronged_r2) ++ wsX60 ++ wsX20 ++ wsX00)
def wsX6_reasonHolds_r1 : List Cond := [Cond.methodLink RX6 105 yX6_isPassedOver, Cond.instanceMethod yX6_isPassedOver, Cond.selects RX6 yX6_isPassedOver yX6_isPassedOver, Cond.initialized RX6, Cond.code yX6_isPassedOver cX6_isPassedOver 2 (some .boolean), Cond.fieldLink RX6 55 "FlatLottery$Household" "number" "I", Cond.fieldLink RX6 52 "FlatLottery$Household" "held" "I", Cond.fieldLink RX6 96 "FlatLottery$Household" "passedOver" "I", Cond.methodLink RX6 108 yX6_isCrowded, Cond.instanceMethod yX6_isCrowded, Cond.selects RX6 yX6_isCrowded yX6_isCrowded, Cond.code yX6_isCrowded cX6_isCrowded 2 (some .boolean), Cond.fieldLink RX6 114 "FlatLottery$Household" "members" "I", Cond.fieldLink RX6 11 "FlatLottery$State" "flats" "[LFlatLottery$Flat;", Cond.fieldLink RX6 117 "FlatLottery$Flat" "rooms" "I", Cond.methodLink RX6 66 yX6_hasFlat, Cond.instanceMethod yX6_hasFlat, Cond.selects RX6 yX6_hasFlat yX6_hasFlat, Cond.code yX6_hasFlat cX6_hasFlat 2 (some .boolean), Cond.fieldLink RX6 29 "FlatLottery$State" "flatCount" "I", Cond.methodLink RX6 111 yX6_isWronged, Cond.instanceMethod yX6_isWronged, Cond.selects RX6 yX6_isWronged yX6_isWronged, Cond.code yX6_isWronged cX6_isWronged 3 (some .boolean)]
def wsX6_reasonHolds_r2 : List Cond := [Cond.fieldLink RX6 37 "FlatLottery$State" "householdCount" "I", Cond.fieldLink RX6 19 "FlatLottery$State" "households" "[LFlatLottery$Household;", Cond.methodLink RX6 120 yX6_envyOf, Cond.instanceMethod yX6_envyOf, Cond.selects RX6 yX6_envyOf yX6_envyOf, Cond.code yX6_envyOf cX6_envyOf 4 (some .int), Cond.methodLink RX6 124 yX2_wishesMoreThanItsOwn, Cond.instanceMethod yX2_wishesMoreThanItsOwn, Cond.selects RX2 yX2_wishesMoreThanItsOwn yX2_wishesMoreThanItsOwn, Cond.initialized RX2, Cond.code yX2_wishesMoreThanItsOwn cX2_wishesMoreThanItsOwn 4 (some .boolean), Cond.fieldLink RX2 31 "FlatLottery$Household" "held" "I", Cond.methodLink RX2 40 yX2_placeOf, Cond.instanceMethod yX2_placeOf, Cond.selects RX2 yX2_placeOf yX2_placeOf, Cond.code yX2_placeOf cX2_placeOf 3 (some .int), Cond.fieldLink RX2 15 "FlatLottery$Household" "wishCount" "I", Cond.fieldLink RX2 9 "FlatLottery$Household" "wishes" "[I", Cond.methodLink RX6 62 yX6_isEligible, Cond.instanceMethod yX6_isEligible, Cond.selects RX6 yX6_isEligible yX6_isEligible, Cond.code yX6_isEligible cX6_isEligible 3 (some .boolean), Cond.methodLink RX6 70 yX2_isEligibleFor, Cond.instanceMethod yX2_isEligibleFor]
def wsX6_reasonHolds_r3 : List Cond := [Cond.selects RX2 yX2_isEligibleFor yX2_isEligibleFor, Cond.code yX2_isEligibleFor cX2_isEligibleFor 2 (some .boolean), Cond.fieldLink RX2 19 "FlatLottery$Household" "members" "I", Cond.fieldLink RX2 44 "FlatLottery$Flat" "rooms" "I", Cond.fieldLink RX2 49 "FlatLottery$Flat" "rent" "I", Cond.fieldLink RX2 22 "FlatLottery$Household" "income" "I", Cond.methodLink RX6 77 yX2_standsAheadOf, Cond.instanceMethod yX2_standsAheadOf, Cond.selects RX2 yX2_standsAheadOf yX2_standsAheadOf, Cond.code yX2_standsAheadOf cX2_standsAheadOf 2 (some .boolean), Cond.fieldLink RX2 25 "FlatLottery$Household" "number" "I", Cond.fieldLink RX2 28 "FlatLottery$Household" "points" "I"]
def wsX6_reasonHolds : List Cond := .code yX6_reasonHolds cX6_reasonHolds 3 (some .boolean) :: ((wsX6_reasonHolds_r1 ++ (wsX6_reasonHolds_r2 ++ wsX6_reasonHolds_r3)) ++ wsX20 ++ wsX60 ++ wsX00)
def wsX6_countEnvy_r1 : List Cond := [Cond.fieldLink RX6 37 "FlatLottery$State" "householdCount" "I", Cond.fieldLink RX6 19 "FlatLottery$State" "households" "[LFlatLottery$Household;", Cond.methodLink RX6 120 yX6_envyOf, Cond.instanceMethod yX6_envyOf, Cond.selects RX6 yX6_envyOf yX6_envyOf, Cond.initialized RX6, Cond.code yX6_envyOf cX6_envyOf 4 (some .int), Cond.fieldLink RX6 52 "FlatLottery$Household" "held" "I", Cond.methodLink RX6 124 yX2_wishesMoreThanItsOwn, Cond.instanceMethod yX2_wishesMoreThanItsOwn, Cond.selects RX2 yX2_wishesMoreThanItsOwn yX2_wishesMoreThanItsOwn, Cond.initialized RX2, Cond.code yX2_wishesMoreThanItsOwn cX2_wishesMoreThanItsOwn 4 (some .boolean), Cond.fieldLink RX2 31 "FlatLottery$Household" "held" "I", Cond.methodLink RX2 40 yX2_placeOf, Cond.instanceMethod yX2_placeOf, Cond.selects RX2 yX2_placeOf yX2_placeOf, Cond.code yX2_placeOf cX2_placeOf 3 (some .int), Cond.fieldLink RX2 15 "FlatLottery$Household" "wishCount" "I", Cond.fieldLink RX2 9 "FlatLottery$Household" "wishes" "[I", Cond.methodLink RX6 62 yX6_isEligible, Cond.instanceMethod yX6_isEligible, Cond.selects RX6 yX6_isEligible yX6_isEligible, Cond.code yX6_isEligible cX6_isEligible 3 (some .boolean)]
def wsX6_countEnvy_r2 : List Cond := [Cond.fieldLink RX6 11 "FlatLottery$State" "flats" "[LFlatLottery$Flat;", Cond.methodLink RX6 66 yX6_hasFlat, Cond.instanceMethod yX6_hasFlat, Cond.selects RX6 yX6_hasFlat yX6_hasFlat, Cond.code yX6_hasFlat cX6_hasFlat 2 (some .boolean), Cond.fieldLink RX6 29 "FlatLottery$State" "flatCount" "I", Cond.methodLink RX6 70 yX2_isEligibleFor, Cond.instanceMethod yX2_isEligibleFor, Cond.selects RX2 yX2_isEligibleFor yX2_isEligibleFor, Cond.code yX2_isEligibleFor cX2_isEligibleFor 2 (some .boolean), Cond.fieldLink RX2 19 "FlatLottery$Household" "members" "I", Cond.fieldLink RX2 44 "FlatLottery$Flat" "rooms" "I", Cond.fieldLink RX2 49 "FlatLottery$Flat" "rent" "I", Cond.fieldLink RX2 22 "FlatLottery$Household" "income" "I", Cond.methodLink RX6 77 yX2_standsAheadOf, Cond.instanceMethod yX2_standsAheadOf, Cond.selects RX2 yX2_standsAheadOf yX2_standsAheadOf, Cond.code yX2_standsAheadOf cX2_standsAheadOf 2 (some .boolean), Cond.fieldLink RX2 25 "FlatLottery$Household" "number" "I", Cond.fieldLink RX2 28 "FlatLottery$Household" "points" "I"]
def wsX6_countEnvy : List Cond := .code yX6_countEnvy cX6_countEnvy 5 (some .int) :: ((wsX6_countEnvy_r1 ++ wsX6_countEnvy_r2) ++ wsX60 ++ wsX20 ++ wsX00)
def wsX7_init_r1 : List Cond := [Cond.methodLink RX7 1 objectInit, Cond.instanceMethod objectInit, Cond.code objectInit ⟨#[0xb1]⟩ 1 none, Cond.classLink RX7 7 RX6, Cond.instantiable RX6 8, Cond.initialized RX6, Cond.fieldLink RX7 10 "FlatLottery" "state" "LFlatLottery$State;", Cond.fieldLink RX7 16 "FlatLottery" "snapshot" "LFlatLottery$State;", Cond.fieldLink RX7 19 "FlatLottery" "hasSnapshot" "Z", Cond.classLink RX7 23 RX1, Cond.instantiable RX1 2, Cond.initialized RX1, Cond.fieldLink RX7 26 "FlatLottery" "history" "LFlatLottery$History;", Cond.classLink RX7 30 RX3, Cond.instantiable RX3 7, Cond.initialized RX3, Cond.fieldLink RX7 33 "FlatLottery" "text" "LFlatLottery$ListText;", Cond.classLink RX7 37 RX5, Cond.instantiable RX5 2, Cond.initialized RX5, Cond.fieldLink RX7 40 "FlatLottery" "rings" "LFlatLottery$Rings;", Cond.classLink RX7 44 RX4, Cond.instantiable RX4 4, Cond.initialized RX4]
def wsX7_init_r2 : List Cond := [Cond.fieldLink RX7 47 "FlatLottery" "matching" "LFlatLottery$Matching;", Cond.methodLink RX7 9 yX6_init, Cond.instanceMethod yX6_init, Cond.code yX6_init cX6_init 2 none, Cond.methodLink RX6 3 objectInit, Cond.classLink RX6 9 RX0, Cond.fieldLink RX6 11 "FlatLottery$State" "flats" "[LFlatLottery$Flat;", Cond.classLink RX6 17 RX2, Cond.fieldLink RX6 19 "FlatLottery$State" "households" "[LFlatLottery$Household;", Cond.arrayClass .int, Cond.fieldLink RX6 23 "FlatLottery$State" "order" "[I", Cond.instantiable RX0 2, Cond.initialized RX0, Cond.instantiable RX2 9, Cond.initialized RX2, Cond.instanceMethod yX0_init, Cond.code yX0_init cX0_init 1 none, Cond.methodLink RX0 1 objectInit, Cond.instanceMethod yX2_init, Cond.code yX2_init cX2_init 1 none, Cond.methodLink RX2 3 objectInit, Cond.fieldLink RX2 9 "FlatLottery$Household" "wishes" "[I", Cond.methodLink RX7 25 yX1_init, Cond.instanceMethod yX1_init]
def wsX7_init_r3 : List Cond := [Cond.code yX1_init cX1_init 2 none, Cond.methodLink RX1 3 objectInit, Cond.classLink RX1 9 RX6, Cond.fieldLink RX1 11 "FlatLottery$History" "states" "[LFlatLottery$State;", Cond.methodLink RX1 17 yX6_init, Cond.instanceMethod yX3_init, Cond.code yX3_init cX3_init 1 none, Cond.methodLink RX3 3 objectInit, Cond.arrayClass .char, Cond.fieldLink RX3 9 "FlatLottery$ListText" "characters" "[C", Cond.fieldLink RX3 15 "FlatLottery$ListText" "listHousehold" "[I", Cond.fieldLink RX3 19 "FlatLottery$ListText" "listSize" "[I", Cond.fieldLink RX3 22 "FlatLottery$ListText" "listFlats" "[I", Cond.instanceMethod yX5_init, Cond.code yX5_init cX5_init 1 none, Cond.methodLink RX5 3 objectInit, Cond.fieldLink RX5 9 "FlatLottery$Rings" "pointed" "[I", Cond.instanceMethod yX4_init, Cond.code yX4_init cX4_init 1 none, Cond.methodLink RX4 3 objectInit, Cond.fieldLink RX4 9 "FlatLottery$Matching" "flatOf" "[I", Cond.fieldLink RX4 15 "FlatLottery$Matching" "takenBy" "[I", Cond.fieldLink RX4 18 "FlatLottery$Matching" "askedBy" "[I", Cond.fieldLink RX4 21 "FlatLottery$Matching" "waiting" "[I"]
def wsX7_init : List Cond := .code yX7_init cX7_init 1 none :: ((wsX7_init_r1 ++ (wsX7_init_r2 ++ wsX7_init_r3)) ++ wsX60 ++ wsX70 ++ wsX10 ++ wsX30 ++ wsX50 ++ wsX40 ++ wsX00 ++ wsX20)
def wsX7_isWithin : List Cond := .code yX7_isWithin cX7_isWithin 3 (some .boolean) :: ([])
def wsX7_addFlat_r1 : List Cond := [Cond.fieldLink RX7 10 "FlatLottery" "state" "LFlatLottery$State;", Cond.fieldLink RX7 55 "FlatLottery$State" "flatCount" "I", Cond.fieldLink RX7 26 "FlatLottery" "history" "LFlatLottery$History;", Cond.fieldLink RX7 63 "FlatLottery$State" "flats" "[LFlatLottery$Flat;", Cond.fieldLink RX7 67 "FlatLottery$Flat" "rooms" "I", Cond.fieldLink RX7 72 "FlatLottery$Flat" "rent" "I", Cond.methodLink RX7 51 yX7_isWithin, Cond.static yX7_isWithin, Cond.initialized RX7, Cond.code yX7_isWithin cX7_isWithin 3 (some .boolean), Cond.methodLink RX7 59 yX1_record, Cond.instanceMethod yX1_record, Cond.selects RX1 yX1_record yX1_record, Cond.initialized RX1, Cond.code yX1_record cX1_record 2 none, Cond.fieldLink RX1 18 "FlatLottery$History" "size" "I", Cond.fieldLink RX1 11 "FlatLottery$History" "states" "[LFlatLottery$State;", Cond.methodLink RX1 22 yX1_dropOldest, Cond.instanceMethod yX1_dropOldest, Cond.selects RX1 yX1_dropOldest yX1_dropOldest, Cond.code yX1_dropOldest cX1_dropOldest 3 none, Cond.methodLink RX1 25 yX6_copyFrom, Cond.instanceMethod yX6_copyFrom, Cond.selects RX6 yX6_copyFrom yX6_copyFrom]
def wsX7_addFlat_r2 : List Cond := [Cond.initialized RX6, Cond.code yX6_copyFrom cX6_copyFrom 3 none, Cond.fieldLink RX6 29 "FlatLottery$State" "flatCount" "I", Cond.fieldLink RX6 11 "FlatLottery$State" "flats" "[LFlatLottery$Flat;", Cond.fieldLink RX6 37 "FlatLottery$State" "householdCount" "I", Cond.fieldLink RX6 19 "FlatLottery$State" "households" "[LFlatLottery$Household;", Cond.fieldLink RX6 43 "FlatLottery$State" "rounds" "I", Cond.fieldLink RX6 46 "FlatLottery$State" "refused" "I", Cond.fieldLink RX6 49 "FlatLottery$State" "declined" "I", Cond.methodLink RX6 33 yX0_copyFrom, Cond.instanceMethod yX0_copyFrom, Cond.selects RX0 yX0_copyFrom yX0_copyFrom, Cond.initialized RX0, Cond.code yX0_copyFrom cX0_copyFrom 2 none, Cond.fieldLink RX0 7 "FlatLottery$Flat" "rooms" "I", Cond.fieldLink RX0 13 "FlatLottery$Flat" "rent" "I", Cond.methodLink RX6 40 yX2_copyFrom, Cond.instanceMethod yX2_copyFrom, Cond.selects RX2 yX2_copyFrom yX2_copyFrom, Cond.initialized RX2, Cond.code yX2_copyFrom cX2_copyFrom 3 none, Cond.fieldLink RX2 9 "FlatLottery$Household" "wishes" "[I", Cond.fieldLink RX2 15 "FlatLottery$Household" "wishCount" "I", Cond.fieldLink RX2 19 "FlatLottery$Household" "members" "I"]
def wsX7_addFlat_r3 : List Cond := [Cond.fieldLink RX2 22 "FlatLottery$Household" "income" "I", Cond.fieldLink RX2 25 "FlatLottery$Household" "number" "I", Cond.fieldLink RX2 28 "FlatLottery$Household" "points" "I", Cond.fieldLink RX2 31 "FlatLottery$Household" "held" "I", Cond.fieldLink RX2 34 "FlatLottery$Household" "appeals" "I", Cond.fieldLink RX2 37 "FlatLottery$Household" "passedOver" "I"]
def wsX7_addFlat : List Cond := .code yX7_addFlat cX7_addFlat 4 (some .int) :: ((wsX7_addFlat_r1 ++ (wsX7_addFlat_r2 ++ wsX7_addFlat_r3)) ++ wsX70 ++ wsX60 ++ wsX00 ++ wsX10 ++ wsX20)
def wsX7_addHousehold_r1 : List Cond := [Cond.fieldLink RX7 10 "FlatLottery" "state" "LFlatLottery$State;", Cond.fieldLink RX7 75 "FlatLottery$State" "householdCount" "I", Cond.fieldLink RX7 26 "FlatLottery" "history" "LFlatLottery$History;", Cond.fieldLink RX7 78 "FlatLottery$State" "households" "[LFlatLottery$Household;", Cond.methodLink RX7 51 yX7_isWithin, Cond.static yX7_isWithin, Cond.initialized RX7, Cond.code yX7_isWithin cX7_isWithin 3 (some .boolean), Cond.methodLink RX7 59 yX1_record, Cond.instanceMethod yX1_record, Cond.selects RX1 yX1_record yX1_record, Cond.initialized RX1, Cond.code yX1_record cX1_record 2 none, Cond.fieldLink RX1 18 "FlatLottery$History" "size" "I", Cond.fieldLink RX1 11 "FlatLottery$History" "states" "[LFlatLottery$State;", Cond.methodLink RX1 22 yX1_dropOldest, Cond.instanceMethod yX1_dropOldest, Cond.selects RX1 yX1_dropOldest yX1_dropOldest, Cond.code yX1_dropOldest cX1_dropOldest 3 none, Cond.methodLink RX1 25 yX6_copyFrom, Cond.instanceMethod yX6_copyFrom, Cond.selects RX6 yX6_copyFrom yX6_copyFrom, Cond.initialized RX6, Cond.code yX6_copyFrom cX6_copyFrom 3 none]
def wsX7_addHousehold_r2 : List Cond := [Cond.fieldLink RX6 29 "FlatLottery$State" "flatCount" "I", Cond.fieldLink RX6 11 "FlatLottery$State" "flats" "[LFlatLottery$Flat;", Cond.fieldLink RX6 37 "FlatLottery$State" "householdCount" "I", Cond.fieldLink RX6 19 "FlatLottery$State" "households" "[LFlatLottery$Household;", Cond.fieldLink RX6 43 "FlatLottery$State" "rounds" "I", Cond.fieldLink RX6 46 "FlatLottery$State" "refused" "I", Cond.fieldLink RX6 49 "FlatLottery$State" "declined" "I", Cond.methodLink RX6 33 yX0_copyFrom, Cond.instanceMethod yX0_copyFrom, Cond.selects RX0 yX0_copyFrom yX0_copyFrom, Cond.initialized RX0, Cond.code yX0_copyFrom cX0_copyFrom 2 none, Cond.fieldLink RX0 7 "FlatLottery$Flat" "rooms" "I", Cond.fieldLink RX0 13 "FlatLottery$Flat" "rent" "I", Cond.methodLink RX6 40 yX2_copyFrom, Cond.instanceMethod yX2_copyFrom, Cond.selects RX2 yX2_copyFrom yX2_copyFrom, Cond.initialized RX2, Cond.code yX2_copyFrom cX2_copyFrom 3 none, Cond.fieldLink RX2 9 "FlatLottery$Household" "wishes" "[I", Cond.fieldLink RX2 15 "FlatLottery$Household" "wishCount" "I", Cond.fieldLink RX2 19 "FlatLottery$Household" "members" "I", Cond.fieldLink RX2 22 "FlatLottery$Household" "income" "I", Cond.fieldLink RX2 25 "FlatLottery$Household" "number" "I"]
def wsX7_addHousehold_r3 : List Cond := [Cond.fieldLink RX2 28 "FlatLottery$Household" "points" "I", Cond.fieldLink RX2 31 "FlatLottery$Household" "held" "I", Cond.fieldLink RX2 34 "FlatLottery$Household" "appeals" "I", Cond.fieldLink RX2 37 "FlatLottery$Household" "passedOver" "I", Cond.methodLink RX7 82 yX2_begin, Cond.instanceMethod yX2_begin, Cond.selects RX2 yX2_begin yX2_begin, Cond.code yX2_begin cX2_begin 3 none]
def wsX7_addHousehold : List Cond := .code yX7_addHousehold cX7_addHousehold 3 (some .int) :: ((wsX7_addHousehold_r1 ++ (wsX7_addHousehold_r2 ++ wsX7_addHousehold_r3)) ++ wsX70 ++ wsX60 ++ wsX10 ++ wsX00 ++ wsX20)
def wsX7_change_r1 : List Cond := [Cond.fieldLink RX7 10 "FlatLottery" "state" "LFlatLottery$State;", Cond.fieldLink RX7 78 "FlatLottery$State" "households" "[LFlatLottery$Household;", Cond.fieldLink RX7 92 "FlatLottery$Household" "income" "I", Cond.fieldLink RX7 95 "FlatLottery$Household" "members" "I", Cond.fieldLink RX7 26 "FlatLottery" "history" "LFlatLottery$History;", Cond.methodLink RX7 88 yX6_hasHousehold, Cond.instanceMethod yX6_hasHousehold, Cond.selects RX6 yX6_hasHousehold yX6_hasHousehold, Cond.initialized RX6, Cond.code yX6_hasHousehold cX6_hasHousehold 2 (some .boolean), Cond.fieldLink RX6 37 "FlatLottery$State" "householdCount" "I", Cond.methodLink RX7 51 yX7_isWithin, Cond.static yX7_isWithin, Cond.initialized RX7, Cond.code yX7_isWithin cX7_isWithin 3 (some .boolean), Cond.methodLink RX7 59 yX1_record, Cond.instanceMethod yX1_record, Cond.selects RX1 yX1_record yX1_record, Cond.initialized RX1, Cond.code yX1_record cX1_record 2 none, Cond.fieldLink RX1 18 "FlatLottery$History" "size" "I", Cond.fieldLink RX1 11 "FlatLottery$History" "states" "[LFlatLottery$State;", Cond.methodLink RX1 22 yX1_dropOldest, Cond.instanceMethod yX1_dropOldest]
def wsX7_change_r2 : List Cond := [Cond.selects RX1 yX1_dropOldest yX1_dropOldest, Cond.code yX1_dropOldest cX1_dropOldest 3 none, Cond.methodLink RX1 25 yX6_copyFrom, Cond.instanceMethod yX6_copyFrom, Cond.selects RX6 yX6_copyFrom yX6_copyFrom, Cond.code yX6_copyFrom cX6_copyFrom 3 none, Cond.fieldLink RX6 29 "FlatLottery$State" "flatCount" "I", Cond.fieldLink RX6 11 "FlatLottery$State" "flats" "[LFlatLottery$Flat;", Cond.fieldLink RX6 19 "FlatLottery$State" "households" "[LFlatLottery$Household;", Cond.fieldLink RX6 43 "FlatLottery$State" "rounds" "I", Cond.fieldLink RX6 46 "FlatLottery$State" "refused" "I", Cond.fieldLink RX6 49 "FlatLottery$State" "declined" "I", Cond.methodLink RX6 33 yX0_copyFrom, Cond.instanceMethod yX0_copyFrom, Cond.selects RX0 yX0_copyFrom yX0_copyFrom, Cond.initialized RX0, Cond.code yX0_copyFrom cX0_copyFrom 2 none, Cond.fieldLink RX0 7 "FlatLottery$Flat" "rooms" "I", Cond.fieldLink RX0 13 "FlatLottery$Flat" "rent" "I", Cond.methodLink RX6 40 yX2_copyFrom, Cond.instanceMethod yX2_copyFrom, Cond.selects RX2 yX2_copyFrom yX2_copyFrom, Cond.initialized RX2, Cond.code yX2_copyFrom cX2_copyFrom 3 none]
def wsX7_change_r3 : List Cond := [Cond.fieldLink RX2 9 "FlatLottery$Household" "wishes" "[I", Cond.fieldLink RX2 15 "FlatLottery$Household" "wishCount" "I", Cond.fieldLink RX2 19 "FlatLottery$Household" "members" "I", Cond.fieldLink RX2 22 "FlatLottery$Household" "income" "I", Cond.fieldLink RX2 25 "FlatLottery$Household" "number" "I", Cond.fieldLink RX2 28 "FlatLottery$Household" "points" "I", Cond.fieldLink RX2 31 "FlatLottery$Household" "held" "I", Cond.fieldLink RX2 34 "FlatLottery$Household" "appeals" "I", Cond.fieldLink RX2 37 "FlatLottery$Household" "passedOver" "I"]
def wsX7_change : List Cond := .code yX7_change cX7_change 6 (some .int) :: ((wsX7_change_r1 ++ (wsX7_change_r2 ++ wsX7_change_r3)) ++ wsX70 ++ wsX60 ++ wsX20 ++ wsX10 ++ wsX00)
def wsX7_wish_r1 : List Cond := [Cond.fieldLink RX7 10 "FlatLottery" "state" "LFlatLottery$State;", Cond.fieldLink RX7 78 "FlatLottery$State" "households" "[LFlatLottery$Household;", Cond.fieldLink RX7 101 "FlatLottery$Household" "wishCount" "I", Cond.fieldLink RX7 26 "FlatLottery" "history" "LFlatLottery$History;", Cond.methodLink RX7 88 yX6_hasHousehold, Cond.instanceMethod yX6_hasHousehold, Cond.selects RX6 yX6_hasHousehold yX6_hasHousehold, Cond.initialized RX6, Cond.code yX6_hasHousehold cX6_hasHousehold 2 (some .boolean), Cond.fieldLink RX6 37 "FlatLottery$State" "householdCount" "I", Cond.methodLink RX7 98 yX6_hasFlat, Cond.instanceMethod yX6_hasFlat, Cond.selects RX6 yX6_hasFlat yX6_hasFlat, Cond.code yX6_hasFlat cX6_hasFlat 2 (some .boolean), Cond.fieldLink RX6 29 "FlatLottery$State" "flatCount" "I", Cond.methodLink RX7 104 yX2_placeOf, Cond.instanceMethod yX2_placeOf, Cond.selects RX2 yX2_placeOf yX2_placeOf, Cond.initialized RX2, Cond.code yX2_placeOf cX2_placeOf 3 (some .int), Cond.fieldLink RX2 15 "FlatLottery$Household" "wishCount" "I", Cond.fieldLink RX2 9 "FlatLottery$Household" "wishes" "[I", Cond.methodLink RX7 59 yX1_record, Cond.instanceMethod yX1_record]
def wsX7_wish_r2 : List Cond := [Cond.selects RX1 yX1_record yX1_record, Cond.initialized RX1, Cond.code yX1_record cX1_record 2 none, Cond.fieldLink RX1 18 "FlatLottery$History" "size" "I", Cond.fieldLink RX1 11 "FlatLottery$History" "states" "[LFlatLottery$State;", Cond.methodLink RX1 22 yX1_dropOldest, Cond.instanceMethod yX1_dropOldest, Cond.selects RX1 yX1_dropOldest yX1_dropOldest, Cond.code yX1_dropOldest cX1_dropOldest 3 none, Cond.methodLink RX1 25 yX6_copyFrom, Cond.instanceMethod yX6_copyFrom, Cond.selects RX6 yX6_copyFrom yX6_copyFrom, Cond.code yX6_copyFrom cX6_copyFrom 3 none, Cond.fieldLink RX6 11 "FlatLottery$State" "flats" "[LFlatLottery$Flat;", Cond.fieldLink RX6 19 "FlatLottery$State" "households" "[LFlatLottery$Household;", Cond.fieldLink RX6 43 "FlatLottery$State" "rounds" "I", Cond.fieldLink RX6 46 "FlatLottery$State" "refused" "I", Cond.fieldLink RX6 49 "FlatLottery$State" "declined" "I", Cond.methodLink RX6 33 yX0_copyFrom, Cond.instanceMethod yX0_copyFrom, Cond.selects RX0 yX0_copyFrom yX0_copyFrom, Cond.initialized RX0, Cond.code yX0_copyFrom cX0_copyFrom 2 none, Cond.fieldLink RX0 7 "FlatLottery$Flat" "rooms" "I"]
def wsX7_wish_r3 : List Cond := [Cond.fieldLink RX0 13 "FlatLottery$Flat" "rent" "I", Cond.methodLink RX6 40 yX2_copyFrom, Cond.instanceMethod yX2_copyFrom, Cond.selects RX2 yX2_copyFrom yX2_copyFrom, Cond.code yX2_copyFrom cX2_copyFrom 3 none, Cond.fieldLink RX2 19 "FlatLottery$Household" "members" "I", Cond.fieldLink RX2 22 "FlatLottery$Household" "income" "I", Cond.fieldLink RX2 25 "FlatLottery$Household" "number" "I", Cond.fieldLink RX2 28 "FlatLottery$Household" "points" "I", Cond.fieldLink RX2 31 "FlatLottery$Household" "held" "I", Cond.fieldLink RX2 34 "FlatLottery$Household" "appeals" "I", Cond.fieldLink RX2 37 "FlatLottery$Household" "passedOver" "I", Cond.methodLink RX7 108 yX2_addWish, Cond.instanceMethod yX2_addWish, Cond.selects RX2 yX2_addWish yX2_addWish, Cond.code yX2_addWish cX2_addWish 2 none]
def wsX7_wish : List Cond := .code yX7_wish cX7_wish 4 (some .int) :: ((wsX7_wish_r1 ++ (wsX7_wish_r2 ++ wsX7_wish_r3)) ++ wsX70 ++ wsX60 ++ wsX20 ++ wsX10 ++ wsX00)
def wsX7_unwish_r1 : List Cond := [Cond.fieldLink RX7 10 "FlatLottery" "state" "LFlatLottery$State;", Cond.fieldLink RX7 78 "FlatLottery$State" "households" "[LFlatLottery$Household;", Cond.fieldLink RX7 26 "FlatLottery" "history" "LFlatLottery$History;", Cond.methodLink RX7 88 yX6_hasHousehold, Cond.instanceMethod yX6_hasHousehold, Cond.selects RX6 yX6_hasHousehold yX6_hasHousehold, Cond.initialized RX6, Cond.code yX6_hasHousehold cX6_hasHousehold 2 (some .boolean), Cond.fieldLink RX6 37 "FlatLottery$State" "householdCount" "I", Cond.methodLink RX7 98 yX6_hasFlat, Cond.instanceMethod yX6_hasFlat, Cond.selects RX6 yX6_hasFlat yX6_hasFlat, Cond.code yX6_hasFlat cX6_hasFlat 2 (some .boolean), Cond.fieldLink RX6 29 "FlatLottery$State" "flatCount" "I", Cond.methodLink RX7 104 yX2_placeOf, Cond.instanceMethod yX2_placeOf, Cond.selects RX2 yX2_placeOf yX2_placeOf, Cond.initialized RX2, Cond.code yX2_placeOf cX2_placeOf 3 (some .int), Cond.fieldLink RX2 15 "FlatLottery$Household" "wishCount" "I", Cond.fieldLink RX2 9 "FlatLottery$Household" "wishes" "[I", Cond.methodLink RX7 59 yX1_record, Cond.instanceMethod yX1_record, Cond.selects RX1 yX1_record yX1_record]
def wsX7_unwish_r2 : List Cond := [Cond.initialized RX1, Cond.code yX1_record cX1_record 2 none, Cond.fieldLink RX1 18 "FlatLottery$History" "size" "I", Cond.fieldLink RX1 11 "FlatLottery$History" "states" "[LFlatLottery$State;", Cond.methodLink RX1 22 yX1_dropOldest, Cond.instanceMethod yX1_dropOldest, Cond.selects RX1 yX1_dropOldest yX1_dropOldest, Cond.code yX1_dropOldest cX1_dropOldest 3 none, Cond.methodLink RX1 25 yX6_copyFrom, Cond.instanceMethod yX6_copyFrom, Cond.selects RX6 yX6_copyFrom yX6_copyFrom, Cond.code yX6_copyFrom cX6_copyFrom 3 none, Cond.fieldLink RX6 11 "FlatLottery$State" "flats" "[LFlatLottery$Flat;", Cond.fieldLink RX6 19 "FlatLottery$State" "households" "[LFlatLottery$Household;", Cond.fieldLink RX6 43 "FlatLottery$State" "rounds" "I", Cond.fieldLink RX6 46 "FlatLottery$State" "refused" "I", Cond.fieldLink RX6 49 "FlatLottery$State" "declined" "I", Cond.methodLink RX6 33 yX0_copyFrom, Cond.instanceMethod yX0_copyFrom, Cond.selects RX0 yX0_copyFrom yX0_copyFrom, Cond.initialized RX0, Cond.code yX0_copyFrom cX0_copyFrom 2 none, Cond.fieldLink RX0 7 "FlatLottery$Flat" "rooms" "I", Cond.fieldLink RX0 13 "FlatLottery$Flat" "rent" "I"]
def wsX7_unwish_r3 : List Cond := [Cond.methodLink RX6 40 yX2_copyFrom, Cond.instanceMethod yX2_copyFrom, Cond.selects RX2 yX2_copyFrom yX2_copyFrom, Cond.code yX2_copyFrom cX2_copyFrom 3 none, Cond.fieldLink RX2 19 "FlatLottery$Household" "members" "I", Cond.fieldLink RX2 22 "FlatLottery$Household" "income" "I", Cond.fieldLink RX2 25 "FlatLottery$Household" "number" "I", Cond.fieldLink RX2 28 "FlatLottery$Household" "points" "I", Cond.fieldLink RX2 31 "FlatLottery$Household" "held" "I", Cond.fieldLink RX2 34 "FlatLottery$Household" "appeals" "I", Cond.fieldLink RX2 37 "FlatLottery$Household" "passedOver" "I", Cond.methodLink RX7 112 yX2_removeWish, Cond.instanceMethod yX2_removeWish, Cond.selects RX2 yX2_removeWish yX2_removeWish, Cond.code yX2_removeWish cX2_removeWish 4 none, Cond.methodLink RX2 40 yX2_placeOf]
def wsX7_unwish : List Cond := .code yX7_unwish cX7_unwish 5 (some .int) :: ((wsX7_unwish_r1 ++ (wsX7_unwish_r2 ++ wsX7_unwish_r3)) ++ wsX70 ++ wsX60 ++ wsX20 ++ wsX10 ++ wsX00)
def wsX7_readLists_r1 : List Cond := [Cond.fieldLink RX7 33 "FlatLottery" "text" "LFlatLottery$ListText;", Cond.fieldLink RX7 10 "FlatLottery" "state" "LFlatLottery$State;", Cond.fieldLink RX7 26 "FlatLottery" "history" "LFlatLottery$History;", Cond.fieldLink RX7 130 "FlatLottery$ListText" "listCount" "I", Cond.methodLink RX7 115 yX3_findFault, Cond.instanceMethod yX3_findFault, Cond.selects RX3 yX3_findFault yX3_findFault, Cond.initialized RX3, Cond.code yX3_findFault cX3_findFault 1 (some .int), Cond.fieldLink RX3 29 "FlatLottery$ListText" "at" "I", Cond.fieldLink RX3 32 "FlatLottery$ListText" "listCount" "I", Cond.methodLink RX3 35 yX3_readList, Cond.instanceMethod yX3_readList, Cond.selects RX3 yX3_readList yX3_readList, Cond.code yX3_readList cX3_readList 4 (some .boolean), Cond.fieldLink RX3 15 "FlatLottery$ListText" "listHousehold" "[I", Cond.fieldLink RX3 22 "FlatLottery$ListText" "listFlats" "[I", Cond.fieldLink RX3 19 "FlatLottery$ListText" "listSize" "[I", Cond.methodLink RX3 43 yX3_readNumber, Cond.instanceMethod yX3_readNumber, Cond.selects RX3 yX3_readNumber yX3_readNumber, Cond.code yX3_readNumber cX3_readNumber 3 (some .int), Cond.methodLink RX3 46 yX3_digitAtHand, Cond.instanceMethod yX3_digitAtHand]
def wsX7_readLists_r2 : List Cond := [Cond.selects RX3 yX3_digitAtHand yX3_digitAtHand, Cond.code yX3_digitAtHand cX3_digitAtHand 2 (some .int), Cond.methodLink RX3 39 yX3_atHand, Cond.instanceMethod yX3_atHand, Cond.selects RX3 yX3_atHand yX3_atHand, Cond.code yX3_atHand cX3_atHand 1 (some .int), Cond.fieldLink RX3 25 "FlatLottery$ListText" "length" "I", Cond.fieldLink RX3 9 "FlatLottery$ListText" "characters" "[C", Cond.methodLink RX7 119 yX3_namesOnlyKnown, Cond.instanceMethod yX3_namesOnlyKnown, Cond.selects RX3 yX3_namesOnlyKnown yX3_namesOnlyKnown, Cond.code yX3_namesOnlyKnown cX3_namesOnlyKnown 4 (some .boolean), Cond.methodLink RX3 49 yX6_hasHousehold, Cond.instanceMethod yX6_hasHousehold, Cond.selects RX6 yX6_hasHousehold yX6_hasHousehold, Cond.initialized RX6, Cond.code yX6_hasHousehold cX6_hasHousehold 2 (some .boolean), Cond.fieldLink RX6 37 "FlatLottery$State" "householdCount" "I", Cond.methodLink RX3 55 yX6_hasFlat, Cond.instanceMethod yX6_hasFlat, Cond.selects RX6 yX6_hasFlat yX6_hasFlat, Cond.code yX6_hasFlat cX6_hasFlat 2 (some .boolean), Cond.fieldLink RX6 29 "FlatLottery$State" "flatCount" "I", Cond.methodLink RX7 123 yX3_hasFlatTwiceInList]
def wsX7_readLists_r3 : List Cond := [Cond.instanceMethod yX3_hasFlatTwiceInList, Cond.selects RX3 yX3_hasFlatTwiceInList yX3_hasFlatTwiceInList, Cond.code yX3_hasFlatTwiceInList cX3_hasFlatTwiceInList 5 (some .boolean), Cond.methodLink RX7 59 yX1_record, Cond.instanceMethod yX1_record, Cond.selects RX1 yX1_record yX1_record, Cond.initialized RX1, Cond.code yX1_record cX1_record 2 none, Cond.fieldLink RX1 18 "FlatLottery$History" "size" "I", Cond.fieldLink RX1 11 "FlatLottery$History" "states" "[LFlatLottery$State;", Cond.methodLink RX1 22 yX1_dropOldest, Cond.instanceMethod yX1_dropOldest, Cond.selects RX1 yX1_dropOldest yX1_dropOldest, Cond.code yX1_dropOldest cX1_dropOldest 3 none, Cond.methodLink RX1 25 yX6_copyFrom, Cond.instanceMethod yX6_copyFrom, Cond.selects RX6 yX6_copyFrom yX6_copyFrom, Cond.code yX6_copyFrom cX6_copyFrom 3 none, Cond.fieldLink RX6 11 "FlatLottery$State" "flats" "[LFlatLottery$Flat;", Cond.fieldLink RX6 19 "FlatLottery$State" "households" "[LFlatLottery$Household;", Cond.fieldLink RX6 43 "FlatLottery$State" "rounds" "I", Cond.fieldLink RX6 46 "FlatLottery$State" "refused" "I", Cond.fieldLink RX6 49 "FlatLottery$State" "declined" "I", Cond.methodLink RX6 33 yX0_copyFrom]
def wsX7_readLists_r4 : List Cond := [Cond.instanceMethod yX0_copyFrom, Cond.selects RX0 yX0_copyFrom yX0_copyFrom, Cond.initialized RX0, Cond.code yX0_copyFrom cX0_copyFrom 2 none, Cond.fieldLink RX0 7 "FlatLottery$Flat" "rooms" "I", Cond.fieldLink RX0 13 "FlatLottery$Flat" "rent" "I", Cond.methodLink RX6 40 yX2_copyFrom, Cond.instanceMethod yX2_copyFrom, Cond.selects RX2 yX2_copyFrom yX2_copyFrom, Cond.initialized RX2, Cond.code yX2_copyFrom cX2_copyFrom 3 none, Cond.fieldLink RX2 9 "FlatLottery$Household" "wishes" "[I", Cond.fieldLink RX2 15 "FlatLottery$Household" "wishCount" "I", Cond.fieldLink RX2 19 "FlatLottery$Household" "members" "I", Cond.fieldLink RX2 22 "FlatLottery$Household" "income" "I", Cond.fieldLink RX2 25 "FlatLottery$Household" "number" "I", Cond.fieldLink RX2 28 "FlatLottery$Household" "points" "I", Cond.fieldLink RX2 31 "FlatLottery$Household" "held" "I", Cond.fieldLink RX2 34 "FlatLottery$Household" "appeals" "I", Cond.fieldLink RX2 37 "FlatLottery$Household" "passedOver" "I", Cond.methodLink RX7 127 yX3_layLists, Cond.instanceMethod yX3_layLists, Cond.selects RX3 yX3_layLists yX3_layLists, Cond.code yX3_layLists cX3_layLists 6 none]
def wsX7_readLists_r5 : List Cond := [Cond.fieldLink RX3 58 "FlatLottery$State" "households" "[LFlatLottery$Household;", Cond.fieldLink RX3 62 "FlatLottery$Household" "wishCount" "I", Cond.methodLink RX3 67 yX2_addWish, Cond.instanceMethod yX2_addWish, Cond.selects RX2 yX2_addWish yX2_addWish, Cond.code yX2_addWish cX2_addWish 2 none]
def wsX7_readLists : List Cond := .code yX7_readLists cX7_readLists 2 (some .int) :: ((wsX7_readLists_r1 ++ (wsX7_readLists_r2 ++ (wsX7_readLists_r3 ++ (wsX7_readLists_r4 ++ wsX7_readLists_r5)))) ++ wsX70 ++ wsX30 ++ wsX60 ++ wsX10 ++ wsX00 ++ wsX20)
def wsX7_draw_r1 : List Cond := [Cond.fieldLink RX7 10 "FlatLottery" "state" "LFlatLottery$State;", Cond.fieldLink RX7 26 "FlatLottery" "history" "LFlatLottery$History;", Cond.fieldLink RX7 78 "FlatLottery$State" "households" "[LFlatLottery$Household;", Cond.fieldLink RX7 136 "FlatLottery$Household" "number" "I", Cond.methodLink RX7 88 yX6_hasHousehold, Cond.instanceMethod yX6_hasHousehold, Cond.selects RX6 yX6_hasHousehold yX6_hasHousehold, Cond.initialized RX6, Cond.code yX6_hasHousehold cX6_hasHousehold 2 (some .boolean), Cond.fieldLink RX6 37 "FlatLottery$State" "householdCount" "I", Cond.methodLink RX7 51 yX7_isWithin, Cond.static yX7_isWithin, Cond.initialized RX7, Cond.code yX7_isWithin cX7_isWithin 3 (some .boolean), Cond.methodLink RX7 133 yX6_ownerOfNumber, Cond.instanceMethod yX6_ownerOfNumber, Cond.selects RX6 yX6_ownerOfNumber yX6_ownerOfNumber, Cond.code yX6_ownerOfNumber cX6_ownerOfNumber 3 (some .int), Cond.fieldLink RX6 19 "FlatLottery$State" "households" "[LFlatLottery$Household;", Cond.fieldLink RX6 55 "FlatLottery$Household" "number" "I", Cond.methodLink RX7 59 yX1_record, Cond.instanceMethod yX1_record, Cond.selects RX1 yX1_record yX1_record, Cond.initialized RX1]
def wsX7_draw_r2 : List Cond := [Cond.code yX1_record cX1_record 2 none, Cond.fieldLink RX1 18 "FlatLottery$History" "size" "I", Cond.fieldLink RX1 11 "FlatLottery$History" "states" "[LFlatLottery$State;", Cond.methodLink RX1 22 yX1_dropOldest, Cond.instanceMethod yX1_dropOldest, Cond.selects RX1 yX1_dropOldest yX1_dropOldest, Cond.code yX1_dropOldest cX1_dropOldest 3 none, Cond.methodLink RX1 25 yX6_copyFrom, Cond.instanceMethod yX6_copyFrom, Cond.selects RX6 yX6_copyFrom yX6_copyFrom, Cond.code yX6_copyFrom cX6_copyFrom 3 none, Cond.fieldLink RX6 29 "FlatLottery$State" "flatCount" "I", Cond.fieldLink RX6 11 "FlatLottery$State" "flats" "[LFlatLottery$Flat;", Cond.fieldLink RX6 43 "FlatLottery$State" "rounds" "I", Cond.fieldLink RX6 46 "FlatLottery$State" "refused" "I", Cond.fieldLink RX6 49 "FlatLottery$State" "declined" "I", Cond.methodLink RX6 33 yX0_copyFrom, Cond.instanceMethod yX0_copyFrom, Cond.selects RX0 yX0_copyFrom yX0_copyFrom, Cond.initialized RX0, Cond.code yX0_copyFrom cX0_copyFrom 2 none, Cond.fieldLink RX0 7 "FlatLottery$Flat" "rooms" "I", Cond.fieldLink RX0 13 "FlatLottery$Flat" "rent" "I", Cond.methodLink RX6 40 yX2_copyFrom]
def wsX7_draw_r3 : List Cond := [Cond.instanceMethod yX2_copyFrom, Cond.selects RX2 yX2_copyFrom yX2_copyFrom, Cond.initialized RX2, Cond.code yX2_copyFrom cX2_copyFrom 3 none, Cond.fieldLink RX2 9 "FlatLottery$Household" "wishes" "[I", Cond.fieldLink RX2 15 "FlatLottery$Household" "wishCount" "I", Cond.fieldLink RX2 19 "FlatLottery$Household" "members" "I", Cond.fieldLink RX2 22 "FlatLottery$Household" "income" "I", Cond.fieldLink RX2 25 "FlatLottery$Household" "number" "I", Cond.fieldLink RX2 28 "FlatLottery$Household" "points" "I", Cond.fieldLink RX2 31 "FlatLottery$Household" "held" "I", Cond.fieldLink RX2 34 "FlatLottery$Household" "appeals" "I", Cond.fieldLink RX2 37 "FlatLottery$Household" "passedOver" "I", Cond.methodLink RX7 139 yX6_countNumbered, Cond.instanceMethod yX6_countNumbered, Cond.selects RX6 yX6_countNumbered yX6_countNumbered, Cond.code yX6_countNumbered cX6_countNumbered 3 (some .int)]
def wsX7_draw : List Cond := .code yX7_draw cX7_draw 4 (some .int) :: ((wsX7_draw_r1 ++ (wsX7_draw_r2 ++ wsX7_draw_r3)) ++ wsX70 ++ wsX60 ++ wsX20 ++ wsX10 ++ wsX00)
def wsX7_round_r1 : List Cond := [Cond.fieldLink RX7 10 "FlatLottery" "state" "LFlatLottery$State;", Cond.fieldLink RX7 26 "FlatLottery" "history" "LFlatLottery$History;", Cond.fieldLink RX7 142 "FlatLottery$State" "rounds" "I", Cond.methodLink RX7 139 yX6_countNumbered, Cond.instanceMethod yX6_countNumbered, Cond.selects RX6 yX6_countNumbered yX6_countNumbered, Cond.initialized RX6, Cond.code yX6_countNumbered cX6_countNumbered 3 (some .int), Cond.fieldLink RX6 37 "FlatLottery$State" "householdCount" "I", Cond.fieldLink RX6 19 "FlatLottery$State" "households" "[LFlatLottery$Household;", Cond.fieldLink RX6 55 "FlatLottery$Household" "number" "I", Cond.methodLink RX7 59 yX1_record, Cond.instanceMethod yX1_record, Cond.selects RX1 yX1_record yX1_record, Cond.initialized RX1, Cond.code yX1_record cX1_record 2 none, Cond.fieldLink RX1 18 "FlatLottery$History" "size" "I", Cond.fieldLink RX1 11 "FlatLottery$History" "states" "[LFlatLottery$State;", Cond.methodLink RX1 22 yX1_dropOldest, Cond.instanceMethod yX1_dropOldest, Cond.selects RX1 yX1_dropOldest yX1_dropOldest, Cond.code yX1_dropOldest cX1_dropOldest 3 none, Cond.methodLink RX1 25 yX6_copyFrom, Cond.instanceMethod yX6_copyFrom]
def wsX7_round_r2 : List Cond := [Cond.selects RX6 yX6_copyFrom yX6_copyFrom, Cond.code yX6_copyFrom cX6_copyFrom 3 none, Cond.fieldLink RX6 29 "FlatLottery$State" "flatCount" "I", Cond.fieldLink RX6 11 "FlatLottery$State" "flats" "[LFlatLottery$Flat;", Cond.fieldLink RX6 43 "FlatLottery$State" "rounds" "I", Cond.fieldLink RX6 46 "FlatLottery$State" "refused" "I", Cond.fieldLink RX6 49 "FlatLottery$State" "declined" "I", Cond.methodLink RX6 33 yX0_copyFrom, Cond.instanceMethod yX0_copyFrom, Cond.selects RX0 yX0_copyFrom yX0_copyFrom, Cond.initialized RX0, Cond.code yX0_copyFrom cX0_copyFrom 2 none, Cond.fieldLink RX0 7 "FlatLottery$Flat" "rooms" "I", Cond.fieldLink RX0 13 "FlatLottery$Flat" "rent" "I", Cond.methodLink RX6 40 yX2_copyFrom, Cond.instanceMethod yX2_copyFrom, Cond.selects RX2 yX2_copyFrom yX2_copyFrom, Cond.initialized RX2, Cond.code yX2_copyFrom cX2_copyFrom 3 none, Cond.fieldLink RX2 9 "FlatLottery$Household" "wishes" "[I", Cond.fieldLink RX2 15 "FlatLottery$Household" "wishCount" "I", Cond.fieldLink RX2 19 "FlatLottery$Household" "members" "I", Cond.fieldLink RX2 22 "FlatLottery$Household" "income" "I", Cond.fieldLink RX2 25 "FlatLottery$Household" "number" "I"]
def wsX7_round_r3 : List Cond := [Cond.fieldLink RX2 28 "FlatLottery$Household" "points" "I", Cond.fieldLink RX2 31 "FlatLottery$Household" "held" "I", Cond.fieldLink RX2 34 "FlatLottery$Household" "appeals" "I", Cond.fieldLink RX2 37 "FlatLottery$Household" "passedOver" "I", Cond.methodLink RX7 145 yX6_giveFlatsInOrder, Cond.instanceMethod yX6_giveFlatsInOrder, Cond.selects RX6 yX6_giveFlatsInOrder yX6_giveFlatsInOrder, Cond.code yX6_giveFlatsInOrder cX6_giveFlatsInOrder 7 (some .int), Cond.fieldLink RX6 23 "FlatLottery$State" "order" "[I", Cond.fieldLink RX6 52 "FlatLottery$Household" "held" "I", Cond.fieldLink RX6 96 "FlatLottery$Household" "passedOver" "I", Cond.methodLink RX6 85 yX6_heldFlats, Cond.instanceMethod yX6_heldFlats, Cond.selects RX6 yX6_heldFlats yX6_heldFlats, Cond.code yX6_heldFlats cX6_heldFlats 4 (some .int), Cond.methodLink RX6 89 yX6_lineUp, Cond.instanceMethod yX6_lineUp, Cond.selects RX6 yX6_lineUp yX6_lineUp, Cond.code yX6_lineUp cX6_lineUp 4 (some .int), Cond.methodLink RX6 81 yX6_placeInOrder, Cond.instanceMethod yX6_placeInOrder, Cond.selects RX6 yX6_placeInOrder yX6_placeInOrder, Cond.code yX6_placeInOrder cX6_placeInOrder 4 (some .int), Cond.methodLink RX6 77 yX2_standsAheadOf]
def wsX7_round_r4 : List Cond := [Cond.instanceMethod yX2_standsAheadOf, Cond.selects RX2 yX2_standsAheadOf yX2_standsAheadOf, Cond.code yX2_standsAheadOf cX2_standsAheadOf 2 (some .boolean), Cond.methodLink RX6 92 yX6_firstWishOutside, Cond.instanceMethod yX6_firstWishOutside, Cond.selects RX6 yX6_firstWishOutside yX6_firstWishOutside, Cond.code yX6_firstWishOutside cX6_firstWishOutside 5 (some .int), Cond.fieldLink RX6 99 "FlatLottery$Household" "wishCount" "I", Cond.fieldLink RX6 102 "FlatLottery$Household" "wishes" "[I", Cond.methodLink RX6 62 yX6_isEligible, Cond.instanceMethod yX6_isEligible, Cond.selects RX6 yX6_isEligible yX6_isEligible, Cond.code yX6_isEligible cX6_isEligible 3 (some .boolean), Cond.methodLink RX6 66 yX6_hasFlat, Cond.instanceMethod yX6_hasFlat, Cond.selects RX6 yX6_hasFlat yX6_hasFlat, Cond.code yX6_hasFlat cX6_hasFlat 2 (some .boolean), Cond.methodLink RX6 70 yX2_isEligibleFor, Cond.instanceMethod yX2_isEligibleFor, Cond.selects RX2 yX2_isEligibleFor yX2_isEligibleFor, Cond.code yX2_isEligibleFor cX2_isEligibleFor 2 (some .boolean), Cond.fieldLink RX2 44 "FlatLottery$Flat" "rooms" "I", Cond.fieldLink RX2 49 "FlatLottery$Flat" "rent" "I"]
def wsX7_round : List Cond := .code yX7_round cX7_round 1 (some .int) :: ((wsX7_round_r1 ++ (wsX7_round_r2 ++ (wsX7_round_r3 ++ wsX7_round_r4))) ++ wsX70 ++ wsX60 ++ wsX20 ++ wsX10 ++ wsX00)
def wsX7_decline_r1 : List Cond := [Cond.fieldLink RX7 10 "FlatLottery" "state" "LFlatLottery$State;", Cond.fieldLink RX7 78 "FlatLottery$State" "households" "[LFlatLottery$Household;", Cond.fieldLink RX7 148 "FlatLottery$Household" "held" "I", Cond.fieldLink RX7 26 "FlatLottery" "history" "LFlatLottery$History;", Cond.fieldLink RX7 151 "FlatLottery$Household" "points" "I", Cond.methodLink RX7 154 Lib.Math.max.name, Cond.static Lib.Math.max.name, Cond.initialized "java/lang/Math", Cond.code Lib.Math.max.name Lib.Math.max.code 2 (some .int), Cond.fieldLink RX7 160 "FlatLottery$State" "declined" "I", Cond.methodLink RX7 88 yX6_hasHousehold, Cond.instanceMethod yX6_hasHousehold, Cond.selects RX6 yX6_hasHousehold yX6_hasHousehold, Cond.initialized RX6, Cond.code yX6_hasHousehold cX6_hasHousehold 2 (some .boolean), Cond.fieldLink RX6 37 "FlatLottery$State" "householdCount" "I", Cond.methodLink RX7 59 yX1_record, Cond.instanceMethod yX1_record, Cond.selects RX1 yX1_record yX1_record, Cond.initialized RX1, Cond.code yX1_record cX1_record 2 none, Cond.fieldLink RX1 18 "FlatLottery$History" "size" "I", Cond.fieldLink RX1 11 "FlatLottery$History" "states" "[LFlatLottery$State;", Cond.methodLink RX1 22 yX1_dropOldest]
def wsX7_decline_r2 : List Cond := [Cond.instanceMethod yX1_dropOldest, Cond.selects RX1 yX1_dropOldest yX1_dropOldest, Cond.code yX1_dropOldest cX1_dropOldest 3 none, Cond.methodLink RX1 25 yX6_copyFrom, Cond.instanceMethod yX6_copyFrom, Cond.selects RX6 yX6_copyFrom yX6_copyFrom, Cond.code yX6_copyFrom cX6_copyFrom 3 none, Cond.fieldLink RX6 29 "FlatLottery$State" "flatCount" "I", Cond.fieldLink RX6 11 "FlatLottery$State" "flats" "[LFlatLottery$Flat;", Cond.fieldLink RX6 19 "FlatLottery$State" "households" "[LFlatLottery$Household;", Cond.fieldLink RX6 43 "FlatLottery$State" "rounds" "I", Cond.fieldLink RX6 46 "FlatLottery$State" "refused" "I", Cond.fieldLink RX6 49 "FlatLottery$State" "declined" "I", Cond.methodLink RX6 33 yX0_copyFrom, Cond.instanceMethod yX0_copyFrom, Cond.selects RX0 yX0_copyFrom yX0_copyFrom, Cond.initialized RX0, Cond.code yX0_copyFrom cX0_copyFrom 2 none, Cond.fieldLink RX0 7 "FlatLottery$Flat" "rooms" "I", Cond.fieldLink RX0 13 "FlatLottery$Flat" "rent" "I", Cond.methodLink RX6 40 yX2_copyFrom, Cond.instanceMethod yX2_copyFrom, Cond.selects RX2 yX2_copyFrom yX2_copyFrom, Cond.initialized RX2]
def wsX7_decline_r3 : List Cond := [Cond.code yX2_copyFrom cX2_copyFrom 3 none, Cond.fieldLink RX2 9 "FlatLottery$Household" "wishes" "[I", Cond.fieldLink RX2 15 "FlatLottery$Household" "wishCount" "I", Cond.fieldLink RX2 19 "FlatLottery$Household" "members" "I", Cond.fieldLink RX2 22 "FlatLottery$Household" "income" "I", Cond.fieldLink RX2 25 "FlatLottery$Household" "number" "I", Cond.fieldLink RX2 28 "FlatLottery$Household" "points" "I", Cond.fieldLink RX2 31 "FlatLottery$Household" "held" "I", Cond.fieldLink RX2 34 "FlatLottery$Household" "appeals" "I", Cond.fieldLink RX2 37 "FlatLottery$Household" "passedOver" "I", Cond.methodLink RX7 112 yX2_removeWish, Cond.instanceMethod yX2_removeWish, Cond.selects RX2 yX2_removeWish yX2_removeWish, Cond.code yX2_removeWish cX2_removeWish 4 none, Cond.methodLink RX2 40 yX2_placeOf, Cond.instanceMethod yX2_placeOf, Cond.selects RX2 yX2_placeOf yX2_placeOf, Cond.code yX2_placeOf cX2_placeOf 3 (some .int)]
def wsX7_decline : List Cond := .code yX7_decline cX7_decline 4 (some .int) :: ((wsX7_decline_r1 ++ (wsX7_decline_r2 ++ wsX7_decline_r3)) ++ wsX70 ++ wsX60 ++ wsX20 ++ wsX10 ++ wsX00)
def wsX7_appeal_r1 : List Cond := [Cond.fieldLink RX7 10 "FlatLottery" "state" "LFlatLottery$State;", Cond.fieldLink RX7 78 "FlatLottery$State" "households" "[LFlatLottery$Household;", Cond.fieldLink RX7 163 "FlatLottery$Household" "appeals" "I", Cond.fieldLink RX7 26 "FlatLottery" "history" "LFlatLottery$History;", Cond.fieldLink RX7 170 "FlatLottery$State" "refused" "I", Cond.fieldLink RX7 151 "FlatLottery$Household" "points" "I", Cond.methodLink RX7 88 yX6_hasHousehold, Cond.instanceMethod yX6_hasHousehold, Cond.selects RX6 yX6_hasHousehold yX6_hasHousehold, Cond.initialized RX6, Cond.code yX6_hasHousehold cX6_hasHousehold 2 (some .boolean), Cond.fieldLink RX6 37 "FlatLottery$State" "householdCount" "I", Cond.methodLink RX7 51 yX7_isWithin, Cond.static yX7_isWithin, Cond.initialized RX7, Cond.code yX7_isWithin cX7_isWithin 3 (some .boolean), Cond.methodLink RX7 59 yX1_record, Cond.instanceMethod yX1_record, Cond.selects RX1 yX1_record yX1_record, Cond.initialized RX1, Cond.code yX1_record cX1_record 2 none, Cond.fieldLink RX1 18 "FlatLottery$History" "size" "I", Cond.fieldLink RX1 11 "FlatLottery$History" "states" "[LFlatLottery$State;", Cond.methodLink RX1 22 yX1_dropOldest]
def wsX7_appeal_r2 : List Cond := [Cond.instanceMethod yX1_dropOldest, Cond.selects RX1 yX1_dropOldest yX1_dropOldest, Cond.code yX1_dropOldest cX1_dropOldest 3 none, Cond.methodLink RX1 25 yX6_copyFrom, Cond.instanceMethod yX6_copyFrom, Cond.selects RX6 yX6_copyFrom yX6_copyFrom, Cond.code yX6_copyFrom cX6_copyFrom 3 none, Cond.fieldLink RX6 29 "FlatLottery$State" "flatCount" "I", Cond.fieldLink RX6 11 "FlatLottery$State" "flats" "[LFlatLottery$Flat;", Cond.fieldLink RX6 19 "FlatLottery$State" "households" "[LFlatLottery$Household;", Cond.fieldLink RX6 43 "FlatLottery$State" "rounds" "I", Cond.fieldLink RX6 46 "FlatLottery$State" "refused" "I", Cond.fieldLink RX6 49 "FlatLottery$State" "declined" "I", Cond.methodLink RX6 33 yX0_copyFrom, Cond.instanceMethod yX0_copyFrom, Cond.selects RX0 yX0_copyFrom yX0_copyFrom, Cond.initialized RX0, Cond.code yX0_copyFrom cX0_copyFrom 2 none, Cond.fieldLink RX0 7 "FlatLottery$Flat" "rooms" "I", Cond.fieldLink RX0 13 "FlatLottery$Flat" "rent" "I", Cond.methodLink RX6 40 yX2_copyFrom, Cond.instanceMethod yX2_copyFrom, Cond.selects RX2 yX2_copyFrom yX2_copyFrom, Cond.initialized RX2]
def wsX7_appeal_r3 : List Cond := [Cond.code yX2_copyFrom cX2_copyFrom 3 none, Cond.fieldLink RX2 9 "FlatLottery$Household" "wishes" "[I", Cond.fieldLink RX2 15 "FlatLottery$Household" "wishCount" "I", Cond.fieldLink RX2 19 "FlatLottery$Household" "members" "I", Cond.fieldLink RX2 22 "FlatLottery$Household" "income" "I", Cond.fieldLink RX2 25 "FlatLottery$Household" "number" "I", Cond.fieldLink RX2 28 "FlatLottery$Household" "points" "I", Cond.fieldLink RX2 31 "FlatLottery$Household" "held" "I", Cond.fieldLink RX2 34 "FlatLottery$Household" "appeals" "I", Cond.fieldLink RX2 37 "FlatLottery$Household" "passedOver" "I", Cond.methodLink RX7 166 yX6_reasonHolds, Cond.instanceMethod yX6_reasonHolds, Cond.selects RX6 yX6_reasonHolds yX6_reasonHolds, Cond.code yX6_reasonHolds cX6_reasonHolds 3 (some .boolean), Cond.methodLink RX6 105 yX6_isPassedOver, Cond.instanceMethod yX6_isPassedOver, Cond.selects RX6 yX6_isPassedOver yX6_isPassedOver, Cond.code yX6_isPassedOver cX6_isPassedOver 2 (some .boolean), Cond.fieldLink RX6 55 "FlatLottery$Household" "number" "I", Cond.fieldLink RX6 52 "FlatLottery$Household" "held" "I", Cond.fieldLink RX6 96 "FlatLottery$Household" "passedOver" "I", Cond.methodLink RX6 108 yX6_isCrowded, Cond.instanceMethod yX6_isCrowded, Cond.selects RX6 yX6_isCrowded yX6_isCrowded]
def wsX7_appeal_r4 : List Cond := [Cond.code yX6_isCrowded cX6_isCrowded 2 (some .boolean), Cond.fieldLink RX6 114 "FlatLottery$Household" "members" "I", Cond.fieldLink RX6 117 "FlatLottery$Flat" "rooms" "I", Cond.methodLink RX6 66 yX6_hasFlat, Cond.instanceMethod yX6_hasFlat, Cond.selects RX6 yX6_hasFlat yX6_hasFlat, Cond.code yX6_hasFlat cX6_hasFlat 2 (some .boolean), Cond.methodLink RX6 111 yX6_isWronged, Cond.instanceMethod yX6_isWronged, Cond.selects RX6 yX6_isWronged yX6_isWronged, Cond.code yX6_isWronged cX6_isWronged 3 (some .boolean), Cond.methodLink RX6 120 yX6_envyOf, Cond.instanceMethod yX6_envyOf, Cond.selects RX6 yX6_envyOf yX6_envyOf, Cond.code yX6_envyOf cX6_envyOf 4 (some .int), Cond.methodLink RX6 124 yX2_wishesMoreThanItsOwn, Cond.instanceMethod yX2_wishesMoreThanItsOwn, Cond.selects RX2 yX2_wishesMoreThanItsOwn yX2_wishesMoreThanItsOwn, Cond.code yX2_wishesMoreThanItsOwn cX2_wishesMoreThanItsOwn 4 (some .boolean), Cond.methodLink RX2 40 yX2_placeOf, Cond.instanceMethod yX2_placeOf, Cond.selects RX2 yX2_placeOf yX2_placeOf, Cond.code yX2_placeOf cX2_placeOf 3 (some .int), Cond.methodLink RX6 62 yX6_isEligible]
def wsX7_appeal_r5 : List Cond := [Cond.instanceMethod yX6_isEligible, Cond.selects RX6 yX6_isEligible yX6_isEligible, Cond.code yX6_isEligible cX6_isEligible 3 (some .boolean), Cond.methodLink RX6 70 yX2_isEligibleFor, Cond.instanceMethod yX2_isEligibleFor, Cond.selects RX2 yX2_isEligibleFor yX2_isEligibleFor, Cond.code yX2_isEligibleFor cX2_isEligibleFor 2 (some .boolean), Cond.fieldLink RX2 44 "FlatLottery$Flat" "rooms" "I", Cond.fieldLink RX2 49 "FlatLottery$Flat" "rent" "I", Cond.methodLink RX6 77 yX2_standsAheadOf, Cond.instanceMethod yX2_standsAheadOf, Cond.selects RX2 yX2_standsAheadOf yX2_standsAheadOf, Cond.code yX2_standsAheadOf cX2_standsAheadOf 2 (some .boolean)]
def wsX7_appeal : List Cond := .code yX7_appeal cX7_appeal 5 (some .int) :: ((wsX7_appeal_r1 ++ (wsX7_appeal_r2 ++ (wsX7_appeal_r3 ++ (wsX7_appeal_r4 ++ wsX7_appeal_r5)))) ++ wsX70 ++ wsX60 ++ wsX20 ++ wsX10 ++ wsX00)
def wsX7_swap_r1 : List Cond := [Cond.fieldLink RX7 40 "FlatLottery" "rings" "LFlatLottery$Rings;", Cond.fieldLink RX7 10 "FlatLottery" "state" "LFlatLottery$State;", Cond.fieldLink RX7 26 "FlatLottery" "history" "LFlatLottery$History;", Cond.methodLink RX7 173 yX5_lookAt, Cond.instanceMethod yX5_lookAt, Cond.selects RX5 yX5_lookAt yX5_lookAt, Cond.initialized RX5, Cond.code yX5_lookAt cX5_lookAt 3 none, Cond.fieldLink RX5 15 "FlatLottery$State" "householdCount" "I", Cond.fieldLink RX5 21 "FlatLottery$Rings" "size" "I", Cond.fieldLink RX5 9 "FlatLottery$Rings" "pointed" "[I", Cond.fieldLink RX5 24 "FlatLottery$State" "households" "[LFlatLottery$Household;", Cond.methodLink RX5 28 yX6_pointsTo, Cond.instanceMethod yX6_pointsTo, Cond.selects RX6 yX6_pointsTo yX6_pointsTo, Cond.initialized RX6, Cond.code yX6_pointsTo cX6_pointsTo 5 (some .int), Cond.fieldLink RX6 52 "FlatLottery$Household" "held" "I", Cond.fieldLink RX6 99 "FlatLottery$Household" "wishCount" "I", Cond.fieldLink RX6 102 "FlatLottery$Household" "wishes" "[I", Cond.methodLink RX6 124 yX2_wishesMoreThanItsOwn, Cond.instanceMethod yX2_wishesMoreThanItsOwn, Cond.selects RX2 yX2_wishesMoreThanItsOwn yX2_wishesMoreThanItsOwn, Cond.initialized RX2]
def wsX7_swap_r2 : List Cond := [Cond.code yX2_wishesMoreThanItsOwn cX2_wishesMoreThanItsOwn 4 (some .boolean), Cond.fieldLink RX2 31 "FlatLottery$Household" "held" "I", Cond.methodLink RX2 40 yX2_placeOf, Cond.instanceMethod yX2_placeOf, Cond.selects RX2 yX2_placeOf yX2_placeOf, Cond.code yX2_placeOf cX2_placeOf 3 (some .int), Cond.fieldLink RX2 15 "FlatLottery$Household" "wishCount" "I", Cond.fieldLink RX2 9 "FlatLottery$Household" "wishes" "[I", Cond.methodLink RX6 127 yX6_holderOf, Cond.instanceMethod yX6_holderOf, Cond.selects RX6 yX6_holderOf yX6_holderOf, Cond.code yX6_holderOf cX6_holderOf 3 (some .int), Cond.fieldLink RX6 37 "FlatLottery$State" "householdCount" "I", Cond.fieldLink RX6 19 "FlatLottery$State" "households" "[LFlatLottery$Household;", Cond.methodLink RX6 62 yX6_isEligible, Cond.instanceMethod yX6_isEligible, Cond.selects RX6 yX6_isEligible yX6_isEligible, Cond.code yX6_isEligible cX6_isEligible 3 (some .boolean), Cond.fieldLink RX6 11 "FlatLottery$State" "flats" "[LFlatLottery$Flat;", Cond.methodLink RX6 66 yX6_hasFlat, Cond.instanceMethod yX6_hasFlat, Cond.selects RX6 yX6_hasFlat yX6_hasFlat, Cond.code yX6_hasFlat cX6_hasFlat 2 (some .boolean), Cond.fieldLink RX6 29 "FlatLottery$State" "flatCount" "I"]
def wsX7_swap_r3 : List Cond := [Cond.methodLink RX6 70 yX2_isEligibleFor, Cond.instanceMethod yX2_isEligibleFor, Cond.selects RX2 yX2_isEligibleFor yX2_isEligibleFor, Cond.code yX2_isEligibleFor cX2_isEligibleFor 2 (some .boolean), Cond.fieldLink RX2 19 "FlatLottery$Household" "members" "I", Cond.fieldLink RX2 44 "FlatLottery$Flat" "rooms" "I", Cond.fieldLink RX2 49 "FlatLottery$Flat" "rent" "I", Cond.fieldLink RX2 22 "FlatLottery$Household" "income" "I", Cond.methodLink RX7 176 yX5_lowestHousehold, Cond.instanceMethod yX5_lowestHousehold, Cond.selects RX5 yX5_lowestHousehold yX5_lowestHousehold, Cond.code yX5_lowestHousehold cX5_lowestHousehold 2 (some .int), Cond.methodLink RX5 36 yX5_isInRing, Cond.instanceMethod yX5_isInRing, Cond.selects RX5 yX5_isInRing yX5_isInRing, Cond.code yX5_isInRing cX5_isInRing 4 (some .boolean), Cond.methodLink RX5 32 yX5_after, Cond.instanceMethod yX5_after, Cond.selects RX5 yX5_after yX5_after, Cond.code yX5_after cX5_after 2 (some .int), Cond.methodLink RX7 59 yX1_record, Cond.instanceMethod yX1_record, Cond.selects RX1 yX1_record yX1_record, Cond.initialized RX1]
def wsX7_swap_r4 : List Cond := [Cond.code yX1_record cX1_record 2 none, Cond.fieldLink RX1 18 "FlatLottery$History" "size" "I", Cond.fieldLink RX1 11 "FlatLottery$History" "states" "[LFlatLottery$State;", Cond.methodLink RX1 22 yX1_dropOldest, Cond.instanceMethod yX1_dropOldest, Cond.selects RX1 yX1_dropOldest yX1_dropOldest, Cond.code yX1_dropOldest cX1_dropOldest 3 none, Cond.methodLink RX1 25 yX6_copyFrom, Cond.instanceMethod yX6_copyFrom, Cond.selects RX6 yX6_copyFrom yX6_copyFrom, Cond.code yX6_copyFrom cX6_copyFrom 3 none, Cond.fieldLink RX6 43 "FlatLottery$State" "rounds" "I", Cond.fieldLink RX6 46 "FlatLottery$State" "refused" "I", Cond.fieldLink RX6 49 "FlatLottery$State" "declined" "I", Cond.methodLink RX6 33 yX0_copyFrom, Cond.instanceMethod yX0_copyFrom, Cond.selects RX0 yX0_copyFrom yX0_copyFrom, Cond.initialized RX0, Cond.code yX0_copyFrom cX0_copyFrom 2 none, Cond.fieldLink RX0 7 "FlatLottery$Flat" "rooms" "I", Cond.fieldLink RX0 13 "FlatLottery$Flat" "rent" "I", Cond.methodLink RX6 40 yX2_copyFrom, Cond.instanceMethod yX2_copyFrom, Cond.selects RX2 yX2_copyFrom yX2_copyFrom]
def wsX7_swap_r5 : List Cond := [Cond.code yX2_copyFrom cX2_copyFrom 3 none, Cond.fieldLink RX2 25 "FlatLottery$Household" "number" "I", Cond.fieldLink RX2 28 "FlatLottery$Household" "points" "I", Cond.fieldLink RX2 34 "FlatLottery$Household" "appeals" "I", Cond.fieldLink RX2 37 "FlatLottery$Household" "passedOver" "I", Cond.methodLink RX7 179 yX5_swapAll, Cond.instanceMethod yX5_swapAll, Cond.selects RX5 yX5_swapAll yX5_swapAll, Cond.code yX5_swapAll cX5_swapAll 5 (some .int), Cond.methodLink RX5 40 yX5_lookAt, Cond.methodLink RX5 44 yX5_lowestHousehold, Cond.methodLink RX5 48 yX5_swapRingOf, Cond.instanceMethod yX5_swapRingOf, Cond.selects RX5 yX5_swapRingOf yX5_swapRingOf, Cond.code yX5_swapRingOf cX5_swapRingOf 7 (some .int), Cond.fieldLink RX5 52 "FlatLottery$Household" "held" "I"]
def wsX7_swap : List Cond := .code yX7_swap cX7_swap 1 (some .int) :: ((wsX7_swap_r1 ++ (wsX7_swap_r2 ++ (wsX7_swap_r3 ++ (wsX7_swap_r4 ++ wsX7_swap_r5)))) ++ wsX70 ++ wsX60 ++ wsX50 ++ wsX20 ++ wsX00 ++ wsX10)
def wsX7_moveOut_r1 : List Cond := [Cond.fieldLink RX7 10 "FlatLottery" "state" "LFlatLottery$State;", Cond.fieldLink RX7 78 "FlatLottery$State" "households" "[LFlatLottery$Household;", Cond.fieldLink RX7 148 "FlatLottery$Household" "held" "I", Cond.fieldLink RX7 26 "FlatLottery" "history" "LFlatLottery$History;", Cond.methodLink RX7 88 yX6_hasHousehold, Cond.instanceMethod yX6_hasHousehold, Cond.selects RX6 yX6_hasHousehold yX6_hasHousehold, Cond.initialized RX6, Cond.code yX6_hasHousehold cX6_hasHousehold 2 (some .boolean), Cond.fieldLink RX6 37 "FlatLottery$State" "householdCount" "I", Cond.methodLink RX7 59 yX1_record, Cond.instanceMethod yX1_record, Cond.selects RX1 yX1_record yX1_record, Cond.initialized RX1, Cond.code yX1_record cX1_record 2 none, Cond.fieldLink RX1 18 "FlatLottery$History" "size" "I", Cond.fieldLink RX1 11 "FlatLottery$History" "states" "[LFlatLottery$State;", Cond.methodLink RX1 22 yX1_dropOldest, Cond.instanceMethod yX1_dropOldest, Cond.selects RX1 yX1_dropOldest yX1_dropOldest, Cond.code yX1_dropOldest cX1_dropOldest 3 none, Cond.methodLink RX1 25 yX6_copyFrom, Cond.instanceMethod yX6_copyFrom, Cond.selects RX6 yX6_copyFrom yX6_copyFrom]
def wsX7_moveOut_r2 : List Cond := [Cond.code yX6_copyFrom cX6_copyFrom 3 none, Cond.fieldLink RX6 29 "FlatLottery$State" "flatCount" "I", Cond.fieldLink RX6 11 "FlatLottery$State" "flats" "[LFlatLottery$Flat;", Cond.fieldLink RX6 19 "FlatLottery$State" "households" "[LFlatLottery$Household;", Cond.fieldLink RX6 43 "FlatLottery$State" "rounds" "I", Cond.fieldLink RX6 46 "FlatLottery$State" "refused" "I", Cond.fieldLink RX6 49 "FlatLottery$State" "declined" "I", Cond.methodLink RX6 33 yX0_copyFrom, Cond.instanceMethod yX0_copyFrom, Cond.selects RX0 yX0_copyFrom yX0_copyFrom, Cond.initialized RX0, Cond.code yX0_copyFrom cX0_copyFrom 2 none, Cond.fieldLink RX0 7 "FlatLottery$Flat" "rooms" "I", Cond.fieldLink RX0 13 "FlatLottery$Flat" "rent" "I", Cond.methodLink RX6 40 yX2_copyFrom, Cond.instanceMethod yX2_copyFrom, Cond.selects RX2 yX2_copyFrom yX2_copyFrom, Cond.initialized RX2, Cond.code yX2_copyFrom cX2_copyFrom 3 none, Cond.fieldLink RX2 9 "FlatLottery$Household" "wishes" "[I", Cond.fieldLink RX2 15 "FlatLottery$Household" "wishCount" "I", Cond.fieldLink RX2 19 "FlatLottery$Household" "members" "I", Cond.fieldLink RX2 22 "FlatLottery$Household" "income" "I", Cond.fieldLink RX2 25 "FlatLottery$Household" "number" "I"]
def wsX7_moveOut_r3 : List Cond := [Cond.fieldLink RX2 28 "FlatLottery$Household" "points" "I", Cond.fieldLink RX2 31 "FlatLottery$Household" "held" "I", Cond.fieldLink RX2 34 "FlatLottery$Household" "appeals" "I", Cond.fieldLink RX2 37 "FlatLottery$Household" "passedOver" "I"]
def wsX7_moveOut : List Cond := .code yX7_moveOut cX7_moveOut 4 (some .int) :: ((wsX7_moveOut_r1 ++ (wsX7_moveOut_r2 ++ wsX7_moveOut_r3)) ++ wsX70 ++ wsX60 ++ wsX20 ++ wsX10 ++ wsX00)
def wsX7_type : List Cond := .code yX7_type cX7_type 2 (some .int) :: ([.fieldLink RX7 33 "FlatLottery" "text" "LFlatLottery$ListText;", .fieldLink RX7 187 "FlatLottery$ListText" "length" "I", .methodLink RX7 183 yX3_append, .instanceMethod yX3_append, .selects RX3 yX3_append yX3_append, .initialized RX3, .code yX3_append cX3_append 2 (some .boolean), .fieldLink RX3 25 "FlatLottery$ListText" "length" "I", .fieldLink RX3 9 "FlatLottery$ListText" "characters" "[C"] ++ wsX70 ++ wsX30)
def wsX7_clearText : List Cond := .code yX7_clearText cX7_clearText 2 (some .int) :: ([.fieldLink RX7 33 "FlatLottery" "text" "LFlatLottery$ListText;", .fieldLink RX7 187 "FlatLottery$ListText" "length" "I"] ++ wsX70 ++ wsX30)
def wsX7_undo_r1 : List Cond := [Cond.fieldLink RX7 26 "FlatLottery" "history" "LFlatLottery$History;", Cond.fieldLink RX7 190 "FlatLottery$History" "size" "I", Cond.fieldLink RX7 10 "FlatLottery" "state" "LFlatLottery$State;", Cond.methodLink RX7 193 yX1_takeBack, Cond.instanceMethod yX1_takeBack, Cond.selects RX1 yX1_takeBack yX1_takeBack, Cond.initialized RX1, Cond.code yX1_takeBack cX1_takeBack 2 none, Cond.fieldLink RX1 18 "FlatLottery$History" "size" "I", Cond.fieldLink RX1 11 "FlatLottery$History" "states" "[LFlatLottery$State;", Cond.methodLink RX1 25 yX6_copyFrom, Cond.instanceMethod yX6_copyFrom, Cond.selects RX6 yX6_copyFrom yX6_copyFrom, Cond.initialized RX6, Cond.code yX6_copyFrom cX6_copyFrom 3 none, Cond.fieldLink RX6 29 "FlatLottery$State" "flatCount" "I", Cond.fieldLink RX6 11 "FlatLottery$State" "flats" "[LFlatLottery$Flat;", Cond.fieldLink RX6 37 "FlatLottery$State" "householdCount" "I", Cond.fieldLink RX6 19 "FlatLottery$State" "households" "[LFlatLottery$Household;", Cond.fieldLink RX6 43 "FlatLottery$State" "rounds" "I", Cond.fieldLink RX6 46 "FlatLottery$State" "refused" "I", Cond.fieldLink RX6 49 "FlatLottery$State" "declined" "I", Cond.methodLink RX6 33 yX0_copyFrom, Cond.instanceMethod yX0_copyFrom]
def wsX7_undo_r2 : List Cond := [Cond.selects RX0 yX0_copyFrom yX0_copyFrom, Cond.initialized RX0, Cond.code yX0_copyFrom cX0_copyFrom 2 none, Cond.fieldLink RX0 7 "FlatLottery$Flat" "rooms" "I", Cond.fieldLink RX0 13 "FlatLottery$Flat" "rent" "I", Cond.methodLink RX6 40 yX2_copyFrom, Cond.instanceMethod yX2_copyFrom, Cond.selects RX2 yX2_copyFrom yX2_copyFrom, Cond.initialized RX2, Cond.code yX2_copyFrom cX2_copyFrom 3 none, Cond.fieldLink RX2 9 "FlatLottery$Household" "wishes" "[I", Cond.fieldLink RX2 15 "FlatLottery$Household" "wishCount" "I", Cond.fieldLink RX2 19 "FlatLottery$Household" "members" "I", Cond.fieldLink RX2 22 "FlatLottery$Household" "income" "I", Cond.fieldLink RX2 25 "FlatLottery$Household" "number" "I", Cond.fieldLink RX2 28 "FlatLottery$Household" "points" "I", Cond.fieldLink RX2 31 "FlatLottery$Household" "held" "I", Cond.fieldLink RX2 34 "FlatLottery$Household" "appeals" "I", Cond.fieldLink RX2 37 "FlatLottery$Household" "passedOver" "I"]
def wsX7_undo : List Cond := .code yX7_undo cX7_undo 1 (some .int) :: ((wsX7_undo_r1 ++ wsX7_undo_r2) ++ wsX70 ++ wsX10 ++ wsX60 ++ wsX00 ++ wsX20)
def wsX7_keep_r1 : List Cond := [Cond.fieldLink RX7 16 "FlatLottery" "snapshot" "LFlatLottery$State;", Cond.fieldLink RX7 10 "FlatLottery" "state" "LFlatLottery$State;", Cond.fieldLink RX7 19 "FlatLottery" "hasSnapshot" "Z", Cond.methodLink RX7 196 yX6_copyFrom, Cond.instanceMethod yX6_copyFrom, Cond.selects RX6 yX6_copyFrom yX6_copyFrom, Cond.initialized RX6, Cond.code yX6_copyFrom cX6_copyFrom 3 none, Cond.fieldLink RX6 29 "FlatLottery$State" "flatCount" "I", Cond.fieldLink RX6 11 "FlatLottery$State" "flats" "[LFlatLottery$Flat;", Cond.fieldLink RX6 37 "FlatLottery$State" "householdCount" "I", Cond.fieldLink RX6 19 "FlatLottery$State" "households" "[LFlatLottery$Household;", Cond.fieldLink RX6 43 "FlatLottery$State" "rounds" "I", Cond.fieldLink RX6 46 "FlatLottery$State" "refused" "I", Cond.fieldLink RX6 49 "FlatLottery$State" "declined" "I", Cond.methodLink RX6 33 yX0_copyFrom, Cond.instanceMethod yX0_copyFrom, Cond.selects RX0 yX0_copyFrom yX0_copyFrom, Cond.initialized RX0, Cond.code yX0_copyFrom cX0_copyFrom 2 none, Cond.fieldLink RX0 7 "FlatLottery$Flat" "rooms" "I", Cond.fieldLink RX0 13 "FlatLottery$Flat" "rent" "I", Cond.methodLink RX6 40 yX2_copyFrom, Cond.instanceMethod yX2_copyFrom]
def wsX7_keep_r2 : List Cond := [Cond.selects RX2 yX2_copyFrom yX2_copyFrom, Cond.initialized RX2, Cond.code yX2_copyFrom cX2_copyFrom 3 none, Cond.fieldLink RX2 9 "FlatLottery$Household" "wishes" "[I", Cond.fieldLink RX2 15 "FlatLottery$Household" "wishCount" "I", Cond.fieldLink RX2 19 "FlatLottery$Household" "members" "I", Cond.fieldLink RX2 22 "FlatLottery$Household" "income" "I", Cond.fieldLink RX2 25 "FlatLottery$Household" "number" "I", Cond.fieldLink RX2 28 "FlatLottery$Household" "points" "I", Cond.fieldLink RX2 31 "FlatLottery$Household" "held" "I", Cond.fieldLink RX2 34 "FlatLottery$Household" "appeals" "I", Cond.fieldLink RX2 37 "FlatLottery$Household" "passedOver" "I", Cond.methodLink RX7 199 yX6_countHeld, Cond.instanceMethod yX6_countHeld, Cond.selects RX6 yX6_countHeld yX6_countHeld, Cond.code yX6_countHeld cX6_countHeld 3 (some .int), Cond.fieldLink RX6 52 "FlatLottery$Household" "held" "I"]
def wsX7_keep : List Cond := .code yX7_keep cX7_keep 1 (some .int) :: ((wsX7_keep_r1 ++ wsX7_keep_r2) ++ wsX70 ++ wsX60 ++ wsX00 ++ wsX20)
def wsX7_restore_r1 : List Cond := [Cond.fieldLink RX7 19 "FlatLottery" "hasSnapshot" "Z", Cond.fieldLink RX7 26 "FlatLottery" "history" "LFlatLottery$History;", Cond.fieldLink RX7 10 "FlatLottery" "state" "LFlatLottery$State;", Cond.fieldLink RX7 16 "FlatLottery" "snapshot" "LFlatLottery$State;", Cond.methodLink RX7 59 yX1_record, Cond.instanceMethod yX1_record, Cond.selects RX1 yX1_record yX1_record, Cond.initialized RX1, Cond.code yX1_record cX1_record 2 none, Cond.fieldLink RX1 18 "FlatLottery$History" "size" "I", Cond.fieldLink RX1 11 "FlatLottery$History" "states" "[LFlatLottery$State;", Cond.methodLink RX1 22 yX1_dropOldest, Cond.instanceMethod yX1_dropOldest, Cond.selects RX1 yX1_dropOldest yX1_dropOldest, Cond.code yX1_dropOldest cX1_dropOldest 3 none, Cond.methodLink RX1 25 yX6_copyFrom, Cond.instanceMethod yX6_copyFrom, Cond.selects RX6 yX6_copyFrom yX6_copyFrom, Cond.initialized RX6, Cond.code yX6_copyFrom cX6_copyFrom 3 none, Cond.fieldLink RX6 29 "FlatLottery$State" "flatCount" "I", Cond.fieldLink RX6 11 "FlatLottery$State" "flats" "[LFlatLottery$Flat;", Cond.fieldLink RX6 37 "FlatLottery$State" "householdCount" "I", Cond.fieldLink RX6 19 "FlatLottery$State" "households" "[LFlatLottery$Household;"]
def wsX7_restore_r2 : List Cond := [Cond.fieldLink RX6 43 "FlatLottery$State" "rounds" "I", Cond.fieldLink RX6 46 "FlatLottery$State" "refused" "I", Cond.fieldLink RX6 49 "FlatLottery$State" "declined" "I", Cond.methodLink RX6 33 yX0_copyFrom, Cond.instanceMethod yX0_copyFrom, Cond.selects RX0 yX0_copyFrom yX0_copyFrom, Cond.initialized RX0, Cond.code yX0_copyFrom cX0_copyFrom 2 none, Cond.fieldLink RX0 7 "FlatLottery$Flat" "rooms" "I", Cond.fieldLink RX0 13 "FlatLottery$Flat" "rent" "I", Cond.methodLink RX6 40 yX2_copyFrom, Cond.instanceMethod yX2_copyFrom, Cond.selects RX2 yX2_copyFrom yX2_copyFrom, Cond.initialized RX2, Cond.code yX2_copyFrom cX2_copyFrom 3 none, Cond.fieldLink RX2 9 "FlatLottery$Household" "wishes" "[I", Cond.fieldLink RX2 15 "FlatLottery$Household" "wishCount" "I", Cond.fieldLink RX2 19 "FlatLottery$Household" "members" "I", Cond.fieldLink RX2 22 "FlatLottery$Household" "income" "I", Cond.fieldLink RX2 25 "FlatLottery$Household" "number" "I", Cond.fieldLink RX2 28 "FlatLottery$Household" "points" "I", Cond.fieldLink RX2 31 "FlatLottery$Household" "held" "I", Cond.fieldLink RX2 34 "FlatLottery$Household" "appeals" "I", Cond.fieldLink RX2 37 "FlatLottery$Household" "passedOver" "I"]
def wsX7_restore_r3 : List Cond := [Cond.methodLink RX7 196 yX6_copyFrom, Cond.methodLink RX7 199 yX6_countHeld, Cond.instanceMethod yX6_countHeld, Cond.selects RX6 yX6_countHeld yX6_countHeld, Cond.code yX6_countHeld cX6_countHeld 3 (some .int), Cond.fieldLink RX6 52 "FlatLottery$Household" "held" "I"]
def wsX7_restore : List Cond := .code yX7_restore cX7_restore 1 (some .int) :: ((wsX7_restore_r1 ++ (wsX7_restore_r2 ++ wsX7_restore_r3)) ++ wsX70 ++ wsX10 ++ wsX60 ++ wsX00 ++ wsX20)
def wsX7_flat_r1 : List Cond := [Cond.fieldLink RX7 10 "FlatLottery" "state" "LFlatLottery$State;", Cond.fieldLink RX7 63 "FlatLottery$State" "flats" "[LFlatLottery$Flat;", Cond.fieldLink RX7 67 "FlatLottery$Flat" "rooms" "I", Cond.fieldLink RX7 72 "FlatLottery$Flat" "rent" "I", Cond.methodLink RX7 98 yX6_hasFlat, Cond.instanceMethod yX6_hasFlat, Cond.selects RX6 yX6_hasFlat yX6_hasFlat, Cond.initialized RX6, Cond.code yX6_hasFlat cX6_hasFlat 2 (some .boolean), Cond.fieldLink RX6 29 "FlatLottery$State" "flatCount" "I", Cond.methodLink RX7 202 yX6_holderOf, Cond.instanceMethod yX6_holderOf, Cond.selects RX6 yX6_holderOf yX6_holderOf, Cond.code yX6_holderOf cX6_holderOf 3 (some .int), Cond.fieldLink RX6 37 "FlatLottery$State" "householdCount" "I", Cond.fieldLink RX6 19 "FlatLottery$State" "households" "[LFlatLottery$Household;", Cond.fieldLink RX6 52 "FlatLottery$Household" "held" "I", Cond.methodLink RX7 205 yX6_wishersOf, Cond.instanceMethod yX6_wishersOf, Cond.selects RX6 yX6_wishersOf yX6_wishersOf, Cond.code yX6_wishersOf cX6_wishersOf 4 (some .int), Cond.methodLink RX6 58 yX2_placeOf, Cond.instanceMethod yX2_placeOf, Cond.selects RX2 yX2_placeOf yX2_placeOf]
def wsX7_flat_r2 : List Cond := [Cond.initialized RX2, Cond.code yX2_placeOf cX2_placeOf 3 (some .int), Cond.fieldLink RX2 15 "FlatLottery$Household" "wishCount" "I", Cond.fieldLink RX2 9 "FlatLottery$Household" "wishes" "[I", Cond.methodLink RX7 208 yX6_eligibleFor, Cond.instanceMethod yX6_eligibleFor, Cond.selects RX6 yX6_eligibleFor yX6_eligibleFor, Cond.code yX6_eligibleFor cX6_eligibleFor 4 (some .int), Cond.methodLink RX6 62 yX6_isEligible, Cond.instanceMethod yX6_isEligible, Cond.selects RX6 yX6_isEligible yX6_isEligible, Cond.code yX6_isEligible cX6_isEligible 3 (some .boolean), Cond.fieldLink RX6 11 "FlatLottery$State" "flats" "[LFlatLottery$Flat;", Cond.methodLink RX6 66 yX6_hasFlat, Cond.methodLink RX6 70 yX2_isEligibleFor, Cond.instanceMethod yX2_isEligibleFor, Cond.selects RX2 yX2_isEligibleFor yX2_isEligibleFor, Cond.code yX2_isEligibleFor cX2_isEligibleFor 2 (some .boolean), Cond.fieldLink RX2 19 "FlatLottery$Household" "members" "I", Cond.fieldLink RX2 44 "FlatLottery$Flat" "rooms" "I", Cond.fieldLink RX2 49 "FlatLottery$Flat" "rent" "I", Cond.fieldLink RX2 22 "FlatLottery$Household" "income" "I"]
def wsX7_flat : List Cond := .code yX7_flat cX7_flat 3 (some .int) :: ((wsX7_flat_r1 ++ wsX7_flat_r2) ++ wsX70 ++ wsX60 ++ wsX00 ++ wsX20)
def wsX7_household_r1 : List Cond := [Cond.fieldLink RX7 10 "FlatLottery" "state" "LFlatLottery$State;", Cond.fieldLink RX7 78 "FlatLottery$State" "households" "[LFlatLottery$Household;", Cond.fieldLink RX7 95 "FlatLottery$Household" "members" "I", Cond.fieldLink RX7 92 "FlatLottery$Household" "income" "I", Cond.fieldLink RX7 136 "FlatLottery$Household" "number" "I", Cond.fieldLink RX7 151 "FlatLottery$Household" "points" "I", Cond.fieldLink RX7 148 "FlatLottery$Household" "held" "I", Cond.fieldLink RX7 101 "FlatLottery$Household" "wishCount" "I", Cond.fieldLink RX7 163 "FlatLottery$Household" "appeals" "I", Cond.fieldLink RX7 218 "FlatLottery$Household" "passedOver" "I", Cond.methodLink RX7 88 yX6_hasHousehold, Cond.instanceMethod yX6_hasHousehold, Cond.selects RX6 yX6_hasHousehold yX6_hasHousehold, Cond.initialized RX6, Cond.code yX6_hasHousehold cX6_hasHousehold 2 (some .boolean), Cond.fieldLink RX6 37 "FlatLottery$State" "householdCount" "I", Cond.methodLink RX7 211 yX6_placeInOrder, Cond.instanceMethod yX6_placeInOrder, Cond.selects RX6 yX6_placeInOrder yX6_placeInOrder, Cond.code yX6_placeInOrder cX6_placeInOrder 4 (some .int), Cond.fieldLink RX6 55 "FlatLottery$Household" "number" "I", Cond.fieldLink RX6 19 "FlatLottery$State" "households" "[LFlatLottery$Household;", Cond.methodLink RX6 77 yX2_standsAheadOf, Cond.instanceMethod yX2_standsAheadOf]
def wsX7_household_r2 : List Cond := [Cond.selects RX2 yX2_standsAheadOf yX2_standsAheadOf, Cond.initialized RX2, Cond.code yX2_standsAheadOf cX2_standsAheadOf 2 (some .boolean), Cond.fieldLink RX2 25 "FlatLottery$Household" "number" "I", Cond.fieldLink RX2 28 "FlatLottery$Household" "points" "I", Cond.methodLink RX7 215 yX6_pointsTo, Cond.instanceMethod yX6_pointsTo, Cond.selects RX6 yX6_pointsTo yX6_pointsTo, Cond.code yX6_pointsTo cX6_pointsTo 5 (some .int), Cond.fieldLink RX6 52 "FlatLottery$Household" "held" "I", Cond.fieldLink RX6 99 "FlatLottery$Household" "wishCount" "I", Cond.fieldLink RX6 102 "FlatLottery$Household" "wishes" "[I", Cond.methodLink RX6 124 yX2_wishesMoreThanItsOwn, Cond.instanceMethod yX2_wishesMoreThanItsOwn, Cond.selects RX2 yX2_wishesMoreThanItsOwn yX2_wishesMoreThanItsOwn, Cond.code yX2_wishesMoreThanItsOwn cX2_wishesMoreThanItsOwn 4 (some .boolean), Cond.fieldLink RX2 31 "FlatLottery$Household" "held" "I", Cond.methodLink RX2 40 yX2_placeOf, Cond.instanceMethod yX2_placeOf, Cond.selects RX2 yX2_placeOf yX2_placeOf, Cond.code yX2_placeOf cX2_placeOf 3 (some .int), Cond.fieldLink RX2 15 "FlatLottery$Household" "wishCount" "I", Cond.fieldLink RX2 9 "FlatLottery$Household" "wishes" "[I", Cond.methodLink RX6 127 yX6_holderOf]
def wsX7_household_r3 : List Cond := [Cond.instanceMethod yX6_holderOf, Cond.selects RX6 yX6_holderOf yX6_holderOf, Cond.code yX6_holderOf cX6_holderOf 3 (some .int), Cond.methodLink RX6 62 yX6_isEligible, Cond.instanceMethod yX6_isEligible, Cond.selects RX6 yX6_isEligible yX6_isEligible, Cond.code yX6_isEligible cX6_isEligible 3 (some .boolean), Cond.fieldLink RX6 11 "FlatLottery$State" "flats" "[LFlatLottery$Flat;", Cond.methodLink RX6 66 yX6_hasFlat, Cond.instanceMethod yX6_hasFlat, Cond.selects RX6 yX6_hasFlat yX6_hasFlat, Cond.code yX6_hasFlat cX6_hasFlat 2 (some .boolean), Cond.fieldLink RX6 29 "FlatLottery$State" "flatCount" "I", Cond.methodLink RX6 70 yX2_isEligibleFor, Cond.instanceMethod yX2_isEligibleFor, Cond.selects RX2 yX2_isEligibleFor yX2_isEligibleFor, Cond.code yX2_isEligibleFor cX2_isEligibleFor 2 (some .boolean), Cond.fieldLink RX2 19 "FlatLottery$Household" "members" "I", Cond.fieldLink RX2 44 "FlatLottery$Flat" "rooms" "I", Cond.fieldLink RX2 49 "FlatLottery$Flat" "rent" "I", Cond.fieldLink RX2 22 "FlatLottery$Household" "income" "I"]
def wsX7_household : List Cond := .code yX7_household cX7_household 4 (some .int) :: ((wsX7_household_r1 ++ (wsX7_household_r2 ++ wsX7_household_r3)) ++ wsX70 ++ wsX60 ++ wsX20 ++ wsX00)
def wsX7_wished : List Cond := .code yX7_wished cX7_wished 4 (some .int) :: ([.fieldLink RX7 10 "FlatLottery" "state" "LFlatLottery$State;", .fieldLink RX7 78 "FlatLottery$State" "households" "[LFlatLottery$Household;", .fieldLink RX7 101 "FlatLottery$Household" "wishCount" "I", .fieldLink RX7 221 "FlatLottery$Household" "wishes" "[I", .methodLink RX7 88 yX6_hasHousehold, .instanceMethod yX6_hasHousehold, .selects RX6 yX6_hasHousehold yX6_hasHousehold, .initialized RX6, .code yX6_hasHousehold cX6_hasHousehold 2 (some .boolean), .fieldLink RX6 37 "FlatLottery$State" "householdCount" "I"] ++ wsX70 ++ wsX60 ++ wsX20)
def wsX7_ordered : List Cond := .code yX7_ordered cX7_ordered 2 (some .int) :: ([.fieldLink RX7 10 "FlatLottery" "state" "LFlatLottery$State;", .fieldLink RX7 228 "FlatLottery$State" "order" "[I", .methodLink RX7 225 yX6_lineUp, .instanceMethod yX6_lineUp, .selects RX6 yX6_lineUp yX6_lineUp, .initialized RX6, .code yX6_lineUp cX6_lineUp 4 (some .int), .fieldLink RX6 37 "FlatLottery$State" "householdCount" "I", .fieldLink RX6 19 "FlatLottery$State" "households" "[LFlatLottery$Household;", .fieldLink RX6 23 "FlatLottery$State" "order" "[I", .methodLink RX6 81 yX6_placeInOrder, .instanceMethod yX6_placeInOrder, .selects RX6 yX6_placeInOrder yX6_placeInOrder, .code yX6_placeInOrder cX6_placeInOrder 4 (some .int), .fieldLink RX6 55 "FlatLottery$Household" "number" "I", .methodLink RX6 77 yX2_standsAheadOf, .instanceMethod yX2_standsAheadOf, .selects RX2 yX2_standsAheadOf yX2_standsAheadOf, .initialized RX2, .code yX2_standsAheadOf cX2_standsAheadOf 2 (some .boolean), .fieldLink RX2 25 "FlatLottery$Household" "number" "I", .fieldLink RX2 28 "FlatLottery$Household" "points" "I"] ++ wsX70 ++ wsX60 ++ wsX20)
def wsX7_envies_r1 : List Cond := [Cond.fieldLink RX7 10 "FlatLottery" "state" "LFlatLottery$State;", Cond.fieldLink RX7 78 "FlatLottery$State" "households" "[LFlatLottery$Household;", Cond.methodLink RX7 88 yX6_hasHousehold, Cond.instanceMethod yX6_hasHousehold, Cond.selects RX6 yX6_hasHousehold yX6_hasHousehold, Cond.initialized RX6, Cond.code yX6_hasHousehold cX6_hasHousehold 2 (some .boolean), Cond.fieldLink RX6 37 "FlatLottery$State" "householdCount" "I", Cond.methodLink RX7 231 yX6_envyOf, Cond.instanceMethod yX6_envyOf, Cond.selects RX6 yX6_envyOf yX6_envyOf, Cond.code yX6_envyOf cX6_envyOf 4 (some .int), Cond.fieldLink RX6 52 "FlatLottery$Household" "held" "I", Cond.methodLink RX6 124 yX2_wishesMoreThanItsOwn, Cond.instanceMethod yX2_wishesMoreThanItsOwn, Cond.selects RX2 yX2_wishesMoreThanItsOwn yX2_wishesMoreThanItsOwn, Cond.initialized RX2, Cond.code yX2_wishesMoreThanItsOwn cX2_wishesMoreThanItsOwn 4 (some .boolean), Cond.fieldLink RX2 31 "FlatLottery$Household" "held" "I", Cond.methodLink RX2 40 yX2_placeOf, Cond.instanceMethod yX2_placeOf, Cond.selects RX2 yX2_placeOf yX2_placeOf, Cond.code yX2_placeOf cX2_placeOf 3 (some .int), Cond.fieldLink RX2 15 "FlatLottery$Household" "wishCount" "I"]
def wsX7_envies_r2 : List Cond := [Cond.fieldLink RX2 9 "FlatLottery$Household" "wishes" "[I", Cond.methodLink RX6 62 yX6_isEligible, Cond.instanceMethod yX6_isEligible, Cond.selects RX6 yX6_isEligible yX6_isEligible, Cond.code yX6_isEligible cX6_isEligible 3 (some .boolean), Cond.fieldLink RX6 11 "FlatLottery$State" "flats" "[LFlatLottery$Flat;", Cond.methodLink RX6 66 yX6_hasFlat, Cond.instanceMethod yX6_hasFlat, Cond.selects RX6 yX6_hasFlat yX6_hasFlat, Cond.code yX6_hasFlat cX6_hasFlat 2 (some .boolean), Cond.fieldLink RX6 29 "FlatLottery$State" "flatCount" "I", Cond.methodLink RX6 70 yX2_isEligibleFor, Cond.instanceMethod yX2_isEligibleFor, Cond.selects RX2 yX2_isEligibleFor yX2_isEligibleFor, Cond.code yX2_isEligibleFor cX2_isEligibleFor 2 (some .boolean), Cond.fieldLink RX2 19 "FlatLottery$Household" "members" "I", Cond.fieldLink RX2 44 "FlatLottery$Flat" "rooms" "I", Cond.fieldLink RX2 49 "FlatLottery$Flat" "rent" "I", Cond.fieldLink RX2 22 "FlatLottery$Household" "income" "I", Cond.methodLink RX6 77 yX2_standsAheadOf, Cond.instanceMethod yX2_standsAheadOf, Cond.selects RX2 yX2_standsAheadOf yX2_standsAheadOf, Cond.code yX2_standsAheadOf cX2_standsAheadOf 2 (some .boolean), Cond.fieldLink RX2 25 "FlatLottery$Household" "number" "I"]
def wsX7_envies_r3 : List Cond := [Cond.fieldLink RX2 28 "FlatLottery$Household" "points" "I"]
def wsX7_envies : List Cond := .code yX7_envies cX7_envies 3 (some .int) :: ((wsX7_envies_r1 ++ (wsX7_envies_r2 ++ wsX7_envies_r3)) ++ wsX70 ++ wsX60 ++ wsX20 ++ wsX00)
def wsX7_wouldGet_r1 : List Cond := [Cond.fieldLink RX7 10 "FlatLottery" "state" "LFlatLottery$State;", Cond.methodLink RX7 88 yX6_hasHousehold, Cond.instanceMethod yX6_hasHousehold, Cond.selects RX6 yX6_hasHousehold yX6_hasHousehold, Cond.initialized RX6, Cond.code yX6_hasHousehold cX6_hasHousehold 2 (some .boolean), Cond.fieldLink RX6 37 "FlatLottery$State" "householdCount" "I", Cond.methodLink RX7 235 yX6_flatIfAllWereFree, Cond.instanceMethod yX6_flatIfAllWereFree, Cond.selects RX6 yX6_flatIfAllWereFree yX6_flatIfAllWereFree, Cond.code yX6_flatIfAllWereFree cX6_flatIfAllWereFree 8 (some .int), Cond.fieldLink RX6 23 "FlatLottery$State" "order" "[I", Cond.fieldLink RX6 19 "FlatLottery$State" "households" "[LFlatLottery$Household;", Cond.methodLink RX6 89 yX6_lineUp, Cond.instanceMethod yX6_lineUp, Cond.selects RX6 yX6_lineUp yX6_lineUp, Cond.code yX6_lineUp cX6_lineUp 4 (some .int), Cond.methodLink RX6 81 yX6_placeInOrder, Cond.instanceMethod yX6_placeInOrder, Cond.selects RX6 yX6_placeInOrder yX6_placeInOrder, Cond.code yX6_placeInOrder cX6_placeInOrder 4 (some .int), Cond.fieldLink RX6 55 "FlatLottery$Household" "number" "I", Cond.methodLink RX6 77 yX2_standsAheadOf, Cond.instanceMethod yX2_standsAheadOf]
def wsX7_wouldGet_r2 : List Cond := [Cond.selects RX2 yX2_standsAheadOf yX2_standsAheadOf, Cond.initialized RX2, Cond.code yX2_standsAheadOf cX2_standsAheadOf 2 (some .boolean), Cond.fieldLink RX2 25 "FlatLottery$Household" "number" "I", Cond.fieldLink RX2 28 "FlatLottery$Household" "points" "I", Cond.methodLink RX6 92 yX6_firstWishOutside, Cond.instanceMethod yX6_firstWishOutside, Cond.selects RX6 yX6_firstWishOutside yX6_firstWishOutside, Cond.code yX6_firstWishOutside cX6_firstWishOutside 5 (some .int), Cond.fieldLink RX6 99 "FlatLottery$Household" "wishCount" "I", Cond.fieldLink RX6 102 "FlatLottery$Household" "wishes" "[I", Cond.methodLink RX6 62 yX6_isEligible, Cond.instanceMethod yX6_isEligible, Cond.selects RX6 yX6_isEligible yX6_isEligible, Cond.code yX6_isEligible cX6_isEligible 3 (some .boolean), Cond.fieldLink RX6 11 "FlatLottery$State" "flats" "[LFlatLottery$Flat;", Cond.methodLink RX6 66 yX6_hasFlat, Cond.instanceMethod yX6_hasFlat, Cond.selects RX6 yX6_hasFlat yX6_hasFlat, Cond.code yX6_hasFlat cX6_hasFlat 2 (some .boolean), Cond.fieldLink RX6 29 "FlatLottery$State" "flatCount" "I", Cond.methodLink RX6 70 yX2_isEligibleFor, Cond.instanceMethod yX2_isEligibleFor, Cond.selects RX2 yX2_isEligibleFor yX2_isEligibleFor]
def wsX7_wouldGet_r3 : List Cond := [Cond.code yX2_isEligibleFor cX2_isEligibleFor 2 (some .boolean), Cond.fieldLink RX2 19 "FlatLottery$Household" "members" "I", Cond.fieldLink RX2 44 "FlatLottery$Flat" "rooms" "I", Cond.fieldLink RX2 49 "FlatLottery$Flat" "rent" "I", Cond.fieldLink RX2 22 "FlatLottery$Household" "income" "I"]
def wsX7_wouldGet : List Cond := .code yX7_wouldGet cX7_wouldGet 3 (some .int) :: ((wsX7_wouldGet_r1 ++ (wsX7_wouldGet_r2 ++ wsX7_wouldGet_r3)) ++ wsX70 ++ wsX60 ++ wsX20 ++ wsX00)
def wsX7_most_r1 : List Cond := [Cond.fieldLink RX7 47 "FlatLottery" "matching" "LFlatLottery$Matching;", Cond.fieldLink RX7 10 "FlatLottery" "state" "LFlatLottery$State;", Cond.methodLink RX7 238 yX4_greatest, Cond.instanceMethod yX4_greatest, Cond.selects RX4 yX4_greatest yX4_greatest, Cond.initialized RX4, Cond.code yX4_greatest cX4_greatest 4 (some .int), Cond.fieldLink RX4 9 "FlatLottery$Matching" "flatOf" "[I", Cond.fieldLink RX4 15 "FlatLottery$Matching" "takenBy" "[I", Cond.fieldLink RX4 24 "FlatLottery$State" "householdCount" "I", Cond.methodLink RX4 30 yX4_canHouse, Cond.instanceMethod yX4_canHouse, Cond.selects RX4 yX4_canHouse yX4_canHouse, Cond.code yX4_canHouse cX4_canHouse 9 (some .boolean), Cond.fieldLink RX4 18 "FlatLottery$Matching" "askedBy" "[I", Cond.fieldLink RX4 21 "FlatLottery$Matching" "waiting" "[I", Cond.fieldLink RX4 34 "FlatLottery$State" "households" "[LFlatLottery$Household;", Cond.fieldLink RX4 38 "FlatLottery$Household" "wishCount" "I", Cond.fieldLink RX4 43 "FlatLottery$Household" "wishes" "[I", Cond.methodLink RX4 46 yX6_isEligible, Cond.instanceMethod yX6_isEligible, Cond.selects RX6 yX6_isEligible yX6_isEligible, Cond.initialized RX6, Cond.code yX6_isEligible cX6_isEligible 3 (some .boolean)]
def wsX7_most_r2 : List Cond := [Cond.fieldLink RX6 11 "FlatLottery$State" "flats" "[LFlatLottery$Flat;", Cond.methodLink RX6 66 yX6_hasFlat, Cond.instanceMethod yX6_hasFlat, Cond.selects RX6 yX6_hasFlat yX6_hasFlat, Cond.code yX6_hasFlat cX6_hasFlat 2 (some .boolean), Cond.fieldLink RX6 29 "FlatLottery$State" "flatCount" "I", Cond.methodLink RX6 70 yX2_isEligibleFor, Cond.instanceMethod yX2_isEligibleFor, Cond.selects RX2 yX2_isEligibleFor yX2_isEligibleFor, Cond.initialized RX2, Cond.code yX2_isEligibleFor cX2_isEligibleFor 2 (some .boolean), Cond.fieldLink RX2 19 "FlatLottery$Household" "members" "I", Cond.fieldLink RX2 44 "FlatLottery$Flat" "rooms" "I", Cond.fieldLink RX2 49 "FlatLottery$Flat" "rent" "I", Cond.fieldLink RX2 22 "FlatLottery$Household" "income" "I", Cond.methodLink RX4 50 yX4_handOn, Cond.instanceMethod yX4_handOn, Cond.selects RX4 yX4_handOn yX4_handOn, Cond.code yX4_handOn cX4_handOn 6 none]
def wsX7_most : List Cond := .code yX7_most cX7_most 1 (some .int) :: ((wsX7_most_r1 ++ wsX7_most_r2) ++ wsX70 ++ wsX40 ++ wsX60 ++ wsX20 ++ wsX00)
def wsX7_count_r1 : List Cond := [Cond.fieldLink RX7 10 "FlatLottery" "state" "LFlatLottery$State;", Cond.fieldLink RX7 55 "FlatLottery$State" "flatCount" "I", Cond.fieldLink RX7 75 "FlatLottery$State" "householdCount" "I", Cond.fieldLink RX7 142 "FlatLottery$State" "rounds" "I", Cond.fieldLink RX7 40 "FlatLottery" "rings" "LFlatLottery$Rings;", Cond.fieldLink RX7 170 "FlatLottery$State" "refused" "I", Cond.fieldLink RX7 160 "FlatLottery$State" "declined" "I", Cond.fieldLink RX7 26 "FlatLottery" "history" "LFlatLottery$History;", Cond.fieldLink RX7 190 "FlatLottery$History" "size" "I", Cond.fieldLink RX7 33 "FlatLottery" "text" "LFlatLottery$ListText;", Cond.fieldLink RX7 187 "FlatLottery$ListText" "length" "I", Cond.methodLink RX7 199 yX6_countHeld, Cond.instanceMethod yX6_countHeld, Cond.selects RX6 yX6_countHeld yX6_countHeld, Cond.initialized RX6, Cond.code yX6_countHeld cX6_countHeld 3 (some .int), Cond.fieldLink RX6 37 "FlatLottery$State" "householdCount" "I", Cond.fieldLink RX6 19 "FlatLottery$State" "households" "[LFlatLottery$Household;", Cond.fieldLink RX6 52 "FlatLottery$Household" "held" "I", Cond.methodLink RX7 139 yX6_countNumbered, Cond.instanceMethod yX6_countNumbered, Cond.selects RX6 yX6_countNumbered yX6_countNumbered, Cond.code yX6_countNumbered cX6_countNumbered 3 (some .int), Cond.fieldLink RX6 55 "FlatLottery$Household" "number" "I"]
def wsX7_count_r2 : List Cond := [Cond.methodLink RX7 241 yX6_countEnvy, Cond.instanceMethod yX6_countEnvy, Cond.selects RX6 yX6_countEnvy yX6_countEnvy, Cond.code yX6_countEnvy cX6_countEnvy 5 (some .int), Cond.methodLink RX6 120 yX6_envyOf, Cond.instanceMethod yX6_envyOf, Cond.selects RX6 yX6_envyOf yX6_envyOf, Cond.code yX6_envyOf cX6_envyOf 4 (some .int), Cond.methodLink RX6 124 yX2_wishesMoreThanItsOwn, Cond.instanceMethod yX2_wishesMoreThanItsOwn, Cond.selects RX2 yX2_wishesMoreThanItsOwn yX2_wishesMoreThanItsOwn, Cond.initialized RX2, Cond.code yX2_wishesMoreThanItsOwn cX2_wishesMoreThanItsOwn 4 (some .boolean), Cond.fieldLink RX2 31 "FlatLottery$Household" "held" "I", Cond.methodLink RX2 40 yX2_placeOf, Cond.instanceMethod yX2_placeOf, Cond.selects RX2 yX2_placeOf yX2_placeOf, Cond.code yX2_placeOf cX2_placeOf 3 (some .int), Cond.fieldLink RX2 15 "FlatLottery$Household" "wishCount" "I", Cond.fieldLink RX2 9 "FlatLottery$Household" "wishes" "[I", Cond.methodLink RX6 62 yX6_isEligible, Cond.instanceMethod yX6_isEligible, Cond.selects RX6 yX6_isEligible yX6_isEligible, Cond.code yX6_isEligible cX6_isEligible 3 (some .boolean)]
def wsX7_count_r3 : List Cond := [Cond.fieldLink RX6 11 "FlatLottery$State" "flats" "[LFlatLottery$Flat;", Cond.methodLink RX6 66 yX6_hasFlat, Cond.instanceMethod yX6_hasFlat, Cond.selects RX6 yX6_hasFlat yX6_hasFlat, Cond.code yX6_hasFlat cX6_hasFlat 2 (some .boolean), Cond.fieldLink RX6 29 "FlatLottery$State" "flatCount" "I", Cond.methodLink RX6 70 yX2_isEligibleFor, Cond.instanceMethod yX2_isEligibleFor, Cond.selects RX2 yX2_isEligibleFor yX2_isEligibleFor, Cond.code yX2_isEligibleFor cX2_isEligibleFor 2 (some .boolean), Cond.fieldLink RX2 19 "FlatLottery$Household" "members" "I", Cond.fieldLink RX2 44 "FlatLottery$Flat" "rooms" "I", Cond.fieldLink RX2 49 "FlatLottery$Flat" "rent" "I", Cond.fieldLink RX2 22 "FlatLottery$Household" "income" "I", Cond.methodLink RX6 77 yX2_standsAheadOf, Cond.instanceMethod yX2_standsAheadOf, Cond.selects RX2 yX2_standsAheadOf yX2_standsAheadOf, Cond.code yX2_standsAheadOf cX2_standsAheadOf 2 (some .boolean), Cond.fieldLink RX2 25 "FlatLottery$Household" "number" "I", Cond.fieldLink RX2 28 "FlatLottery$Household" "points" "I", Cond.methodLink RX7 173 yX5_lookAt, Cond.instanceMethod yX5_lookAt, Cond.selects RX5 yX5_lookAt yX5_lookAt, Cond.initialized RX5]
def wsX7_count_r4 : List Cond := [Cond.code yX5_lookAt cX5_lookAt 3 none, Cond.fieldLink RX5 15 "FlatLottery$State" "householdCount" "I", Cond.fieldLink RX5 21 "FlatLottery$Rings" "size" "I", Cond.fieldLink RX5 9 "FlatLottery$Rings" "pointed" "[I", Cond.fieldLink RX5 24 "FlatLottery$State" "households" "[LFlatLottery$Household;", Cond.methodLink RX5 28 yX6_pointsTo, Cond.instanceMethod yX6_pointsTo, Cond.selects RX6 yX6_pointsTo yX6_pointsTo, Cond.code yX6_pointsTo cX6_pointsTo 5 (some .int), Cond.fieldLink RX6 99 "FlatLottery$Household" "wishCount" "I", Cond.fieldLink RX6 102 "FlatLottery$Household" "wishes" "[I", Cond.methodLink RX6 127 yX6_holderOf, Cond.instanceMethod yX6_holderOf, Cond.selects RX6 yX6_holderOf yX6_holderOf, Cond.code yX6_holderOf cX6_holderOf 3 (some .int), Cond.methodLink RX7 244 yX5_countHouseholds, Cond.instanceMethod yX5_countHouseholds, Cond.selects RX5 yX5_countHouseholds yX5_countHouseholds, Cond.code yX5_countHouseholds cX5_countHouseholds 3 (some .int), Cond.methodLink RX5 36 yX5_isInRing, Cond.instanceMethod yX5_isInRing, Cond.selects RX5 yX5_isInRing yX5_isInRing, Cond.code yX5_isInRing cX5_isInRing 4 (some .boolean), Cond.methodLink RX5 32 yX5_after]
def wsX7_count_r5 : List Cond := [Cond.instanceMethod yX5_after, Cond.selects RX5 yX5_after yX5_after, Cond.code yX5_after cX5_after 2 (some .int), Cond.methodLink RX7 247 yX6_countAppeals, Cond.instanceMethod yX6_countAppeals, Cond.selects RX6 yX6_countAppeals yX6_countAppeals, Cond.code yX6_countAppeals cX6_countAppeals 3 (some .int), Cond.fieldLink RX6 74 "FlatLottery$Household" "appeals" "I"]
def wsX7_count : List Cond := .code yX7_count cX7_count 2 (some .int) :: ((wsX7_count_r1 ++ (wsX7_count_r2 ++ (wsX7_count_r3 ++ (wsX7_count_r4 ++ wsX7_count_r5)))) ++ wsX70 ++ wsX60 ++ wsX10 ++ wsX30 ++ wsX20 ++ wsX00 ++ wsX50)
def wsJ9_max_7cf53 : List Cond := .code yJ9_max_7cf53 cJ9_max_7cf53 2 (some .int) :: ([])
theorem inJ9 : ∀ w ∈ wsJ90, w ∈ lw_tbl := by decide +kernel
theorem dX0_init_0 : decode cX0_init 0 = .ok (.aload_n 0, 1) := by decide +kernel
theorem dX0_init_1 : decode cX0_init 1 = .ok (.invokespecial 1, 3) := by decide +kernel
theorem dX0_init_4 : decode cX0_init 4 = .ok (.return_, 1) := by decide +kernel
theorem dX0_copyFrom_0 : decode cX0_copyFrom 0 = .ok (.aload_n 0, 1) := by decide +kernel
theorem dX0_copyFrom_1 : decode cX0_copyFrom 1 = .ok (.aload_n 1, 1) := by decide +kernel
theorem dX0_copyFrom_2 : decode cX0_copyFrom 2 = .ok (.getfield 7, 3) := by decide +kernel
theorem dX0_copyFrom_5 : decode cX0_copyFrom 5 = .ok (.putfield 7, 3) := by decide +kernel
theorem dX0_copyFrom_8 : decode cX0_copyFrom 8 = .ok (.aload_n 0, 1) := by decide +kernel
theorem dX0_copyFrom_9 : decode cX0_copyFrom 9 = .ok (.aload_n 1, 1) := by decide +kernel
theorem dX0_copyFrom_10 : decode cX0_copyFrom 10 = .ok (.getfield 13, 3) := by decide +kernel
theorem dX0_copyFrom_13 : decode cX0_copyFrom 13 = .ok (.putfield 13, 3) := by decide +kernel
theorem dX0_copyFrom_16 : decode cX0_copyFrom 16 = .ok (.return_, 1) := by decide +kernel
set_option maxRecDepth 20000 in
theorem ggX1_init_X6_init : GoodIn wsX1_init wsX6_init := goodIn_r _ [10, 11, 2, 3, 12, 13, 14, 15, 16, 17, 18, 19, 20, 21, 22, 23, 24, 25, 26, 27, 28, 31, 32, 33, 34, 35, 36, 37, 38, 39, 40, 41, 42, 43, 44, 45, 46, 47, 48, 49] (by decide +kernel) (by decide +kernel)
set_option maxRecDepth 20000 in
theorem gX1_init_X6_init : GoodIn wsX1_init (wsX6_init) := ggX1_init_X6_init
theorem dX1_init_0 : decode cX1_init 0 = .ok (.aload_n 0, 1) := by decide +kernel
theorem dX1_init_1 : decode cX1_init 1 = .ok (.invokespecial 3, 3) := by decide +kernel
theorem dX1_init_4 : decode cX1_init 4 = .ok (.aload_n 0, 1) := by decide +kernel
theorem dX1_init_5 : decode cX1_init 5 = .ok (.iconst 4, 1) := by decide +kernel
theorem dX1_init_6 : decode cX1_init 6 = .ok (.anewarray 9, 3) := by decide +kernel
theorem dX1_init_9 : decode cX1_init 9 = .ok (.putfield 11, 3) := by decide +kernel
theorem dX1_init_12 : decode cX1_init 12 = .ok (.iconst 0, 1) := by decide +kernel
theorem dX1_init_13 : decode cX1_init 13 = .ok (.istore_n 1, 1) := by decide +kernel
theorem dX1_init_14 : decode cX1_init 14 = .ok (.iload_n 1, 1) := by decide +kernel
theorem dX1_init_15 : decode cX1_init 15 = .ok (.iconst 4, 1) := by decide +kernel
theorem dX1_init_16 : decode cX1_init 16 = .ok (.if_icmp .ge 22, 3) := by decide +kernel
theorem dX1_init_19 : decode cX1_init 19 = .ok (.aload_n 0, 1) := by decide +kernel
theorem dX1_init_20 : decode cX1_init 20 = .ok (.getfield 11, 3) := by decide +kernel
theorem dX1_init_23 : decode cX1_init 23 = .ok (.iload_n 1, 1) := by decide +kernel
theorem dX1_init_24 : decode cX1_init 24 = .ok (.new 9, 3) := by decide +kernel
theorem dX1_init_27 : decode cX1_init 27 = .ok (.dup, 1) := by decide +kernel
theorem dX1_init_28 : decode cX1_init 28 = .ok (.invokespecial 17, 3) := by decide +kernel
theorem dX1_init_31 : decode cX1_init 31 = .ok (.aastore, 1) := by decide +kernel
theorem dX1_init_32 : decode cX1_init 32 = .ok (.iinc 1 1, 3) := by decide +kernel
theorem dX1_init_35 : decode cX1_init 35 = .ok (.goto (-21), 3) := by decide +kernel
theorem dX1_init_38 : decode cX1_init 38 = .ok (.return_, 1) := by decide +kernel
set_option maxRecDepth 20000 in
theorem ggX1_record_X1_dropOldest : GoodIn wsX1_record wsX1_dropOldest := goodIn_r _ [7, 2, 1, 41, 42] (by decide +kernel) (by decide +kernel)
set_option maxRecDepth 20000 in
theorem gX1_record_X1_dropOldest : GoodIn wsX1_record (wsV RX1 22 RX1 yX1_dropOldest wsX1_dropOldest) := goodIn_app (goodIn_of _ (by decide +kernel)) ggX1_record_X1_dropOldest
set_option maxRecDepth 20000 in
theorem ggX1_record_X6_copyFrom : GoodIn wsX1_record wsX6_copyFrom := goodIn_r _ [12, 13, 14, 15, 16, 17, 18, 19, 20, 21, 22, 23, 24, 25, 26, 27, 28, 29, 30, 31, 32, 33, 34, 35, 36, 37, 38, 39, 40, 43, 44, 45, 46, 47, 48, 49, 50, 51, 52, 53, 54, 55, 56, 57, 58, 59, 60, 61] (by decide +kernel) (by decide +kernel)
set_option maxRecDepth 20000 in
theorem gX1_record_X6_copyFrom : GoodIn wsX1_record (wsV RX1 25 RX6 yX6_copyFrom wsX6_copyFrom) := goodIn_app (goodIn_of _ (by decide +kernel)) ggX1_record_X6_copyFrom
theorem dX1_record_0 : decode cX1_record 0 = .ok (.aload_n 0, 1) := by decide +kernel
theorem dX1_record_1 : decode cX1_record 1 = .ok (.getfield 18, 3) := by decide +kernel
theorem dX1_record_4 : decode cX1_record 4 = .ok (.iconst 4, 1) := by decide +kernel
theorem dX1_record_5 : decode cX1_record 5 = .ok (.if_icmp .lt 7, 3) := by decide +kernel
theorem dX1_record_8 : decode cX1_record 8 = .ok (.aload_n 0, 1) := by decide +kernel
theorem dX1_record_9 : decode cX1_record 9 = .ok (.invokevirtual 22, 3) := by decide +kernel
theorem dX1_record_12 : decode cX1_record 12 = .ok (.aload_n 0, 1) := by decide +kernel
theorem dX1_record_13 : decode cX1_record 13 = .ok (.getfield 11, 3) := by decide +kernel
theorem dX1_record_16 : decode cX1_record 16 = .ok (.aload_n 0, 1) := by decide +kernel
theorem dX1_record_17 : decode cX1_record 17 = .ok (.getfield 18, 3) := by decide +kernel
theorem dX1_record_20 : decode cX1_record 20 = .ok (.aaload, 1) := by decide +kernel
theorem dX1_record_21 : decode cX1_record 21 = .ok (.aload_n 1, 1) := by decide +kernel
theorem dX1_record_22 : decode cX1_record 22 = .ok (.invokevirtual 25, 3) := by decide +kernel
theorem dX1_record_25 : decode cX1_record 25 = .ok (.aload_n 0, 1) := by decide +kernel
theorem dX1_record_26 : decode cX1_record 26 = .ok (.dup, 1) := by decide +kernel
theorem dX1_record_27 : decode cX1_record 27 = .ok (.getfield 18, 3) := by decide +kernel
theorem dX1_record_30 : decode cX1_record 30 = .ok (.iconst 1, 1) := by decide +kernel
theorem dX1_record_31 : decode cX1_record 31 = .ok (.iadd, 1) := by decide +kernel
theorem dX1_record_32 : decode cX1_record 32 = .ok (.putfield 18, 3) := by decide +kernel
theorem dX1_record_35 : decode cX1_record 35 = .ok (.return_, 1) := by decide +kernel
theorem dX1_dropOldest_0 : decode cX1_dropOldest 0 = .ok (.aload_n 0, 1) := by decide +kernel
theorem dX1_dropOldest_1 : decode cX1_dropOldest 1 = .ok (.getfield 11, 3) := by decide +kernel
theorem dX1_dropOldest_4 : decode cX1_dropOldest 4 = .ok (.iconst 0, 1) := by decide +kernel
theorem dX1_dropOldest_5 : decode cX1_dropOldest 5 = .ok (.aaload, 1) := by decide +kernel
theorem dX1_dropOldest_6 : decode cX1_dropOldest 6 = .ok (.astore_n 1, 1) := by decide +kernel
theorem dX1_dropOldest_7 : decode cX1_dropOldest 7 = .ok (.iconst 1, 1) := by decide +kernel
theorem dX1_dropOldest_8 : decode cX1_dropOldest 8 = .ok (.istore_n 2, 1) := by decide +kernel
theorem dX1_dropOldest_9 : decode cX1_dropOldest 9 = .ok (.iload_n 2, 1) := by decide +kernel
theorem dX1_dropOldest_10 : decode cX1_dropOldest 10 = .ok (.iconst 4, 1) := by decide +kernel
theorem dX1_dropOldest_11 : decode cX1_dropOldest 11 = .ok (.if_icmp .ge 23, 3) := by decide +kernel
theorem dX1_dropOldest_14 : decode cX1_dropOldest 14 = .ok (.aload_n 0, 1) := by decide +kernel
theorem dX1_dropOldest_15 : decode cX1_dropOldest 15 = .ok (.getfield 11, 3) := by decide +kernel
theorem dX1_dropOldest_18 : decode cX1_dropOldest 18 = .ok (.iload_n 2, 1) := by decide +kernel
theorem dX1_dropOldest_19 : decode cX1_dropOldest 19 = .ok (.iconst 1, 1) := by decide +kernel
theorem dX1_dropOldest_20 : decode cX1_dropOldest 20 = .ok (.isub, 1) := by decide +kernel
theorem dX1_dropOldest_21 : decode cX1_dropOldest 21 = .ok (.aload_n 0, 1) := by decide +kernel
theorem dX1_dropOldest_22 : decode cX1_dropOldest 22 = .ok (.getfield 11, 3) := by decide +kernel
theorem dX1_dropOldest_25 : decode cX1_dropOldest 25 = .ok (.iload_n 2, 1) := by decide +kernel
theorem dX1_dropOldest_26 : decode cX1_dropOldest 26 = .ok (.aaload, 1) := by decide +kernel
theorem dX1_dropOldest_27 : decode cX1_dropOldest 27 = .ok (.aastore, 1) := by decide +kernel
theorem dX1_dropOldest_28 : decode cX1_dropOldest 28 = .ok (.iinc 2 1, 3) := by decide +kernel
theorem dX1_dropOldest_31 : decode cX1_dropOldest 31 = .ok (.goto (-22), 3) := by decide +kernel
theorem dX1_dropOldest_34 : decode cX1_dropOldest 34 = .ok (.aload_n 0, 1) := by decide +kernel
theorem dX1_dropOldest_35 : decode cX1_dropOldest 35 = .ok (.getfield 11, 3) := by decide +kernel
theorem dX1_dropOldest_38 : decode cX1_dropOldest 38 = .ok (.iconst 3, 1) := by decide +kernel
theorem dX1_dropOldest_39 : decode cX1_dropOldest 39 = .ok (.aload_n 1, 1) := by decide +kernel
theorem dX1_dropOldest_40 : decode cX1_dropOldest 40 = .ok (.aastore, 1) := by decide +kernel
theorem dX1_dropOldest_41 : decode cX1_dropOldest 41 = .ok (.aload_n 0, 1) := by decide +kernel
theorem dX1_dropOldest_42 : decode cX1_dropOldest 42 = .ok (.iconst 3, 1) := by decide +kernel
theorem dX1_dropOldest_43 : decode cX1_dropOldest 43 = .ok (.putfield 18, 3) := by decide +kernel
theorem dX1_dropOldest_46 : decode cX1_dropOldest 46 = .ok (.return_, 1) := by decide +kernel
set_option maxRecDepth 20000 in
theorem ggX1_takeBack_X6_copyFrom : GoodIn wsX1_takeBack wsX6_copyFrom := goodIn_r _ [7, 8, 9, 10, 11, 12, 13, 14, 15, 16, 17, 18, 19, 20, 21, 22, 23, 24, 25, 26, 27, 28, 29, 30, 31, 32, 33, 34, 35, 38, 39, 40, 41, 42, 43, 44, 45, 46, 47, 48, 49, 50, 51, 52, 53, 54, 55, 56] (by decide +kernel) (by decide +kernel)
set_option maxRecDepth 20000 in
theorem gX1_takeBack_X6_copyFrom : GoodIn wsX1_takeBack (wsV RX1 25 RX6 yX6_copyFrom wsX6_copyFrom) := goodIn_app (goodIn_of _ (by decide +kernel)) ggX1_takeBack_X6_copyFrom
theorem dX1_takeBack_0 : decode cX1_takeBack 0 = .ok (.aload_n 0, 1) := by decide +kernel
theorem dX1_takeBack_1 : decode cX1_takeBack 1 = .ok (.getfield 18, 3) := by decide +kernel
theorem dX1_takeBack_4 : decode cX1_takeBack 4 = .ok (.ifCond .le 26, 3) := by decide +kernel
theorem dX1_takeBack_7 : decode cX1_takeBack 7 = .ok (.aload_n 0, 1) := by decide +kernel
theorem dX1_takeBack_8 : decode cX1_takeBack 8 = .ok (.dup, 1) := by decide +kernel
theorem dX1_takeBack_9 : decode cX1_takeBack 9 = .ok (.getfield 18, 3) := by decide +kernel
theorem dX1_takeBack_12 : decode cX1_takeBack 12 = .ok (.iconst 1, 1) := by decide +kernel
theorem dX1_takeBack_13 : decode cX1_takeBack 13 = .ok (.isub, 1) := by decide +kernel
theorem dX1_takeBack_14 : decode cX1_takeBack 14 = .ok (.putfield 18, 3) := by decide +kernel
theorem dX1_takeBack_17 : decode cX1_takeBack 17 = .ok (.aload_n 1, 1) := by decide +kernel
theorem dX1_takeBack_18 : decode cX1_takeBack 18 = .ok (.aload_n 0, 1) := by decide +kernel
theorem dX1_takeBack_19 : decode cX1_takeBack 19 = .ok (.getfield 11, 3) := by decide +kernel
theorem dX1_takeBack_22 : decode cX1_takeBack 22 = .ok (.aload_n 0, 1) := by decide +kernel
theorem dX1_takeBack_23 : decode cX1_takeBack 23 = .ok (.getfield 18, 3) := by decide +kernel
theorem dX1_takeBack_26 : decode cX1_takeBack 26 = .ok (.aaload, 1) := by decide +kernel
theorem dX1_takeBack_27 : decode cX1_takeBack 27 = .ok (.invokevirtual 25, 3) := by decide +kernel
theorem dX1_takeBack_30 : decode cX1_takeBack 30 = .ok (.return_, 1) := by decide +kernel
theorem dX2_init_0 : decode cX2_init 0 = .ok (.aload_n 0, 1) := by decide +kernel
theorem dX2_init_1 : decode cX2_init 1 = .ok (.invokespecial 3, 3) := by decide +kernel
theorem dX2_init_4 : decode cX2_init 4 = .ok (.aload_n 0, 1) := by decide +kernel
theorem dX2_init_5 : decode cX2_init 5 = .ok (.bipush 6, 2) := by decide +kernel
theorem dX2_init_7 : decode cX2_init 7 = .ok (.newarray .int, 2) := by decide +kernel
theorem dX2_init_9 : decode cX2_init 9 = .ok (.putfield 9, 3) := by decide +kernel
theorem dX2_init_12 : decode cX2_init 12 = .ok (.return_, 1) := by decide +kernel
theorem dX2_begin_0 : decode cX2_begin 0 = .ok (.aload_n 0, 1) := by decide +kernel
theorem dX2_begin_1 : decode cX2_begin 1 = .ok (.iconst 0, 1) := by decide +kernel
theorem dX2_begin_2 : decode cX2_begin 2 = .ok (.putfield 15, 3) := by decide +kernel
theorem dX2_begin_5 : decode cX2_begin 5 = .ok (.aload_n 0, 1) := by decide +kernel
theorem dX2_begin_6 : decode cX2_begin 6 = .ok (.iload_n 1, 1) := by decide +kernel
theorem dX2_begin_7 : decode cX2_begin 7 = .ok (.putfield 19, 3) := by decide +kernel
theorem dX2_begin_10 : decode cX2_begin 10 = .ok (.aload_n 0, 1) := by decide +kernel
theorem dX2_begin_11 : decode cX2_begin 11 = .ok (.iload_n 2, 1) := by decide +kernel
theorem dX2_begin_12 : decode cX2_begin 12 = .ok (.putfield 22, 3) := by decide +kernel
theorem dX2_begin_15 : decode cX2_begin 15 = .ok (.aload_n 0, 1) := by decide +kernel
theorem dX2_begin_16 : decode cX2_begin 16 = .ok (.bipush (-5), 2) := by decide +kernel
theorem dX2_begin_18 : decode cX2_begin 18 = .ok (.putfield 25, 3) := by decide +kernel
theorem dX2_begin_21 : decode cX2_begin 21 = .ok (.aload_n 0, 1) := by decide +kernel
theorem dX2_begin_22 : decode cX2_begin 22 = .ok (.iconst 0, 1) := by decide +kernel
theorem dX2_begin_23 : decode cX2_begin 23 = .ok (.putfield 28, 3) := by decide +kernel
theorem dX2_begin_26 : decode cX2_begin 26 = .ok (.aload_n 0, 1) := by decide +kernel
theorem dX2_begin_27 : decode cX2_begin 27 = .ok (.bipush (-5), 2) := by decide +kernel
theorem dX2_begin_29 : decode cX2_begin 29 = .ok (.putfield 31, 3) := by decide +kernel
theorem dX2_begin_32 : decode cX2_begin 32 = .ok (.aload_n 0, 1) := by decide +kernel
theorem dX2_begin_33 : decode cX2_begin 33 = .ok (.iconst 0, 1) := by decide +kernel
theorem dX2_begin_34 : decode cX2_begin 34 = .ok (.putfield 34, 3) := by decide +kernel
theorem dX2_begin_37 : decode cX2_begin 37 = .ok (.aload_n 0, 1) := by decide +kernel
theorem dX2_begin_38 : decode cX2_begin 38 = .ok (.iconst 0, 1) := by decide +kernel
theorem dX2_begin_39 : decode cX2_begin 39 = .ok (.putfield 37, 3) := by decide +kernel
theorem dX2_begin_42 : decode cX2_begin 42 = .ok (.return_, 1) := by decide +kernel
theorem dX2_copyFrom_0 : decode cX2_copyFrom 0 = .ok (.iconst 0, 1) := by decide +kernel
theorem dX2_copyFrom_1 : decode cX2_copyFrom 1 = .ok (.istore_n 2, 1) := by decide +kernel
theorem dX2_copyFrom_2 : decode cX2_copyFrom 2 = .ok (.iload_n 2, 1) := by decide +kernel
theorem dX2_copyFrom_3 : decode cX2_copyFrom 3 = .ok (.bipush 6, 2) := by decide +kernel
theorem dX2_copyFrom_5 : decode cX2_copyFrom 5 = .ok (.if_icmp .ge 21, 3) := by decide +kernel
theorem dX2_copyFrom_8 : decode cX2_copyFrom 8 = .ok (.aload_n 0, 1) := by decide +kernel
theorem dX2_copyFrom_9 : decode cX2_copyFrom 9 = .ok (.getfield 9, 3) := by decide +kernel
theorem dX2_copyFrom_12 : decode cX2_copyFrom 12 = .ok (.iload_n 2, 1) := by decide +kernel
theorem dX2_copyFrom_13 : decode cX2_copyFrom 13 = .ok (.aload_n 1, 1) := by decide +kernel
theorem dX2_copyFrom_14 : decode cX2_copyFrom 14 = .ok (.getfield 9, 3) := by decide +kernel
theorem dX2_copyFrom_17 : decode cX2_copyFrom 17 = .ok (.iload_n 2, 1) := by decide +kernel
theorem dX2_copyFrom_18 : decode cX2_copyFrom 18 = .ok (.iaload, 1) := by decide +kernel
theorem dX2_copyFrom_19 : decode cX2_copyFrom 19 = .ok (.iastore, 1) := by decide +kernel
theorem dX2_copyFrom_20 : decode cX2_copyFrom 20 = .ok (.iinc 2 1, 3) := by decide +kernel
theorem dX2_copyFrom_23 : decode cX2_copyFrom 23 = .ok (.goto (-21), 3) := by decide +kernel
theorem dX2_copyFrom_26 : decode cX2_copyFrom 26 = .ok (.aload_n 0, 1) := by decide +kernel
theorem dX2_copyFrom_27 : decode cX2_copyFrom 27 = .ok (.aload_n 1, 1) := by decide +kernel
theorem dX2_copyFrom_28 : decode cX2_copyFrom 28 = .ok (.getfield 15, 3) := by decide +kernel
theorem dX2_copyFrom_31 : decode cX2_copyFrom 31 = .ok (.putfield 15, 3) := by decide +kernel
theorem dX2_copyFrom_34 : decode cX2_copyFrom 34 = .ok (.aload_n 0, 1) := by decide +kernel
theorem dX2_copyFrom_35 : decode cX2_copyFrom 35 = .ok (.aload_n 1, 1) := by decide +kernel
theorem dX2_copyFrom_36 : decode cX2_copyFrom 36 = .ok (.getfield 19, 3) := by decide +kernel
theorem dX2_copyFrom_39 : decode cX2_copyFrom 39 = .ok (.putfield 19, 3) := by decide +kernel
theorem dX2_copyFrom_42 : decode cX2_copyFrom 42 = .ok (.aload_n 0, 1) := by decide +kernel
theorem dX2_copyFrom_43 : decode cX2_copyFrom 43 = .ok (.aload_n 1, 1) := by decide +kernel
theorem dX2_copyFrom_44 : decode cX2_copyFrom 44 = .ok (.getfield 22, 3) := by decide +kernel
theorem dX2_copyFrom_47 : decode cX2_copyFrom 47 = .ok (.putfield 22, 3) := by decide +kernel
theorem dX2_copyFrom_50 : decode cX2_copyFrom 50 = .ok (.aload_n 0, 1) := by decide +kernel
theorem dX2_copyFrom_51 : decode cX2_copyFrom 51 = .ok (.aload_n 1, 1) := by decide +kernel
theorem dX2_copyFrom_52 : decode cX2_copyFrom 52 = .ok (.getfield 25, 3) := by decide +kernel
theorem dX2_copyFrom_55 : decode cX2_copyFrom 55 = .ok (.putfield 25, 3) := by decide +kernel
theorem dX2_copyFrom_58 : decode cX2_copyFrom 58 = .ok (.aload_n 0, 1) := by decide +kernel
theorem dX2_copyFrom_59 : decode cX2_copyFrom 59 = .ok (.aload_n 1, 1) := by decide +kernel
theorem dX2_copyFrom_60 : decode cX2_copyFrom 60 = .ok (.getfield 28, 3) := by decide +kernel
theorem dX2_copyFrom_63 : decode cX2_copyFrom 63 = .ok (.putfield 28, 3) := by decide +kernel
theorem dX2_copyFrom_66 : decode cX2_copyFrom 66 = .ok (.aload_n 0, 1) := by decide +kernel
theorem dX2_copyFrom_67 : decode cX2_copyFrom 67 = .ok (.aload_n 1, 1) := by decide +kernel
theorem dX2_copyFrom_68 : decode cX2_copyFrom 68 = .ok (.getfield 31, 3) := by decide +kernel
theorem dX2_copyFrom_71 : decode cX2_copyFrom 71 = .ok (.putfield 31, 3) := by decide +kernel
theorem dX2_copyFrom_74 : decode cX2_copyFrom 74 = .ok (.aload_n 0, 1) := by decide +kernel
theorem dX2_copyFrom_75 : decode cX2_copyFrom 75 = .ok (.aload_n 1, 1) := by decide +kernel
theorem dX2_copyFrom_76 : decode cX2_copyFrom 76 = .ok (.getfield 34, 3) := by decide +kernel
theorem dX2_copyFrom_79 : decode cX2_copyFrom 79 = .ok (.putfield 34, 3) := by decide +kernel
theorem dX2_copyFrom_82 : decode cX2_copyFrom 82 = .ok (.aload_n 0, 1) := by decide +kernel
theorem dX2_copyFrom_83 : decode cX2_copyFrom 83 = .ok (.aload_n 1, 1) := by decide +kernel
theorem dX2_copyFrom_84 : decode cX2_copyFrom 84 = .ok (.getfield 37, 3) := by decide +kernel
theorem dX2_copyFrom_87 : decode cX2_copyFrom 87 = .ok (.putfield 37, 3) := by decide +kernel
theorem dX2_copyFrom_90 : decode cX2_copyFrom 90 = .ok (.return_, 1) := by decide +kernel
theorem dX2_placeOf_0 : decode cX2_placeOf 0 = .ok (.iconst 0, 1) := by decide +kernel
theorem dX2_placeOf_1 : decode cX2_placeOf 1 = .ok (.istore_n 2, 1) := by decide +kernel
theorem dX2_placeOf_2 : decode cX2_placeOf 2 = .ok (.iload_n 2, 1) := by decide +kernel
theorem dX2_placeOf_3 : decode cX2_placeOf 3 = .ok (.aload_n 0, 1) := by decide +kernel
theorem dX2_placeOf_4 : decode cX2_placeOf 4 = .ok (.getfield 15, 3) := by decide +kernel
theorem dX2_placeOf_7 : decode cX2_placeOf 7 = .ok (.if_icmp .ge 21, 3) := by decide +kernel
theorem dX2_placeOf_10 : decode cX2_placeOf 10 = .ok (.aload_n 0, 1) := by decide +kernel
theorem dX2_placeOf_11 : decode cX2_placeOf 11 = .ok (.getfield 9, 3) := by decide +kernel
theorem dX2_placeOf_14 : decode cX2_placeOf 14 = .ok (.iload_n 2, 1) := by decide +kernel
theorem dX2_placeOf_15 : decode cX2_placeOf 15 = .ok (.iaload, 1) := by decide +kernel
theorem dX2_placeOf_16 : decode cX2_placeOf 16 = .ok (.iload_n 1, 1) := by decide +kernel
theorem dX2_placeOf_17 : decode cX2_placeOf 17 = .ok (.if_icmp .ne 5, 3) := by decide +kernel
theorem dX2_placeOf_20 : decode cX2_placeOf 20 = .ok (.iload_n 2, 1) := by decide +kernel
theorem dX2_placeOf_21 : decode cX2_placeOf 21 = .ok (.ireturn, 1) := by decide +kernel
theorem dX2_placeOf_22 : decode cX2_placeOf 22 = .ok (.iinc 2 1, 3) := by decide +kernel
theorem dX2_placeOf_25 : decode cX2_placeOf 25 = .ok (.goto (-23), 3) := by decide +kernel
theorem dX2_placeOf_28 : decode cX2_placeOf 28 = .ok (.bipush (-5), 2) := by decide +kernel
theorem dX2_placeOf_30 : decode cX2_placeOf 30 = .ok (.ireturn, 1) := by decide +kernel
theorem dX2_addWish_0 : decode cX2_addWish 0 = .ok (.aload_n 0, 1) := by decide +kernel
theorem dX2_addWish_1 : decode cX2_addWish 1 = .ok (.getfield 15, 3) := by decide +kernel
theorem dX2_addWish_4 : decode cX2_addWish 4 = .ok (.bipush 6, 2) := by decide +kernel
theorem dX2_addWish_6 : decode cX2_addWish 6 = .ok (.if_icmp .ge 23, 3) := by decide +kernel
theorem dX2_addWish_9 : decode cX2_addWish 9 = .ok (.aload_n 0, 1) := by decide +kernel
theorem dX2_addWish_10 : decode cX2_addWish 10 = .ok (.getfield 9, 3) := by decide +kernel
theorem dX2_addWish_13 : decode cX2_addWish 13 = .ok (.aload_n 0, 1) := by decide +kernel
theorem dX2_addWish_14 : decode cX2_addWish 14 = .ok (.getfield 15, 3) := by decide +kernel
theorem dX2_addWish_17 : decode cX2_addWish 17 = .ok (.iload_n 1, 1) := by decide +kernel
theorem dX2_addWish_18 : decode cX2_addWish 18 = .ok (.iastore, 1) := by decide +kernel
theorem dX2_addWish_19 : decode cX2_addWish 19 = .ok (.aload_n 0, 1) := by decide +kernel
theorem dX2_addWish_20 : decode cX2_addWish 20 = .ok (.dup, 1) := by decide +kernel
theorem dX2_addWish_21 : decode cX2_addWish 21 = .ok (.getfield 15, 3) := by decide +kernel
theorem dX2_addWish_24 : decode cX2_addWish 24 = .ok (.iconst 1, 1) := by decide +kernel
theorem dX2_addWish_25 : decode cX2_addWish 25 = .ok (.iadd, 1) := by decide +kernel
theorem dX2_addWish_26 : decode cX2_addWish 26 = .ok (.putfield 15, 3) := by decide +kernel
theorem dX2_addWish_29 : decode cX2_addWish 29 = .ok (.return_, 1) := by decide +kernel
set_option maxRecDepth 20000 in
theorem ggX2_removeWish_X2_placeOf : GoodIn wsX2_removeWish wsX2_placeOf := goodIn_r _ [7, 1, 2, 8, 9, 10, 11, 12, 13, 14, 15, 16] (by decide +kernel) (by decide +kernel)
set_option maxRecDepth 20000 in
theorem gX2_removeWish_X2_placeOf : GoodIn wsX2_removeWish (wsV RX2 40 RX2 yX2_placeOf wsX2_placeOf) := goodIn_app (goodIn_of _ (by decide +kernel)) ggX2_removeWish_X2_placeOf
theorem dX2_removeWish_0 : decode cX2_removeWish 0 = .ok (.aload_n 0, 1) := by decide +kernel
theorem dX2_removeWish_1 : decode cX2_removeWish 1 = .ok (.iload_n 1, 1) := by decide +kernel
theorem dX2_removeWish_2 : decode cX2_removeWish 2 = .ok (.invokevirtual 40, 3) := by decide +kernel
theorem dX2_removeWish_5 : decode cX2_removeWish 5 = .ok (.istore_n 2, 1) := by decide +kernel
theorem dX2_removeWish_6 : decode cX2_removeWish 6 = .ok (.iload_n 2, 1) := by decide +kernel
theorem dX2_removeWish_7 : decode cX2_removeWish 7 = .ok (.bipush (-5), 2) := by decide +kernel
theorem dX2_removeWish_9 : decode cX2_removeWish 9 = .ok (.if_icmp .ne 4, 3) := by decide +kernel
theorem dX2_removeWish_12 : decode cX2_removeWish 12 = .ok (.return_, 1) := by decide +kernel
theorem dX2_removeWish_13 : decode cX2_removeWish 13 = .ok (.iload_n 2, 1) := by decide +kernel
theorem dX2_removeWish_14 : decode cX2_removeWish 14 = .ok (.iconst 1, 1) := by decide +kernel
theorem dX2_removeWish_15 : decode cX2_removeWish 15 = .ok (.iadd, 1) := by decide +kernel
theorem dX2_removeWish_16 : decode cX2_removeWish 16 = .ok (.istore_n 3, 1) := by decide +kernel
theorem dX2_removeWish_17 : decode cX2_removeWish 17 = .ok (.iload_n 3, 1) := by decide +kernel
theorem dX2_removeWish_18 : decode cX2_removeWish 18 = .ok (.aload_n 0, 1) := by decide +kernel
theorem dX2_removeWish_19 : decode cX2_removeWish 19 = .ok (.getfield 15, 3) := by decide +kernel
theorem dX2_removeWish_22 : decode cX2_removeWish 22 = .ok (.if_icmp .ge 23, 3) := by decide +kernel
theorem dX2_removeWish_25 : decode cX2_removeWish 25 = .ok (.aload_n 0, 1) := by decide +kernel
theorem dX2_removeWish_26 : decode cX2_removeWish 26 = .ok (.getfield 9, 3) := by decide +kernel
theorem dX2_removeWish_29 : decode cX2_removeWish 29 = .ok (.iload_n 3, 1) := by decide +kernel
theorem dX2_removeWish_30 : decode cX2_removeWish 30 = .ok (.iconst 1, 1) := by decide +kernel
theorem dX2_removeWish_31 : decode cX2_removeWish 31 = .ok (.isub, 1) := by decide +kernel
theorem dX2_removeWish_32 : decode cX2_removeWish 32 = .ok (.aload_n 0, 1) := by decide +kernel
theorem dX2_removeWish_33 : decode cX2_removeWish 33 = .ok (.getfield 9, 3) := by decide +kernel
theorem dX2_removeWish_36 : decode cX2_removeWish 36 = .ok (.iload_n 3, 1) := by decide +kernel
theorem dX2_removeWish_37 : decode cX2_removeWish 37 = .ok (.iaload, 1) := by decide +kernel
theorem dX2_removeWish_38 : decode cX2_removeWish 38 = .ok (.iastore, 1) := by decide +kernel
theorem dX2_removeWish_39 : decode cX2_removeWish 39 = .ok (.iinc 3 1, 3) := by decide +kernel
theorem dX2_removeWish_42 : decode cX2_removeWish 42 = .ok (.goto (-25), 3) := by decide +kernel
theorem dX2_removeWish_45 : decode cX2_removeWish 45 = .ok (.aload_n 0, 1) := by decide +kernel
theorem dX2_removeWish_46 : decode cX2_removeWish 46 = .ok (.dup, 1) := by decide +kernel
theorem dX2_removeWish_47 : decode cX2_removeWish 47 = .ok (.getfield 15, 3) := by decide +kernel
theorem dX2_removeWish_50 : decode cX2_removeWish 50 = .ok (.iconst 1, 1) := by decide +kernel
theorem dX2_removeWish_51 : decode cX2_removeWish 51 = .ok (.isub, 1) := by decide +kernel
theorem dX2_removeWish_52 : decode cX2_removeWish 52 = .ok (.putfield 15, 3) := by decide +kernel
theorem dX2_removeWish_55 : decode cX2_removeWish 55 = .ok (.return_, 1) := by decide +kernel
set_option maxRecDepth 20000 in
theorem ggX2_wishesMoreThanItsOwn_X2_placeOf : GoodIn wsX2_wishesMoreThanItsOwn wsX2_placeOf := goodIn_r _ [6, 7, 8, 9, 10, 11, 12, 13, 14, 15, 16, 17] (by decide +kernel) (by decide +kernel)
set_option maxRecDepth 20000 in
theorem gX2_wishesMoreThanItsOwn_X2_placeOf : GoodIn wsX2_wishesMoreThanItsOwn (wsV RX2 40 RX2 yX2_placeOf wsX2_placeOf) := goodIn_app (goodIn_of _ (by decide +kernel)) ggX2_wishesMoreThanItsOwn_X2_placeOf
theorem dX2_wishesMoreThanItsOwn_0 : decode cX2_wishesMoreThanItsOwn 0 = .ok (.aload_n 0, 1) := by decide +kernel
theorem dX2_wishesMoreThanItsOwn_1 : decode cX2_wishesMoreThanItsOwn 1 = .ok (.iload_n 1, 1) := by decide +kernel
theorem dX2_wishesMoreThanItsOwn_2 : decode cX2_wishesMoreThanItsOwn 2 = .ok (.invokevirtual 40, 3) := by decide +kernel
theorem dX2_wishesMoreThanItsOwn_5 : decode cX2_wishesMoreThanItsOwn 5 = .ok (.istore_n 2, 1) := by decide +kernel
theorem dX2_wishesMoreThanItsOwn_6 : decode cX2_wishesMoreThanItsOwn 6 = .ok (.aload_n 0, 1) := by decide +kernel
theorem dX2_wishesMoreThanItsOwn_7 : decode cX2_wishesMoreThanItsOwn 7 = .ok (.aload_n 0, 1) := by decide +kernel
theorem dX2_wishesMoreThanItsOwn_8 : decode cX2_wishesMoreThanItsOwn 8 = .ok (.getfield 31, 3) := by decide +kernel
theorem dX2_wishesMoreThanItsOwn_11 : decode cX2_wishesMoreThanItsOwn 11 = .ok (.invokevirtual 40, 3) := by decide +kernel
theorem dX2_wishesMoreThanItsOwn_14 : decode cX2_wishesMoreThanItsOwn 14 = .ok (.istore_n 3, 1) := by decide +kernel
theorem dX2_wishesMoreThanItsOwn_15 : decode cX2_wishesMoreThanItsOwn 15 = .ok (.iload_n 2, 1) := by decide +kernel
theorem dX2_wishesMoreThanItsOwn_16 : decode cX2_wishesMoreThanItsOwn 16 = .ok (.bipush (-5), 2) := by decide +kernel
theorem dX2_wishesMoreThanItsOwn_18 : decode cX2_wishesMoreThanItsOwn 18 = .ok (.if_icmp .eq 18, 3) := by decide +kernel
theorem dX2_wishesMoreThanItsOwn_21 : decode cX2_wishesMoreThanItsOwn 21 = .ok (.iload_n 3, 1) := by decide +kernel
theorem dX2_wishesMoreThanItsOwn_22 : decode cX2_wishesMoreThanItsOwn 22 = .ok (.bipush (-5), 2) := by decide +kernel
theorem dX2_wishesMoreThanItsOwn_24 : decode cX2_wishesMoreThanItsOwn 24 = .ok (.if_icmp .eq 8, 3) := by decide +kernel
theorem dX2_wishesMoreThanItsOwn_27 : decode cX2_wishesMoreThanItsOwn 27 = .ok (.iload_n 2, 1) := by decide +kernel
theorem dX2_wishesMoreThanItsOwn_28 : decode cX2_wishesMoreThanItsOwn 28 = .ok (.iload_n 3, 1) := by decide +kernel
theorem dX2_wishesMoreThanItsOwn_29 : decode cX2_wishesMoreThanItsOwn 29 = .ok (.if_icmp .ge 7, 3) := by decide +kernel
theorem dX2_wishesMoreThanItsOwn_32 : decode cX2_wishesMoreThanItsOwn 32 = .ok (.iconst 1, 1) := by decide +kernel
theorem dX2_wishesMoreThanItsOwn_33 : decode cX2_wishesMoreThanItsOwn 33 = .ok (.goto 4, 3) := by decide +kernel
theorem dX2_wishesMoreThanItsOwn_36 : decode cX2_wishesMoreThanItsOwn 36 = .ok (.iconst 0, 1) := by decide +kernel
theorem dX2_wishesMoreThanItsOwn_37 : decode cX2_wishesMoreThanItsOwn 37 = .ok (.ireturn, 1) := by decide +kernel
theorem dX2_isEligibleFor_0 : decode cX2_isEligibleFor 0 = .ok (.aload_n 0, 1) := by decide +kernel
theorem dX2_isEligibleFor_1 : decode cX2_isEligibleFor 1 = .ok (.getfield 19, 3) := by decide +kernel
theorem dX2_isEligibleFor_4 : decode cX2_isEligibleFor 4 = .ok (.iconst 2, 1) := by decide +kernel
theorem dX2_isEligibleFor_5 : decode cX2_isEligibleFor 5 = .ok (.aload_n 1, 1) := by decide +kernel
theorem dX2_isEligibleFor_6 : decode cX2_isEligibleFor 6 = .ok (.getfield 44, 3) := by decide +kernel
theorem dX2_isEligibleFor_9 : decode cX2_isEligibleFor 9 = .ok (.imul, 1) := by decide +kernel
theorem dX2_isEligibleFor_10 : decode cX2_isEligibleFor 10 = .ok (.if_icmp .gt 33, 3) := by decide +kernel
theorem dX2_isEligibleFor_13 : decode cX2_isEligibleFor 13 = .ok (.aload_n 1, 1) := by decide +kernel
theorem dX2_isEligibleFor_14 : decode cX2_isEligibleFor 14 = .ok (.getfield 44, 3) := by decide +kernel
theorem dX2_isEligibleFor_17 : decode cX2_isEligibleFor 17 = .ok (.aload_n 0, 1) := by decide +kernel
theorem dX2_isEligibleFor_18 : decode cX2_isEligibleFor 18 = .ok (.getfield 19, 3) := by decide +kernel
theorem dX2_isEligibleFor_21 : decode cX2_isEligibleFor 21 = .ok (.iconst 1, 1) := by decide +kernel
theorem dX2_isEligibleFor_22 : decode cX2_isEligibleFor 22 = .ok (.iadd, 1) := by decide +kernel
theorem dX2_isEligibleFor_23 : decode cX2_isEligibleFor 23 = .ok (.if_icmp .gt 20, 3) := by decide +kernel
theorem dX2_isEligibleFor_26 : decode cX2_isEligibleFor 26 = .ok (.iconst 3, 1) := by decide +kernel
theorem dX2_isEligibleFor_27 : decode cX2_isEligibleFor 27 = .ok (.aload_n 1, 1) := by decide +kernel
theorem dX2_isEligibleFor_28 : decode cX2_isEligibleFor 28 = .ok (.getfield 49, 3) := by decide +kernel
theorem dX2_isEligibleFor_31 : decode cX2_isEligibleFor 31 = .ok (.imul, 1) := by decide +kernel
theorem dX2_isEligibleFor_32 : decode cX2_isEligibleFor 32 = .ok (.aload_n 0, 1) := by decide +kernel
theorem dX2_isEligibleFor_33 : decode cX2_isEligibleFor 33 = .ok (.getfield 22, 3) := by decide +kernel
theorem dX2_isEligibleFor_36 : decode cX2_isEligibleFor 36 = .ok (.if_icmp .gt 7, 3) := by decide +kernel
theorem dX2_isEligibleFor_39 : decode cX2_isEligibleFor 39 = .ok (.iconst 1, 1) := by decide +kernel
theorem dX2_isEligibleFor_40 : decode cX2_isEligibleFor 40 = .ok (.goto 4, 3) := by decide +kernel
theorem dX2_isEligibleFor_43 : decode cX2_isEligibleFor 43 = .ok (.iconst 0, 1) := by decide +kernel
theorem dX2_isEligibleFor_44 : decode cX2_isEligibleFor 44 = .ok (.ireturn, 1) := by decide +kernel
theorem dX2_standsAheadOf_0 : decode cX2_standsAheadOf 0 = .ok (.aload_n 0, 1) := by decide +kernel
theorem dX2_standsAheadOf_1 : decode cX2_standsAheadOf 1 = .ok (.getfield 25, 3) := by decide +kernel
theorem dX2_standsAheadOf_4 : decode cX2_standsAheadOf 4 = .ok (.bipush (-5), 2) := by decide +kernel
theorem dX2_standsAheadOf_6 : decode cX2_standsAheadOf 6 = .ok (.if_icmp .ne 5, 3) := by decide +kernel
theorem dX2_standsAheadOf_9 : decode cX2_standsAheadOf 9 = .ok (.iconst 0, 1) := by decide +kernel
theorem dX2_standsAheadOf_10 : decode cX2_standsAheadOf 10 = .ok (.ireturn, 1) := by decide +kernel
theorem dX2_standsAheadOf_11 : decode cX2_standsAheadOf 11 = .ok (.aload_n 1, 1) := by decide +kernel
theorem dX2_standsAheadOf_12 : decode cX2_standsAheadOf 12 = .ok (.getfield 25, 3) := by decide +kernel
theorem dX2_standsAheadOf_15 : decode cX2_standsAheadOf 15 = .ok (.bipush (-5), 2) := by decide +kernel
theorem dX2_standsAheadOf_17 : decode cX2_standsAheadOf 17 = .ok (.if_icmp .ne 5, 3) := by decide +kernel
theorem dX2_standsAheadOf_20 : decode cX2_standsAheadOf 20 = .ok (.iconst 1, 1) := by decide +kernel
theorem dX2_standsAheadOf_21 : decode cX2_standsAheadOf 21 = .ok (.ireturn, 1) := by decide +kernel
theorem dX2_standsAheadOf_22 : decode cX2_standsAheadOf 22 = .ok (.aload_n 0, 1) := by decide +kernel
theorem dX2_standsAheadOf_23 : decode cX2_standsAheadOf 23 = .ok (.getfield 28, 3) := by decide +kernel
theorem dX2_standsAheadOf_26 : decode cX2_standsAheadOf 26 = .ok (.aload_n 1, 1) := by decide +kernel
theorem dX2_standsAheadOf_27 : decode cX2_standsAheadOf 27 = .ok (.getfield 28, 3) := by decide +kernel
theorem dX2_standsAheadOf_30 : decode cX2_standsAheadOf 30 = .ok (.if_icmp .eq 20, 3) := by decide +kernel
theorem dX2_standsAheadOf_33 : decode cX2_standsAheadOf 33 = .ok (.aload_n 0, 1) := by decide +kernel
theorem dX2_standsAheadOf_34 : decode cX2_standsAheadOf 34 = .ok (.getfield 28, 3) := by decide +kernel
theorem dX2_standsAheadOf_37 : decode cX2_standsAheadOf 37 = .ok (.aload_n 1, 1) := by decide +kernel
theorem dX2_standsAheadOf_38 : decode cX2_standsAheadOf 38 = .ok (.getfield 28, 3) := by decide +kernel
theorem dX2_standsAheadOf_41 : decode cX2_standsAheadOf 41 = .ok (.if_icmp .le 7, 3) := by decide +kernel
theorem dX2_standsAheadOf_44 : decode cX2_standsAheadOf 44 = .ok (.iconst 1, 1) := by decide +kernel
theorem dX2_standsAheadOf_45 : decode cX2_standsAheadOf 45 = .ok (.goto 4, 3) := by decide +kernel
theorem dX2_standsAheadOf_48 : decode cX2_standsAheadOf 48 = .ok (.iconst 0, 1) := by decide +kernel
theorem dX2_standsAheadOf_49 : decode cX2_standsAheadOf 49 = .ok (.ireturn, 1) := by decide +kernel
theorem dX2_standsAheadOf_50 : decode cX2_standsAheadOf 50 = .ok (.aload_n 0, 1) := by decide +kernel
theorem dX2_standsAheadOf_51 : decode cX2_standsAheadOf 51 = .ok (.getfield 25, 3) := by decide +kernel
theorem dX2_standsAheadOf_54 : decode cX2_standsAheadOf 54 = .ok (.aload_n 1, 1) := by decide +kernel
theorem dX2_standsAheadOf_55 : decode cX2_standsAheadOf 55 = .ok (.getfield 25, 3) := by decide +kernel
theorem dX2_standsAheadOf_58 : decode cX2_standsAheadOf 58 = .ok (.if_icmp .ge 7, 3) := by decide +kernel
theorem dX2_standsAheadOf_61 : decode cX2_standsAheadOf 61 = .ok (.iconst 1, 1) := by decide +kernel
theorem dX2_standsAheadOf_62 : decode cX2_standsAheadOf 62 = .ok (.goto 4, 3) := by decide +kernel
theorem dX2_standsAheadOf_65 : decode cX2_standsAheadOf 65 = .ok (.iconst 0, 1) := by decide +kernel
theorem dX2_standsAheadOf_66 : decode cX2_standsAheadOf 66 = .ok (.ireturn, 1) := by decide +kernel
theorem dX3_init_0 : decode cX3_init 0 = .ok (.aload_n 0, 1) := by decide +kernel
theorem dX3_init_1 : decode cX3_init 1 = .ok (.invokespecial 3, 3) := by decide +kernel
theorem dX3_init_4 : decode cX3_init 4 = .ok (.aload_n 0, 1) := by decide +kernel
theorem dX3_init_5 : decode cX3_init 5 = .ok (.bipush 60, 2) := by decide +kernel
theorem dX3_init_7 : decode cX3_init 7 = .ok (.newarray .char, 2) := by decide +kernel
theorem dX3_init_9 : decode cX3_init 9 = .ok (.putfield 9, 3) := by decide +kernel
theorem dX3_init_12 : decode cX3_init 12 = .ok (.aload_n 0, 1) := by decide +kernel
theorem dX3_init_13 : decode cX3_init 13 = .ok (.bipush 16, 2) := by decide +kernel
theorem dX3_init_15 : decode cX3_init 15 = .ok (.newarray .int, 2) := by decide +kernel
theorem dX3_init_17 : decode cX3_init 17 = .ok (.putfield 15, 3) := by decide +kernel
theorem dX3_init_20 : decode cX3_init 20 = .ok (.aload_n 0, 1) := by decide +kernel
theorem dX3_init_21 : decode cX3_init 21 = .ok (.bipush 16, 2) := by decide +kernel
theorem dX3_init_23 : decode cX3_init 23 = .ok (.newarray .int, 2) := by decide +kernel
theorem dX3_init_25 : decode cX3_init 25 = .ok (.putfield 19, 3) := by decide +kernel
theorem dX3_init_28 : decode cX3_init 28 = .ok (.aload_n 0, 1) := by decide +kernel
theorem dX3_init_29 : decode cX3_init 29 = .ok (.bipush 96, 2) := by decide +kernel
theorem dX3_init_31 : decode cX3_init 31 = .ok (.newarray .int, 2) := by decide +kernel
theorem dX3_init_33 : decode cX3_init 33 = .ok (.putfield 22, 3) := by decide +kernel
theorem dX3_init_36 : decode cX3_init 36 = .ok (.return_, 1) := by decide +kernel
theorem dX3_append_0 : decode cX3_append 0 = .ok (.aload_n 0, 1) := by decide +kernel
theorem dX3_append_1 : decode cX3_append 1 = .ok (.getfield 25, 3) := by decide +kernel
theorem dX3_append_4 : decode cX3_append 4 = .ok (.bipush 60, 2) := by decide +kernel
theorem dX3_append_6 : decode cX3_append 6 = .ok (.if_icmp .lt 5, 3) := by decide +kernel
theorem dX3_append_9 : decode cX3_append 9 = .ok (.iconst 0, 1) := by decide +kernel
theorem dX3_append_10 : decode cX3_append 10 = .ok (.ireturn, 1) := by decide +kernel
theorem dX3_append_11 : decode cX3_append 11 = .ok (.aload_n 0, 1) := by decide +kernel
theorem dX3_append_12 : decode cX3_append 12 = .ok (.getfield 9, 3) := by decide +kernel
theorem dX3_append_15 : decode cX3_append 15 = .ok (.aload_n 0, 1) := by decide +kernel
theorem dX3_append_16 : decode cX3_append 16 = .ok (.getfield 25, 3) := by decide +kernel
theorem dX3_append_19 : decode cX3_append 19 = .ok (.iload_n 1, 1) := by decide +kernel
theorem dX3_append_20 : decode cX3_append 20 = .ok (.castore, 1) := by decide +kernel
theorem dX3_append_21 : decode cX3_append 21 = .ok (.aload_n 0, 1) := by decide +kernel
theorem dX3_append_22 : decode cX3_append 22 = .ok (.dup, 1) := by decide +kernel
theorem dX3_append_23 : decode cX3_append 23 = .ok (.getfield 25, 3) := by decide +kernel
theorem dX3_append_26 : decode cX3_append 26 = .ok (.iconst 1, 1) := by decide +kernel
theorem dX3_append_27 : decode cX3_append 27 = .ok (.iadd, 1) := by decide +kernel
theorem dX3_append_28 : decode cX3_append 28 = .ok (.putfield 25, 3) := by decide +kernel
theorem dX3_append_31 : decode cX3_append 31 = .ok (.iconst 1, 1) := by decide +kernel
theorem dX3_append_32 : decode cX3_append 32 = .ok (.ireturn, 1) := by decide +kernel
set_option maxRecDepth 20000 in
theorem ggX3_findFault_X3_readList : GoodIn wsX3_findFault wsX3_readList := goodIn_r _ [7, 1, 8, 2, 9, 10, 11, 12, 13, 6, 14, 15, 16, 17, 18, 19, 20, 21, 22, 23, 24, 25, 26, 27, 28, 29, 30, 31] (by decide +kernel) (by decide +kernel)
set_option maxRecDepth 20000 in
theorem gX3_findFault_X3_readList : GoodIn wsX3_findFault (wsV RX3 35 RX3 yX3_readList wsX3_readList) := goodIn_app (goodIn_of _ (by decide +kernel)) ggX3_findFault_X3_readList
set_option maxRecDepth 20000 in
theorem ggX3_findFault_X3_atHand : GoodIn wsX3_findFault wsX3_atHand := goodIn_r _ [22, 1, 23, 24, 25, 26, 27, 28, 29, 30, 31] (by decide +kernel) (by decide +kernel)
set_option maxRecDepth 20000 in
theorem gX3_findFault_X3_atHand : GoodIn wsX3_findFault (wsV RX3 39 RX3 yX3_atHand wsX3_atHand) := goodIn_app (goodIn_of _ (by decide +kernel)) ggX3_findFault_X3_atHand
theorem dX3_findFault_0 : decode cX3_findFault 0 = .ok (.aload_n 0, 1) := by decide +kernel
theorem dX3_findFault_1 : decode cX3_findFault 1 = .ok (.iconst 0, 1) := by decide +kernel
theorem dX3_findFault_2 : decode cX3_findFault 2 = .ok (.putfield 29, 3) := by decide +kernel
theorem dX3_findFault_5 : decode cX3_findFault 5 = .ok (.aload_n 0, 1) := by decide +kernel
theorem dX3_findFault_6 : decode cX3_findFault 6 = .ok (.iconst 0, 1) := by decide +kernel
theorem dX3_findFault_7 : decode cX3_findFault 7 = .ok (.putfield 32, 3) := by decide +kernel
theorem dX3_findFault_10 : decode cX3_findFault 10 = .ok (.aload_n 0, 1) := by decide +kernel
theorem dX3_findFault_11 : decode cX3_findFault 11 = .ok (.getfield 32, 3) := by decide +kernel
theorem dX3_findFault_14 : decode cX3_findFault 14 = .ok (.bipush 16, 2) := by decide +kernel
theorem dX3_findFault_16 : decode cX3_findFault 16 = .ok (.if_icmp .ge 63, 3) := by decide +kernel
theorem dX3_findFault_19 : decode cX3_findFault 19 = .ok (.aload_n 0, 1) := by decide +kernel
theorem dX3_findFault_20 : decode cX3_findFault 20 = .ok (.invokevirtual 35, 3) := by decide +kernel
theorem dX3_findFault_23 : decode cX3_findFault 23 = .ok (.ifCond .ne 8, 3) := by decide +kernel
theorem dX3_findFault_26 : decode cX3_findFault 26 = .ok (.aload_n 0, 1) := by decide +kernel
theorem dX3_findFault_27 : decode cX3_findFault 27 = .ok (.getfield 29, 3) := by decide +kernel
theorem dX3_findFault_30 : decode cX3_findFault 30 = .ok (.ireturn, 1) := by decide +kernel
theorem dX3_findFault_31 : decode cX3_findFault 31 = .ok (.aload_n 0, 1) := by decide +kernel
theorem dX3_findFault_32 : decode cX3_findFault 32 = .ok (.dup, 1) := by decide +kernel
theorem dX3_findFault_33 : decode cX3_findFault 33 = .ok (.getfield 32, 3) := by decide +kernel
theorem dX3_findFault_36 : decode cX3_findFault 36 = .ok (.iconst 1, 1) := by decide +kernel
theorem dX3_findFault_37 : decode cX3_findFault 37 = .ok (.iadd, 1) := by decide +kernel
theorem dX3_findFault_38 : decode cX3_findFault 38 = .ok (.putfield 32, 3) := by decide +kernel
theorem dX3_findFault_41 : decode cX3_findFault 41 = .ok (.aload_n 0, 1) := by decide +kernel
theorem dX3_findFault_42 : decode cX3_findFault 42 = .ok (.invokevirtual 39, 3) := by decide +kernel
theorem dX3_findFault_45 : decode cX3_findFault 45 = .ok (.iconst (-1), 1) := by decide +kernel
theorem dX3_findFault_46 : decode cX3_findFault 46 = .ok (.if_icmp .ne 6, 3) := by decide +kernel
theorem dX3_findFault_49 : decode cX3_findFault 49 = .ok (.bipush (-5), 2) := by decide +kernel
theorem dX3_findFault_51 : decode cX3_findFault 51 = .ok (.ireturn, 1) := by decide +kernel
theorem dX3_findFault_52 : decode cX3_findFault 52 = .ok (.aload_n 0, 1) := by decide +kernel
theorem dX3_findFault_53 : decode cX3_findFault 53 = .ok (.invokevirtual 39, 3) := by decide +kernel
theorem dX3_findFault_56 : decode cX3_findFault 56 = .ok (.bipush 59, 2) := by decide +kernel
theorem dX3_findFault_58 : decode cX3_findFault 58 = .ok (.if_icmp .eq 8, 3) := by decide +kernel
theorem dX3_findFault_61 : decode cX3_findFault 61 = .ok (.aload_n 0, 1) := by decide +kernel
theorem dX3_findFault_62 : decode cX3_findFault 62 = .ok (.getfield 29, 3) := by decide +kernel
theorem dX3_findFault_65 : decode cX3_findFault 65 = .ok (.ireturn, 1) := by decide +kernel
theorem dX3_findFault_66 : decode cX3_findFault 66 = .ok (.aload_n 0, 1) := by decide +kernel
theorem dX3_findFault_67 : decode cX3_findFault 67 = .ok (.dup, 1) := by decide +kernel
theorem dX3_findFault_68 : decode cX3_findFault 68 = .ok (.getfield 29, 3) := by decide +kernel
theorem dX3_findFault_71 : decode cX3_findFault 71 = .ok (.iconst 1, 1) := by decide +kernel
theorem dX3_findFault_72 : decode cX3_findFault 72 = .ok (.iadd, 1) := by decide +kernel
theorem dX3_findFault_73 : decode cX3_findFault 73 = .ok (.putfield 29, 3) := by decide +kernel
theorem dX3_findFault_76 : decode cX3_findFault 76 = .ok (.goto (-66), 3) := by decide +kernel
theorem dX3_findFault_79 : decode cX3_findFault 79 = .ok (.aload_n 0, 1) := by decide +kernel
theorem dX3_findFault_80 : decode cX3_findFault 80 = .ok (.getfield 29, 3) := by decide +kernel
theorem dX3_findFault_83 : decode cX3_findFault 83 = .ok (.ireturn, 1) := by decide +kernel
theorem dX3_atHand_0 : decode cX3_atHand 0 = .ok (.aload_n 0, 1) := by decide +kernel
theorem dX3_atHand_1 : decode cX3_atHand 1 = .ok (.getfield 29, 3) := by decide +kernel
theorem dX3_atHand_4 : decode cX3_atHand 4 = .ok (.ifCond .lt 26, 3) := by decide +kernel
theorem dX3_atHand_7 : decode cX3_atHand 7 = .ok (.aload_n 0, 1) := by decide +kernel
theorem dX3_atHand_8 : decode cX3_atHand 8 = .ok (.getfield 29, 3) := by decide +kernel
theorem dX3_atHand_11 : decode cX3_atHand 11 = .ok (.aload_n 0, 1) := by decide +kernel
theorem dX3_atHand_12 : decode cX3_atHand 12 = .ok (.getfield 25, 3) := by decide +kernel
theorem dX3_atHand_15 : decode cX3_atHand 15 = .ok (.if_icmp .ge 15, 3) := by decide +kernel
theorem dX3_atHand_18 : decode cX3_atHand 18 = .ok (.aload_n 0, 1) := by decide +kernel
theorem dX3_atHand_19 : decode cX3_atHand 19 = .ok (.getfield 9, 3) := by decide +kernel
theorem dX3_atHand_22 : decode cX3_atHand 22 = .ok (.aload_n 0, 1) := by decide +kernel
theorem dX3_atHand_23 : decode cX3_atHand 23 = .ok (.getfield 29, 3) := by decide +kernel
theorem dX3_atHand_26 : decode cX3_atHand 26 = .ok (.caload, 1) := by decide +kernel
theorem dX3_atHand_27 : decode cX3_atHand 27 = .ok (.goto 4, 3) := by decide +kernel
theorem dX3_atHand_30 : decode cX3_atHand 30 = .ok (.iconst (-1), 1) := by decide +kernel
theorem dX3_atHand_31 : decode cX3_atHand 31 = .ok (.ireturn, 1) := by decide +kernel
set_option maxRecDepth 20000 in
theorem ggX3_readList_X3_readNumber : GoodIn wsX3_readList wsX3_readNumber := goodIn_r _ [10, 1, 11, 12, 13, 9, 14, 15, 16, 17, 18, 19, 20, 21, 22, 23, 24, 25, 26, 27] (by decide +kernel) (by decide +kernel)
set_option maxRecDepth 20000 in
theorem gX3_readList_X3_readNumber : GoodIn wsX3_readList (wsV RX3 43 RX3 yX3_readNumber wsX3_readNumber) := goodIn_app (goodIn_of _ (by decide +kernel)) ggX3_readList_X3_readNumber
set_option maxRecDepth 20000 in
theorem ggX3_readList_X3_atHand : GoodIn wsX3_readList wsX3_atHand := goodIn_r _ [18, 1, 19, 20, 21, 22, 23, 24, 25, 26, 27] (by decide +kernel) (by decide +kernel)
set_option maxRecDepth 20000 in
theorem gX3_readList_X3_atHand : GoodIn wsX3_readList (wsV RX3 39 RX3 yX3_atHand wsX3_atHand) := goodIn_app (goodIn_of _ (by decide +kernel)) ggX3_readList_X3_atHand
theorem dX3_readList_0 : decode cX3_readList 0 = .ok (.aload_n 0, 1) := by decide +kernel
theorem dX3_readList_1 : decode cX3_readList 1 = .ok (.invokevirtual 43, 3) := by decide +kernel
theorem dX3_readList_4 : decode cX3_readList 4 = .ok (.istore_n 1, 1) := by decide +kernel
theorem dX3_readList_5 : decode cX3_readList 5 = .ok (.iload_n 1, 1) := by decide +kernel
theorem dX3_readList_6 : decode cX3_readList 6 = .ok (.bipush (-5), 2) := by decide +kernel
theorem dX3_readList_8 : decode cX3_readList 8 = .ok (.if_icmp .eq 12, 3) := by decide +kernel
theorem dX3_readList_11 : decode cX3_readList 11 = .ok (.aload_n 0, 1) := by decide +kernel
theorem dX3_readList_12 : decode cX3_readList 12 = .ok (.invokevirtual 39, 3) := by decide +kernel
theorem dX3_readList_15 : decode cX3_readList 15 = .ok (.bipush 58, 2) := by decide +kernel
theorem dX3_readList_17 : decode cX3_readList 17 = .ok (.if_icmp .eq 5, 3) := by decide +kernel
theorem dX3_readList_20 : decode cX3_readList 20 = .ok (.iconst 0, 1) := by decide +kernel
theorem dX3_readList_21 : decode cX3_readList 21 = .ok (.ireturn, 1) := by decide +kernel
theorem dX3_readList_22 : decode cX3_readList 22 = .ok (.aload_n 0, 1) := by decide +kernel
theorem dX3_readList_23 : decode cX3_readList 23 = .ok (.dup, 1) := by decide +kernel
theorem dX3_readList_24 : decode cX3_readList 24 = .ok (.getfield 29, 3) := by decide +kernel
theorem dX3_readList_27 : decode cX3_readList 27 = .ok (.iconst 1, 1) := by decide +kernel
theorem dX3_readList_28 : decode cX3_readList 28 = .ok (.iadd, 1) := by decide +kernel
theorem dX3_readList_29 : decode cX3_readList 29 = .ok (.putfield 29, 3) := by decide +kernel
theorem dX3_readList_32 : decode cX3_readList 32 = .ok (.aload_n 0, 1) := by decide +kernel
theorem dX3_readList_33 : decode cX3_readList 33 = .ok (.getfield 15, 3) := by decide +kernel
theorem dX3_readList_36 : decode cX3_readList 36 = .ok (.aload_n 0, 1) := by decide +kernel
theorem dX3_readList_37 : decode cX3_readList 37 = .ok (.getfield 32, 3) := by decide +kernel
theorem dX3_readList_40 : decode cX3_readList 40 = .ok (.iload_n 1, 1) := by decide +kernel
theorem dX3_readList_41 : decode cX3_readList 41 = .ok (.iastore, 1) := by decide +kernel
theorem dX3_readList_42 : decode cX3_readList 42 = .ok (.iconst 0, 1) := by decide +kernel
theorem dX3_readList_43 : decode cX3_readList 43 = .ok (.istore_n 2, 1) := by decide +kernel
theorem dX3_readList_44 : decode cX3_readList 44 = .ok (.iload_n 2, 1) := by decide +kernel
theorem dX3_readList_45 : decode cX3_readList 45 = .ok (.bipush 6, 2) := by decide +kernel
theorem dX3_readList_47 : decode cX3_readList 47 = .ok (.if_icmp .ge 75, 3) := by decide +kernel
theorem dX3_readList_50 : decode cX3_readList 50 = .ok (.aload_n 0, 1) := by decide +kernel
theorem dX3_readList_51 : decode cX3_readList 51 = .ok (.invokevirtual 43, 3) := by decide +kernel
theorem dX3_readList_54 : decode cX3_readList 54 = .ok (.istore_n 3, 1) := by decide +kernel
theorem dX3_readList_55 : decode cX3_readList 55 = .ok (.iload_n 3, 1) := by decide +kernel
theorem dX3_readList_56 : decode cX3_readList 56 = .ok (.bipush (-5), 2) := by decide +kernel
theorem dX3_readList_58 : decode cX3_readList 58 = .ok (.if_icmp .ne 5, 3) := by decide +kernel
theorem dX3_readList_61 : decode cX3_readList 61 = .ok (.iconst 0, 1) := by decide +kernel
theorem dX3_readList_62 : decode cX3_readList 62 = .ok (.ireturn, 1) := by decide +kernel
theorem dX3_readList_63 : decode cX3_readList 63 = .ok (.aload_n 0, 1) := by decide +kernel
theorem dX3_readList_64 : decode cX3_readList 64 = .ok (.getfield 22, 3) := by decide +kernel
theorem dX3_readList_67 : decode cX3_readList 67 = .ok (.aload_n 0, 1) := by decide +kernel
theorem dX3_readList_68 : decode cX3_readList 68 = .ok (.getfield 32, 3) := by decide +kernel
theorem dX3_readList_71 : decode cX3_readList 71 = .ok (.bipush 6, 2) := by decide +kernel
theorem dX3_readList_73 : decode cX3_readList 73 = .ok (.imul, 1) := by decide +kernel
theorem dX3_readList_74 : decode cX3_readList 74 = .ok (.iload_n 2, 1) := by decide +kernel
theorem dX3_readList_75 : decode cX3_readList 75 = .ok (.iadd, 1) := by decide +kernel
theorem dX3_readList_76 : decode cX3_readList 76 = .ok (.iload_n 3, 1) := by decide +kernel
theorem dX3_readList_77 : decode cX3_readList 77 = .ok (.iastore, 1) := by decide +kernel
theorem dX3_readList_78 : decode cX3_readList 78 = .ok (.aload_n 0, 1) := by decide +kernel
theorem dX3_readList_79 : decode cX3_readList 79 = .ok (.getfield 19, 3) := by decide +kernel
theorem dX3_readList_82 : decode cX3_readList 82 = .ok (.aload_n 0, 1) := by decide +kernel
theorem dX3_readList_83 : decode cX3_readList 83 = .ok (.getfield 32, 3) := by decide +kernel
theorem dX3_readList_86 : decode cX3_readList 86 = .ok (.iload_n 2, 1) := by decide +kernel
theorem dX3_readList_87 : decode cX3_readList 87 = .ok (.iconst 1, 1) := by decide +kernel
theorem dX3_readList_88 : decode cX3_readList 88 = .ok (.iadd, 1) := by decide +kernel
theorem dX3_readList_89 : decode cX3_readList 89 = .ok (.iastore, 1) := by decide +kernel
theorem dX3_readList_90 : decode cX3_readList 90 = .ok (.aload_n 0, 1) := by decide +kernel
theorem dX3_readList_91 : decode cX3_readList 91 = .ok (.invokevirtual 39, 3) := by decide +kernel
theorem dX3_readList_94 : decode cX3_readList 94 = .ok (.bipush 44, 2) := by decide +kernel
theorem dX3_readList_96 : decode cX3_readList 96 = .ok (.if_icmp .ne 8, 3) := by decide +kernel
theorem dX3_readList_99 : decode cX3_readList 99 = .ok (.iload_n 2, 1) := by decide +kernel
theorem dX3_readList_100 : decode cX3_readList 100 = .ok (.iconst 5, 1) := by decide +kernel
theorem dX3_readList_101 : decode cX3_readList 101 = .ok (.if_icmp .ne 5, 3) := by decide +kernel
theorem dX3_readList_104 : decode cX3_readList 104 = .ok (.iconst 1, 1) := by decide +kernel
theorem dX3_readList_105 : decode cX3_readList 105 = .ok (.ireturn, 1) := by decide +kernel
theorem dX3_readList_106 : decode cX3_readList 106 = .ok (.aload_n 0, 1) := by decide +kernel
theorem dX3_readList_107 : decode cX3_readList 107 = .ok (.dup, 1) := by decide +kernel
theorem dX3_readList_108 : decode cX3_readList 108 = .ok (.getfield 29, 3) := by decide +kernel
theorem dX3_readList_111 : decode cX3_readList 111 = .ok (.iconst 1, 1) := by decide +kernel
theorem dX3_readList_112 : decode cX3_readList 112 = .ok (.iadd, 1) := by decide +kernel
theorem dX3_readList_113 : decode cX3_readList 113 = .ok (.putfield 29, 3) := by decide +kernel
theorem dX3_readList_116 : decode cX3_readList 116 = .ok (.iinc 2 1, 3) := by decide +kernel
theorem dX3_readList_119 : decode cX3_readList 119 = .ok (.goto (-75), 3) := by decide +kernel
theorem dX3_readList_122 : decode cX3_readList 122 = .ok (.iconst 1, 1) := by decide +kernel
theorem dX3_readList_123 : decode cX3_readList 123 = .ok (.ireturn, 1) := by decide +kernel
set_option maxRecDepth 20000 in
theorem ggX3_readNumber_X3_digitAtHand : GoodIn wsX3_readNumber wsX3_digitAtHand := goodIn_r _ [6, 7, 8, 9, 5, 10, 1, 11, 12, 13, 14, 15, 16, 17, 18, 19] (by decide +kernel) (by decide +kernel)
set_option maxRecDepth 20000 in
theorem gX3_readNumber_X3_digitAtHand : GoodIn wsX3_readNumber (wsV RX3 46 RX3 yX3_digitAtHand wsX3_digitAtHand) := goodIn_app (goodIn_of _ (by decide +kernel)) ggX3_readNumber_X3_digitAtHand
theorem dX3_readNumber_0 : decode cX3_readNumber 0 = .ok (.aload_n 0, 1) := by decide +kernel
theorem dX3_readNumber_1 : decode cX3_readNumber 1 = .ok (.invokevirtual 46, 3) := by decide +kernel
theorem dX3_readNumber_4 : decode cX3_readNumber 4 = .ok (.istore_n 1, 1) := by decide +kernel
theorem dX3_readNumber_5 : decode cX3_readNumber 5 = .ok (.iload_n 1, 1) := by decide +kernel
theorem dX3_readNumber_6 : decode cX3_readNumber 6 = .ok (.bipush (-5), 2) := by decide +kernel
theorem dX3_readNumber_8 : decode cX3_readNumber 8 = .ok (.if_icmp .ne 6, 3) := by decide +kernel
theorem dX3_readNumber_11 : decode cX3_readNumber 11 = .ok (.bipush (-5), 2) := by decide +kernel
theorem dX3_readNumber_13 : decode cX3_readNumber 13 = .ok (.ireturn, 1) := by decide +kernel
theorem dX3_readNumber_14 : decode cX3_readNumber 14 = .ok (.aload_n 0, 1) := by decide +kernel
theorem dX3_readNumber_15 : decode cX3_readNumber 15 = .ok (.dup, 1) := by decide +kernel
theorem dX3_readNumber_16 : decode cX3_readNumber 16 = .ok (.getfield 29, 3) := by decide +kernel
theorem dX3_readNumber_19 : decode cX3_readNumber 19 = .ok (.iconst 1, 1) := by decide +kernel
theorem dX3_readNumber_20 : decode cX3_readNumber 20 = .ok (.iadd, 1) := by decide +kernel
theorem dX3_readNumber_21 : decode cX3_readNumber 21 = .ok (.putfield 29, 3) := by decide +kernel
theorem dX3_readNumber_24 : decode cX3_readNumber 24 = .ok (.aload_n 0, 1) := by decide +kernel
theorem dX3_readNumber_25 : decode cX3_readNumber 25 = .ok (.invokevirtual 46, 3) := by decide +kernel
theorem dX3_readNumber_28 : decode cX3_readNumber 28 = .ok (.istore_n 2, 1) := by decide +kernel
theorem dX3_readNumber_29 : decode cX3_readNumber 29 = .ok (.iload_n 1, 1) := by decide +kernel
theorem dX3_readNumber_30 : decode cX3_readNumber 30 = .ok (.iconst 1, 1) := by decide +kernel
theorem dX3_readNumber_31 : decode cX3_readNumber 31 = .ok (.if_icmp .ne 14, 3) := by decide +kernel
theorem dX3_readNumber_34 : decode cX3_readNumber 34 = .ok (.iload_n 2, 1) := by decide +kernel
theorem dX3_readNumber_35 : decode cX3_readNumber 35 = .ok (.bipush (-5), 2) := by decide +kernel
theorem dX3_readNumber_37 : decode cX3_readNumber 37 = .ok (.if_icmp .eq 8, 3) := by decide +kernel
theorem dX3_readNumber_40 : decode cX3_readNumber 40 = .ok (.iload_n 2, 1) := by decide +kernel
theorem dX3_readNumber_41 : decode cX3_readNumber 41 = .ok (.iconst 1, 1) := by decide +kernel
theorem dX3_readNumber_42 : decode cX3_readNumber 42 = .ok (.if_icmp .le 5, 3) := by decide +kernel
theorem dX3_readNumber_45 : decode cX3_readNumber 45 = .ok (.iload_n 1, 1) := by decide +kernel
theorem dX3_readNumber_46 : decode cX3_readNumber 46 = .ok (.ireturn, 1) := by decide +kernel
theorem dX3_readNumber_47 : decode cX3_readNumber 47 = .ok (.aload_n 0, 1) := by decide +kernel
theorem dX3_readNumber_48 : decode cX3_readNumber 48 = .ok (.dup, 1) := by decide +kernel
theorem dX3_readNumber_49 : decode cX3_readNumber 49 = .ok (.getfield 29, 3) := by decide +kernel
theorem dX3_readNumber_52 : decode cX3_readNumber 52 = .ok (.iconst 1, 1) := by decide +kernel
theorem dX3_readNumber_53 : decode cX3_readNumber 53 = .ok (.iadd, 1) := by decide +kernel
theorem dX3_readNumber_54 : decode cX3_readNumber 54 = .ok (.putfield 29, 3) := by decide +kernel
theorem dX3_readNumber_57 : decode cX3_readNumber 57 = .ok (.bipush 10, 2) := by decide +kernel
theorem dX3_readNumber_59 : decode cX3_readNumber 59 = .ok (.iload_n 2, 1) := by decide +kernel
theorem dX3_readNumber_60 : decode cX3_readNumber 60 = .ok (.iadd, 1) := by decide +kernel
theorem dX3_readNumber_61 : decode cX3_readNumber 61 = .ok (.ireturn, 1) := by decide +kernel
set_option maxRecDepth 20000 in
theorem ggX3_digitAtHand_X3_atHand : GoodIn wsX3_digitAtHand wsX3_atHand := goodIn_r _ [5, 6, 7, 8, 9, 10, 11, 12, 13, 14, 15] (by decide +kernel) (by decide +kernel)
set_option maxRecDepth 20000 in
theorem gX3_digitAtHand_X3_atHand : GoodIn wsX3_digitAtHand (wsV RX3 39 RX3 yX3_atHand wsX3_atHand) := goodIn_app (goodIn_of _ (by decide +kernel)) ggX3_digitAtHand_X3_atHand
theorem dX3_digitAtHand_0 : decode cX3_digitAtHand 0 = .ok (.aload_n 0, 1) := by decide +kernel
theorem dX3_digitAtHand_1 : decode cX3_digitAtHand 1 = .ok (.invokevirtual 39, 3) := by decide +kernel
theorem dX3_digitAtHand_4 : decode cX3_digitAtHand 4 = .ok (.istore_n 1, 1) := by decide +kernel
theorem dX3_digitAtHand_5 : decode cX3_digitAtHand 5 = .ok (.iload_n 1, 1) := by decide +kernel
theorem dX3_digitAtHand_6 : decode cX3_digitAtHand 6 = .ok (.bipush 48, 2) := by decide +kernel
theorem dX3_digitAtHand_8 : decode cX3_digitAtHand 8 = .ok (.if_icmp .lt 16, 3) := by decide +kernel
theorem dX3_digitAtHand_11 : decode cX3_digitAtHand 11 = .ok (.iload_n 1, 1) := by decide +kernel
theorem dX3_digitAtHand_12 : decode cX3_digitAtHand 12 = .ok (.bipush 57, 2) := by decide +kernel
theorem dX3_digitAtHand_14 : decode cX3_digitAtHand 14 = .ok (.if_icmp .gt 10, 3) := by decide +kernel
theorem dX3_digitAtHand_17 : decode cX3_digitAtHand 17 = .ok (.iload_n 1, 1) := by decide +kernel
theorem dX3_digitAtHand_18 : decode cX3_digitAtHand 18 = .ok (.bipush 48, 2) := by decide +kernel
theorem dX3_digitAtHand_20 : decode cX3_digitAtHand 20 = .ok (.isub, 1) := by decide +kernel
theorem dX3_digitAtHand_21 : decode cX3_digitAtHand 21 = .ok (.goto 5, 3) := by decide +kernel
theorem dX3_digitAtHand_24 : decode cX3_digitAtHand 24 = .ok (.bipush (-5), 2) := by decide +kernel
theorem dX3_digitAtHand_26 : decode cX3_digitAtHand 26 = .ok (.ireturn, 1) := by decide +kernel
set_option maxRecDepth 20000 in
theorem ggX3_namesOnlyKnown_X6_hasHousehold : GoodIn wsX3_namesOnlyKnown wsX6_hasHousehold := goodIn_r _ [9, 10, 23, 24, 25, 26, 27, 28, 29, 30] (by decide +kernel) (by decide +kernel)
set_option maxRecDepth 20000 in
theorem gX3_namesOnlyKnown_X6_hasHousehold : GoodIn wsX3_namesOnlyKnown (wsV RX3 49 RX6 yX6_hasHousehold wsX6_hasHousehold) := goodIn_app (goodIn_of _ (by decide +kernel)) ggX3_namesOnlyKnown_X6_hasHousehold
set_option maxRecDepth 20000 in
theorem ggX3_namesOnlyKnown_X6_hasFlat : GoodIn wsX3_namesOnlyKnown wsX6_hasFlat := goodIn_r _ [14, 15, 23, 24, 25, 26, 27, 28, 29, 30] (by decide +kernel) (by decide +kernel)
set_option maxRecDepth 20000 in
theorem gX3_namesOnlyKnown_X6_hasFlat : GoodIn wsX3_namesOnlyKnown (wsV RX3 55 RX6 yX6_hasFlat wsX6_hasFlat) := goodIn_app (goodIn_of _ (by decide +kernel)) ggX3_namesOnlyKnown_X6_hasFlat
