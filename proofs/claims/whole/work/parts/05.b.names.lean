/-! names, field tables, words: printed by wip/whole/gen/names.py -/
def RX0 : String := "BoxChoice$Catalogue"
def TX0 : u_T := fun k => match k with
  | 0 => ("BoxChoice$Catalogue", "rooms", "[I", true)
  | 1 => ("BoxChoice$Catalogue", "loads", "[I", true)
  | 2 => ("BoxChoice$Catalogue", "costs", "[I", true)
  | 3 => ("BoxChoice$Catalogue", "kindSets", "[I", true)
  | 4 => ("BoxChoice$Catalogue", "held", "I", false)
  | _ => ("BoxChoice$Catalogue", "keptSlack", "I", false)
def tyX0 : Nat → FieldType := fun k => match k with
  | 0 => .array .int
  | 1 => .array .int
  | 2 => .array .int
  | 3 => .array .int
  | 4 => .int
  | _ => .int
theorem nmX0 : ∀ a, a < 6 → ∀ b, b < 6 → a ≠ b → (TX0 a).2.1 ≠ (TX0 b).2.1 := by decide +kernel
theorem tyX0_ok : ∀ k, k < 6 → parseFieldDescriptor (TX0 k).2.2.1 = some (tyX0 k) := by decide +kernel
def RX1 : String := "BoxChoice$Choice"
def TX1 : u_T := fun k => match k with
  | 0 => ("BoxChoice$Choice", "boxNumbers", "[I", true)
  | 1 => ("BoxChoice$Choice", "unitSets", "[I", true)
  | 2 => ("BoxChoice$Choice", "held", "I", false)
  | 3 => ("BoxChoice$Choice", "cost", "I", false)
  | 4 => ("BoxChoice$Choice", "made", "Z", false)
  | _ => ("BoxChoice$Choice", "exactly", "Z", false)
def tyX1 : Nat → FieldType := fun k => match k with
  | 0 => .array .int
  | 1 => .array .int
  | 2 => .int
  | 3 => .int
  | 4 => .boolean
  | _ => .boolean
theorem nmX1 : ∀ a, a < 6 → ∀ b, b < 6 → a ≠ b → (TX1 a).2.1 ≠ (TX1 b).2.1 := by decide +kernel
theorem tyX1_ok : ∀ k, k < 6 → parseFieldDescriptor (TX1 k).2.2.1 = some (tyX1 k) := by decide +kernel
def RX2 : String := "BoxChoice$ExactSearch"
def TX2 : u_T := fun k => match k with
  | 0 => ("BoxChoice$ExactSearch", "offeredBox", "[I", true)
  | 1 => ("BoxChoice$ExactSearch", "offeredCost", "[I", true)
  | 2 => ("BoxChoice$ExactSearch", "leastCost", "[I", true)
  | 3 => ("BoxChoice$ExactSearch", "fewestBoxes", "[I", true)
  | _ => ("BoxChoice$ExactSearch", "firstSet", "[I", true)
def tyX2 : Nat → FieldType := fun k => match k with
  | 0 => .array .int
  | 1 => .array .int
  | 2 => .array .int
  | 3 => .array .int
  | _ => .array .int
theorem nmX2 : ∀ a, a < 5 → ∀ b, b < 5 → a ≠ b → (TX2 a).2.1 ≠ (TX2 b).2.1 := by decide +kernel
theorem tyX2_ok : ∀ k, k < 5 → parseFieldDescriptor (TX2 k).2.2.1 = some (tyX2 k) := by decide +kernel
def RX3 : String := "BoxChoice$Units"
def TX3 : u_T := fun k => match k with
  | 0 => ("BoxChoice$Units", "sizes", "[I", true)
  | 1 => ("BoxChoice$Units", "weights", "[I", true)
  | 2 => ("BoxChoice$Units", "kinds", "[I", true)
  | 3 => ("BoxChoice$Units", "apartFrom", "[I", true)
  | 4 => ("BoxChoice$Units", "togetherWith", "[I", true)
  | _ => ("BoxChoice$Units", "held", "I", false)
def tyX3 : Nat → FieldType := fun k => match k with
  | 0 => .array .int
  | 1 => .array .int
  | 2 => .array .int
  | 3 => .array .int
  | 4 => .array .int
  | _ => .int
theorem nmX3 : ∀ a, a < 6 → ∀ b, b < 6 → a ≠ b → (TX3 a).2.1 ≠ (TX3 b).2.1 := by decide +kernel
theorem tyX3_ok : ∀ k, k < 6 → parseFieldDescriptor (TX3 k).2.2.1 = some (tyX3 k) := by decide +kernel
def RX4 : String := "BoxChoice"
def TX4 : u_T := fun k => match k with
  | 0 => ("BoxChoice", "catalogue", "LBoxChoice$Catalogue;", true)
  | 1 => ("BoxChoice", "units", "LBoxChoice$Units;", true)
  | 2 => ("BoxChoice", "choice", "LBoxChoice$Choice;", true)
  | _ => ("BoxChoice", "search", "LBoxChoice$ExactSearch;", true)
def tyX4 : Nat → FieldType := fun k => match k with
  | 0 => .object "BoxChoice$Catalogue"
  | 1 => .object "BoxChoice$Units"
  | 2 => .object "BoxChoice$Choice"
  | _ => .object "BoxChoice$ExactSearch"
theorem nmX4 : ∀ a, a < 4 → ∀ b, b < 4 → a ≠ b → (TX4 a).2.1 ≠ (TX4 b).2.1 := by decide +kernel
theorem tyX4_ok : ∀ k, k < 4 → parseFieldDescriptor (TX4 k).2.2.1 = some (tyX4 k) := by decide +kernel
def RX5 : String := "BoxChoiceModel"
def TX5 : u_T := fun k => match k with
  | 0 => ("BoxChoiceModel", "code", "I", false)
  | 1 => ("BoxChoiceModel", "boxes", "I", false)
  | 2 => ("BoxChoiceModel", "room", "[I", true)
  | 3 => ("BoxChoiceModel", "load", "[I", true)
  | 4 => ("BoxChoiceModel", "cost", "[I", true)
  | 5 => ("BoxChoiceModel", "kinds", "[I", true)
  | 6 => ("BoxChoiceModel", "units", "I", false)
  | 7 => ("BoxChoiceModel", "size", "[I", true)
  | 8 => ("BoxChoiceModel", "weight", "[I", true)
  | 9 => ("BoxChoiceModel", "kind", "[I", true)
  | 10 => ("BoxChoiceModel", "hows", "[I", true)
  | 11 => ("BoxChoiceModel", "slack", "I", false)
  | 12 => ("BoxChoiceModel", "chosen", "I", false)
  | 13 => ("BoxChoiceModel", "exact", "Z", false)
  | 14 => ("BoxChoiceModel", "box", "[I", true)
  | 15 => ("BoxChoiceModel", "set", "[I", true)
  | 16 => ("BoxChoiceModel", "count", "I", false)
  | 17 => ("BoxChoiceModel", "newBox", "[I", true)
  | 18 => ("BoxChoiceModel", "newSet", "[I", true)
  | _ => ("BoxChoiceModel", "part", "[I", true)
def tyX5 : Nat → FieldType := fun k => match k with
  | 0 => .int
  | 1 => .int
  | 2 => .array .int
  | 3 => .array .int
  | 4 => .array .int
  | 5 => .array .int
  | 6 => .int
  | 7 => .array .int
  | 8 => .array .int
  | 9 => .array .int
  | 10 => .array .int
  | 11 => .int
  | 12 => .int
  | 13 => .boolean
  | 14 => .array .int
  | 15 => .array .int
  | 16 => .int
  | 17 => .array .int
  | 18 => .array .int
  | _ => .array .int
theorem nmX5 : ∀ a, a < 20 → ∀ b, b < 20 → a ≠ b → (TX5 a).2.1 ≠ (TX5 b).2.1 := by decide +kernel
theorem tyX5_ok : ∀ k, k < 20 → parseFieldDescriptor (TX5 k).2.2.1 = some (tyX5 k) := by decide +kernel
def RL : String := "BoxChoiceLaw"
abbrev zcl : List vw_C := [(RX0, TX0, 6), (RX1, TX1, 6), (RX2, TX2, 5), (RX3, TX3, 6), (RX4, TX4, 4), (RX5, TX5, 20)]
abbrev cX4_init : ByteArray := prog_1_method_1_code
def yX4_init : MethodName := ⟨RX4, "<init>", "()V"⟩
abbrev cX0_init : ByteArray := prog_2_method_1_code
def yX0_init : MethodName := ⟨RX0, "<init>", "()V"⟩
abbrev cX3_init : ByteArray := prog_5_method_1_code
def yX3_init : MethodName := ⟨RX3, "<init>", "()V"⟩
abbrev cX1_init : ByteArray := prog_3_method_1_code
def yX1_init : MethodName := ⟨RX1, "<init>", "()V"⟩
abbrev cX2_init : ByteArray := prog_4_method_1_code
def yX2_init : MethodName := ⟨RX2, "<init>", "()V"⟩
abbrev cX4_exact : ByteArray := prog_1_method_8_code
def yX4_exact : MethodName := ⟨RX4, "exact", "()Z"⟩
abbrev cX4_boxes : ByteArray := prog_1_method_9_code
def yX4_boxes : MethodName := ⟨RX4, "boxes", "()I"⟩
abbrev cX4_count : ByteArray := prog_1_method_16_code
def yX4_count : MethodName := ⟨RX4, "count", "(I)I"⟩
abbrev cX3_pairsOf : ByteArray := prog_5_method_10_code
def yX3_pairsOf : MethodName := ⟨RX3, "pairsOf", "(I)I"⟩
abbrev cX3_relationOf : ByteArray := prog_5_method_7_code
def yX3_relationOf : MethodName := ⟨RX3, "relationOf", "(II)I"⟩
abbrev cX3_has : ByteArray := prog_5_method_2_code
def yX3_has : MethodName := ⟨RX3, "has", "(I)Z"⟩
abbrev cX4_holds : ByteArray := prog_1_method_20_code
def yX4_holds : MethodName := ⟨RX4, "holds", "(II)Z"⟩
abbrev cL_box : ByteArray := method_3_code
def yL_box : MethodName := ⟨RL, "box", "(LBoxChoice;IIII[J)I"⟩
abbrev cX4_box : ByteArray := prog_1_method_2_code
def yX4_box : MethodName := ⟨RX4, "box", "(IIII)I"⟩
abbrev cX4_needRange : ByteArray := prog_1_method_19_code
def yX4_needRange : MethodName := ⟨RX4, "needRange", "(III)V"⟩
abbrev cX0_isFull : ByteArray := prog_2_method_3_code
def yX0_isFull : MethodName := ⟨RX0, "isFull", "()Z"⟩
abbrev cX0_add : ByteArray := prog_2_method_4_code
def yX0_add : MethodName := ⟨RX0, "add", "(IIII)I"⟩
abbrev cL_unit : ByteArray := method_4_code
def yL_unit : MethodName := ⟨RL, "unit", "(LBoxChoice;III[J)I"⟩
abbrev cX4_unit : ByteArray := prog_1_method_3_code
def yX4_unit : MethodName := ⟨RX4, "unit", "(III)I"⟩
abbrev cX3_isFull : ByteArray := prog_5_method_3_code
def yX3_isFull : MethodName := ⟨RX3, "isFull", "()Z"⟩
abbrev cX3_add : ByteArray := prog_5_method_5_code
def yX3_add : MethodName := ⟨RX3, "add", "(III)I"⟩
abbrev cL_group : ByteArray := method_5_code
def yL_group : MethodName := ⟨RL, "group", "(LBoxChoice;III[J)I"⟩
abbrev cX4_group : ByteArray := prog_1_method_4_code
def yX4_group : MethodName := ⟨RX4, "group", "(III)I"⟩
abbrev cX4_needUnit : ByteArray := prog_1_method_18_code
def yX4_needUnit : MethodName := ⟨RX4, "needUnit", "(I)V"⟩
abbrev cX3_relate : ByteArray := prog_5_method_8_code
def yX3_relate : MethodName := ⟨RX3, "relate", "(III)V"⟩
abbrev cX3_relateOneWay : ByteArray := prog_5_method_9_code
def yX3_relateOneWay : MethodName := ⟨RX3, "relateOneWay", "(III)V"⟩
abbrev cL_change : ByteArray := method_6_code
def yL_change : MethodName := ⟨RL, "change", "(LBoxChoice;II[J)I"⟩
abbrev cX4_change : ByteArray := prog_1_method_5_code
def yX4_change : MethodName := ⟨RX4, "change", "(II)I"⟩
abbrev cX3_reweigh : ByteArray := prog_5_method_6_code
def yX3_reweigh : MethodName := ⟨RX3, "reweigh", "(II)I"⟩
abbrev cL_slack : ByteArray := method_7_code
def yL_slack : MethodName := ⟨RL, "slack", "(LBoxChoice;I)I"⟩
abbrev cX4_slack : ByteArray := prog_1_method_6_code
def yX4_slack : MethodName := ⟨RX4, "slack", "(I)V"⟩
abbrev cX0_keepSlack : ByteArray := prog_2_method_5_code
def yX0_keepSlack : MethodName := ⟨RX0, "keepSlack", "(I)V"⟩
abbrev cL_choose : ByteArray := method_8_code
def yL_choose : MethodName := ⟨RL, "choose", "(LBoxChoice;I[J)I"⟩
abbrev cX4_choose : ByteArray := prog_1_method_7_code
def yX4_choose : MethodName := ⟨RX4, "choose", "(I)I"⟩
abbrev cX1_clear : ByteArray := prog_3_method_2_code
def yX1_clear : MethodName := ⟨RX1, "clear", "()V"⟩
abbrev cX4_putExactly : ByteArray := prog_1_method_24_code
def yX4_putExactly : MethodName := ⟨RX4, "putExactly", "()Z"⟩
abbrev cX3_all : ByteArray := prog_5_method_4_code
def yX3_all : MethodName := ⟨RX3, "all", "()I"⟩
abbrev cX2_clear : ByteArray := prog_4_method_2_code
def yX2_clear : MethodName := ⟨RX2, "clear", "()V"⟩
abbrev cX4_boxesFor : ByteArray := prog_1_method_23_code
def yX4_boxesFor : MethodName := ⟨RX4, "boxesFor", "(I)I"⟩
abbrev cX3_anyApart : ByteArray := prog_5_method_15_code
def yX3_anyApart : MethodName := ⟨RX3, "anyApart", "(I)Z"⟩
abbrev cX3_isWhole : ByteArray := prog_5_method_16_code
def yX3_isWhole : MethodName := ⟨RX3, "isWhole", "(I)Z"⟩
abbrev cX4_boxesThatCarry : ByteArray := prog_1_method_22_code
def yX4_boxesThatCarry : MethodName := ⟨RX4, "boxesThatCarry", "(I)I"⟩
abbrev cX3_kindsOf : ByteArray := prog_5_method_14_code
def yX3_kindsOf : MethodName := ⟨RX3, "kindsOf", "(I)I"⟩
abbrev cX0_thatTake : ByteArray := prog_2_method_8_code
def yX0_thatTake : MethodName := ⟨RX0, "thatTake", "(I)I"⟩
abbrev cX3_sizeOf : ByteArray := prog_5_method_11_code
def yX3_sizeOf : MethodName := ⟨RX3, "sizeOf", "(I)I"⟩
abbrev cX3_sumOf : ByteArray := prog_5_method_13_code
def yX3_sumOf : MethodName := ⟨RX3, "sumOf", "([II)I"⟩
abbrev cX0_withRoomFor : ByteArray := prog_2_method_9_code
def yX0_withRoomFor : MethodName := ⟨RX0, "withRoomFor", "(I)I"⟩
abbrev cX0_withAtLeast : ByteArray := prog_2_method_11_code
def yX0_withAtLeast : MethodName := ⟨RX0, "withAtLeast", "([II)I"⟩
abbrev cX3_weightOf : ByteArray := prog_5_method_12_code
def yX3_weightOf : MethodName := ⟨RX3, "weightOf", "(I)I"⟩
abbrev cX0_thatBear : ByteArray := prog_2_method_10_code
def yX0_thatBear : MethodName := ⟨RX0, "thatBear", "(I)I"⟩
abbrev cX0_cheapestOf : ByteArray := prog_2_method_12_code
def yX0_cheapestOf : MethodName := ⟨RX0, "cheapestOf", "(I)I"⟩
abbrev cX0_costOf : ByteArray := prog_2_method_7_code
def yX0_costOf : MethodName := ⟨RX0, "costOf", "(I)I"⟩
abbrev cX0_has : ByteArray := prog_2_method_2_code
def yX0_has : MethodName := ⟨RX0, "has", "(I)Z"⟩
abbrev cX2_offer : ByteArray := prog_4_method_3_code
def yX2_offer : MethodName := ⟨RX2, "offer", "(III)V"⟩
abbrev cX2_putBest : ByteArray := prog_4_method_4_code
def yX2_putBest : MethodName := ⟨RX2, "putBest", "(ILBoxChoice$Choice;)Z"⟩
abbrev cX2_findBest : ByteArray := prog_4_method_5_code
def yX2_findBest : MethodName := ⟨RX2, "findBest", "(I)V"⟩
abbrev cX2_tryFirst : ByteArray := prog_4_method_6_code
def yX2_tryFirst : MethodName := ⟨RX2, "tryFirst", "(II)V"⟩
abbrev cX2_isBetter : ByteArray := prog_4_method_7_code
def yX2_isBetter : MethodName := ⟨RX2, "isBetter", "(IIII)Z"⟩
abbrev cX1_append : ByteArray := prog_3_method_5_code
def yX1_append : MethodName := ⟨RX1, "append", "(III)V"⟩
abbrev cX4_putByRule : ByteArray := prog_1_method_25_code
def yX4_putByRule : MethodName := ⟨RX4, "putByRule", "()Z"⟩
abbrev cX3_companyOf : ByteArray := prog_5_method_17_code
def yX3_companyOf : MethodName := ⟨RX3, "companyOf", "(I)I"⟩
abbrev cX4_putCompany : ByteArray := prog_1_method_26_code
def yX4_putCompany : MethodName := ⟨RX4, "putCompany", "(I)Z"⟩
abbrev cX1_setAt : ByteArray := prog_3_method_8_code
def yX1_setAt : MethodName := ⟨RX1, "setAt", "(I)I"⟩
abbrev cX1_has : ByteArray := prog_3_method_4_code
def yX1_has : MethodName := ⟨RX1, "has", "(I)Z"⟩
abbrev cX1_boxAt : ByteArray := prog_3_method_7_code
def yX1_boxAt : MethodName := ⟨RX1, "boxAt", "(I)I"⟩
abbrev cX1_replaceSet : ByteArray := prog_3_method_6_code
def yX1_replaceSet : MethodName := ⟨RX1, "replaceSet", "(II)V"⟩
abbrev cX1_finish : ByteArray := prog_3_method_3_code
def yX1_finish : MethodName := ⟨RX1, "finish", "(Z)V"⟩
abbrev cL_chosen : ByteArray := method_9_code
def yL_chosen : MethodName := ⟨RL, "chosen", "(LBoxChoice;II[J)I"⟩
abbrev cX4_chosen : ByteArray := prog_1_method_10_code
def yX4_chosen : MethodName := ⟨RX4, "chosen", "(II)I"⟩
abbrev cL_where : ByteArray := method_10_code
def yL_where : MethodName := ⟨RL, "where", "(LBoxChoice;I[J)I"⟩
abbrev cX4_where : ByteArray := prog_1_method_11_code
def yX4_where : MethodName := ⟨RX4, "where", "(I)I"⟩
abbrev cX1_holderOf : ByteArray := prog_3_method_9_code
def yX1_holderOf : MethodName := ⟨RX1, "holderOf", "(I)I"⟩
abbrev cL_bar : ByteArray := method_11_code
def yL_bar : MethodName := ⟨RL, "bar", "(LBoxChoice;I[J)I"⟩
abbrev cX4_bar : ByteArray := prog_1_method_12_code
def yX4_bar : MethodName := ⟨RX4, "bar", "(I)I"⟩
abbrev cL_fits : ByteArray := method_12_code
def yL_fits : MethodName := ⟨RL, "fits", "(LBoxChoice;II[J)I"⟩
abbrev cX4_fits : ByteArray := prog_1_method_13_code
def yX4_fits : MethodName := ⟨RX4, "fits", "(II)Z"⟩
abbrev cX4_needBox : ByteArray := prog_1_method_17_code
def yX4_needBox : MethodName := ⟨RX4, "needBox", "(I)V"⟩
abbrev cL_used : ByteArray := method_13_code
def yL_used : MethodName := ⟨RL, "used", "(LBoxChoice;I[J)I"⟩
abbrev cX4_used : ByteArray := prog_1_method_14_code
def yX4_used : MethodName := ⟨RX4, "used", "(I)I"⟩
abbrev cX0_roomOf : ByteArray := prog_2_method_6_code
def yX0_roomOf : MethodName := ⟨RX0, "roomOf", "(I)I"⟩
abbrev cX4_commonDivisor : ByteArray := prog_1_method_21_code
def yX4_commonDivisor : MethodName := ⟨RX4, "commonDivisor", "(II)I"⟩
abbrev cL_dimensional : ByteArray := method_14_code
def yL_dimensional : MethodName := ⟨RL, "dimensional", "(LBoxChoice;II[J)I"⟩
abbrev cX4_dimensional : ByteArray := prog_1_method_15_code
def yX4_dimensional : MethodName := ⟨RX4, "dimensional", "(II)I"⟩
abbrev cX5_init : ByteArray := prog_7_method_1_code
def yX5_init : MethodName := ⟨RX5, "<init>", "()V"⟩
abbrev cX5_thrown : ByteArray := prog_7_method_2_code
def yX5_thrown : MethodName := ⟨RX5, "thrown", "()I"⟩
abbrev cX5_box : ByteArray := prog_7_method_6_code
def yX5_box : MethodName := ⟨RX5, "box", "(IIII)I"⟩
abbrev cX5_in : ByteArray := prog_7_method_3_code
def yX5_in : MethodName := ⟨RX5, "in", "(III)Z"⟩
abbrev cX5_unit : ByteArray := prog_7_method_7_code
def yX5_unit : MethodName := ⟨RX5, "unit", "(III)I"⟩
abbrev cX5_group : ByteArray := prog_7_method_8_code
def yX5_group : MethodName := ⟨RX5, "group", "(III)I"⟩
abbrev cX5_isUnit : ByteArray := prog_7_method_5_code
def yX5_isUnit : MethodName := ⟨RX5, "isUnit", "(I)Z"⟩
abbrev cX5_change : ByteArray := prog_7_method_9_code
def yX5_change : MethodName := ⟨RX5, "change", "(II)I"⟩
abbrev cX5_slack : ByteArray := prog_7_method_10_code
def yX5_slack : MethodName := ⟨RX5, "slack", "(I)V"⟩
abbrev cX5_choose : ByteArray := prog_7_method_28_code
def yX5_choose : MethodName := ⟨RX5, "choose", "(I)I"⟩
abbrev cX5_exactly : ByteArray := prog_7_method_26_code
def yX5_exactly : MethodName := ⟨RX5, "exactly", "()V"⟩
abbrev cX5_isWay : ByteArray := prog_7_method_25_code
def yX5_isWay : MethodName := ⟨RX5, "isWay", "()Z"⟩
abbrev cX5_cheapest : ByteArray := prog_7_method_19_code
def yX5_cheapest : MethodName := ⟨RX5, "cheapest", "(I)I"⟩
abbrev cX5_fitsSet : ByteArray := prog_7_method_18_code
def yX5_fitsSet : MethodName := ⟨RX5, "fitsSet", "(II)Z"⟩
abbrev cX5_passes : ByteArray := prog_7_method_17_code
def yX5_passes : MethodName := ⟨RX5, "passes", "(III)Z"⟩
abbrev cX5_takesKinds : ByteArray := prog_7_method_14_code
def yX5_takesKinds : MethodName := ⟨RX5, "takesKinds", "(II)Z"⟩
abbrev cX5_has : ByteArray := prog_7_method_11_code
def yX5_has : MethodName := ⟨RX5, "has", "(II)Z"⟩
abbrev cX5_sizes : ByteArray := prog_7_method_12_code
def yX5_sizes : MethodName := ⟨RX5, "sizes", "(I)I"⟩
abbrev cX5_weights : ByteArray := prog_7_method_13_code
def yX5_weights : MethodName := ⟨RX5, "weights", "(I)I"⟩
abbrev cX5_hasApart : ByteArray := prog_7_method_15_code
def yX5_hasApart : MethodName := ⟨RX5, "hasApart", "(I)Z"⟩
abbrev cX5_isWhole : ByteArray := prog_7_method_16_code
def yX5_isWhole : MethodName := ⟨RX5, "isWhole", "(I)Z"⟩
abbrev cX5_isBetter : ByteArray := prog_7_method_23_code
def yX5_isBetter : MethodName := ⟨RX5, "isBetter", "()Z"⟩
abbrev cX5_costOf : ByteArray := prog_7_method_22_code
def yX5_costOf : MethodName := ⟨RX5, "costOf", "([II)I"⟩
abbrev cX5_keep : ByteArray := prog_7_method_21_code
def yX5_keep : MethodName := ⟨RX5, "keep", "()V"⟩
abbrev cX5_next : ByteArray := prog_7_method_24_code
def yX5_next : MethodName := ⟨RX5, "next", "()Z"⟩
abbrev cX5_byRule : ByteArray := prog_7_method_27_code
def yX5_byRule : MethodName := ⟨RX5, "byRule", "()V"⟩
abbrev cX5_wholeOf : ByteArray := prog_7_method_20_code
def yX5_wholeOf : MethodName := ⟨RX5, "wholeOf", "(I)I"⟩
abbrev cX5_exact : ByteArray := prog_7_method_29_code
def yX5_exact : MethodName := ⟨RX5, "exact", "()Z"⟩
abbrev cX5_boxes : ByteArray := prog_7_method_30_code
def yX5_boxes : MethodName := ⟨RX5, "boxes", "()I"⟩
abbrev cX5_chosen : ByteArray := prog_7_method_31_code
def yX5_chosen : MethodName := ⟨RX5, "chosen", "(II)I"⟩
abbrev cX5_where : ByteArray := prog_7_method_32_code
def yX5_where : MethodName := ⟨RX5, "where", "(I)I"⟩
abbrev cX5_bar : ByteArray := prog_7_method_33_code
def yX5_bar : MethodName := ⟨RX5, "bar", "(I)I"⟩
abbrev cX5_fits : ByteArray := prog_7_method_34_code
def yX5_fits : MethodName := ⟨RX5, "fits", "(II)Z"⟩
abbrev cX5_isBox : ByteArray := prog_7_method_4_code
def yX5_isBox : MethodName := ⟨RX5, "isBox", "(I)Z"⟩
abbrev cX5_used : ByteArray := prog_7_method_36_code
def yX5_used : MethodName := ⟨RX5, "used", "(I)I"⟩
abbrev cX5_divisor : ByteArray := prog_7_method_35_code
def yX5_divisor : MethodName := ⟨RX5, "divisor", "(II)I"⟩
abbrev cX5_dimensional : ByteArray := prog_7_method_37_code
def yX5_dimensional : MethodName := ⟨RX5, "dimensional", "(II)I"⟩
abbrev cX5_count : ByteArray := prog_7_method_38_code
def yX5_count : MethodName := ⟨RX5, "count", "(I)I"⟩
abbrev cL_law : ByteArray := code
def yL_law : MethodName := ⟨RL, "law", "([I)Z"⟩
/-- the words of the tables that a callee keeps -/
def gtbl : List Cond := lw_tbl.filter goodWord
theorem kw {w : Cond} (i : Nat) (h : tables_1[i]? = some w) (hg : goodWord w = true) : w ∈ gtbl := List.mem_filter.mpr ⟨List.mem_append_right _ (List.mem_of_getElem? h), hg⟩
theorem kwp {w : Cond} (i : Nat) (h : (k2_sels lw_privs)[i]? = some w) (hg : goodWord w = true) : w ∈ gtbl := List.mem_filter.mpr ⟨List.mem_append_left _ (List.mem_of_getElem? h), hg⟩
theorem gtbl_good : ∀ w ∈ gtbl, (w.onTables && w.keeps) = true ∨ ∃ ty, w = .arrayClass ty := fun w h => good_of_word (List.mem_filter.mp h).2
/-- the words of a method: its own code, then all -/
abbrev zws (y : MethodName) (cc : ByteArray) (n : Nat) (r : Option FieldType) : List Cond := Cond.code y cc n r :: gtbl
theorem inX0 : ∀ w ∈ u_ws RX0 TX0 6, w ∈ gtbl := by decide +kernel
theorem inX1 : ∀ w ∈ u_ws RX1 TX1 6, w ∈ gtbl := by decide +kernel
theorem inX2 : ∀ w ∈ u_ws RX2 TX2 5, w ∈ gtbl := by decide +kernel
theorem inX3 : ∀ w ∈ u_ws RX3 TX3 6, w ∈ gtbl := by decide +kernel
theorem inX4 : ∀ w ∈ u_ws RX4 TX4 4, w ∈ gtbl := by decide +kernel
theorem inX5 : ∀ w ∈ u_ws RX5 TX5 20, w ∈ gtbl := by decide +kernel
/-- the words across the nest, which go from state to state by themselves -/
def znf : List (String × Nat × String × String × String × String) := [(RX4, 185, RX0, (TX0 4).2.1, (TX0 4).2.2.1, RX4), (RX4, 84, RX3, (TX3 5).2.1, (TX3 5).2.2.1, RX4), (RX4, 111, RX1, (TX1 2).2.1, (TX1 2).2.2.1, RX4), (RX4, 101, RX1, (TX1 3).2.1, (TX1 3).2.2.1, RX4), (RX4, 104, RX1, (TX1 4).2.1, (TX1 4).2.2.1, RX4), (RX4, 108, RX1, (TX1 5).2.1, (TX1 5).2.2.1, RX4)]
def znm : List (String × Nat × MethodName × String) := [(RX4, 11, yX0_init, RX4), (RX4, 18, yX3_init, RX4), (RX4, 25, yX1_init, RX4), (RX4, 32, yX2_init, RX4), (RX3, 39, yX4_holds, RX4), (RX0, 43, yX4_holds, RX4), (RX1, 36, yX4_holds, RX4)]
theorem znf_in : ∀ q ∈ znf, Cond.fieldLinkNest q.1 q.2.1 q.2.2.1 q.2.2.2.1 q.2.2.2.2.1 q.2.2.2.2.2 ∈ tables_1 := by decide +kernel
theorem znm_in : ∀ q ∈ znm, Cond.methodLinkNest q.1 q.2.1 q.2.2.1 q.2.2.2 ∈ tables_1 := by decide +kernel
def zcast : List String := ["java/lang/IllegalArgumentException", "java/lang/UnsupportedOperationException", "java/util/NoSuchElementException", "java/lang/IllegalStateException", "java/lang/ArithmeticException"]
theorem zcast_in : ∀ q ∈ zcast, Cond.castable q q ∈ tables_1 := by decide +kernel
def zstr : List (Nat × String) := [(195, "a number is outside its range"), (47, "the catalogue is full"), (57, "there is no room for another unit"), (193, "there is no such unit"), (68, "a unit is not grouped with itself"), (118, "the choice has no such box"), (134, "a box of the choice is asked for 0 .. 3"), (190, "there is no such box"), (169, "there is no choice"), (180, "/ by zero"), (183, "the divisor is below 0")]
theorem zstr_in : ∀ q ∈ zstr, Cond.stringRef RX4 q.1 q.2 ∈ tables_1 := by decide +kernel
/-- what holds of a state beside its picture -/
def zG (U : State) (A : Nat → Prop) : Prop := (∀ q ∈ znf, va_Nw (.fieldLinkNest q.1 q.2.1 q.2.2.1 q.2.2.2.1 q.2.2.2.2.1 q.2.2.2.2.2) U) ∧ (∀ q ∈ znm, va_Nw (.methodLinkNest q.1 q.2.1 q.2.2.1 q.2.2.2) U) ∧ (∀ q ∈ zcast, va_Nw (.castable q q) U) ∧ (∀ q ∈ zstr, ∃ sa, vk_R RX4 q.1 q.2 sa U) ∧ vx_Zq Bundle.tN "UNASSIGNED_STACK" Bundle.steD A U U.heap ∧ vx_Zq Bundle.tN "SUPPRESSED_SENTINEL" Bundle.listD A U U.heap
theorem zG_ok : zGok zG := by
  intro u U A B hW hk hB h
  obtain ⟨h1, h2, h3, h4, h5, h6⟩ := h
  exact ⟨fun q hq => va_Nw.warmF hW (h1 q hq), fun q hq => va_Nw.warmM hW (h2 q hq), fun q hq => va_Nw.warmC hW (h3 q hq), fun q hq => (h4 q hq).imp (fun _ h => vk_R.warm hW h), vx_Zq.moved hW.alike ((h5.kept hk).narrow hB), vx_Zq.moved hW.alike ((h6.kept hk).narrow hB)⟩
theorem nfX4_185 {U : State} {A : Nat → Prop} (h : zG U A) : va_Nw (.fieldLinkNest RX4 185 RX0 (TX0 4).2.1 (TX0 4).2.2.1 RX4) U := h.1 _ (List.mem_of_getElem? (i := 0) (a := (RX4, 185, RX0, (TX0 4).2.1, (TX0 4).2.2.1, RX4)) rfl)
theorem nfX4_84 {U : State} {A : Nat → Prop} (h : zG U A) : va_Nw (.fieldLinkNest RX4 84 RX3 (TX3 5).2.1 (TX3 5).2.2.1 RX4) U := h.1 _ (List.mem_of_getElem? (i := 1) (a := (RX4, 84, RX3, (TX3 5).2.1, (TX3 5).2.2.1, RX4)) rfl)
theorem nfX4_111 {U : State} {A : Nat → Prop} (h : zG U A) : va_Nw (.fieldLinkNest RX4 111 RX1 (TX1 2).2.1 (TX1 2).2.2.1 RX4) U := h.1 _ (List.mem_of_getElem? (i := 2) (a := (RX4, 111, RX1, (TX1 2).2.1, (TX1 2).2.2.1, RX4)) rfl)
theorem nfX4_101 {U : State} {A : Nat → Prop} (h : zG U A) : va_Nw (.fieldLinkNest RX4 101 RX1 (TX1 3).2.1 (TX1 3).2.2.1 RX4) U := h.1 _ (List.mem_of_getElem? (i := 3) (a := (RX4, 101, RX1, (TX1 3).2.1, (TX1 3).2.2.1, RX4)) rfl)
theorem nfX4_104 {U : State} {A : Nat → Prop} (h : zG U A) : va_Nw (.fieldLinkNest RX4 104 RX1 (TX1 4).2.1 (TX1 4).2.2.1 RX4) U := h.1 _ (List.mem_of_getElem? (i := 4) (a := (RX4, 104, RX1, (TX1 4).2.1, (TX1 4).2.2.1, RX4)) rfl)
theorem nfX4_108 {U : State} {A : Nat → Prop} (h : zG U A) : va_Nw (.fieldLinkNest RX4 108 RX1 (TX1 5).2.1 (TX1 5).2.2.1 RX4) U := h.1 _ (List.mem_of_getElem? (i := 5) (a := (RX4, 108, RX1, (TX1 5).2.1, (TX1 5).2.2.1, RX4)) rfl)
theorem nlX4_11 {U : State} {A : Nat → Prop} (h : zG U A) : va_Nw (.methodLinkNest RX4 11 yX0_init RX4) U := h.2.1 _ (List.mem_of_getElem? (i := 0) (a := (RX4, 11, yX0_init, RX4)) rfl)
theorem nlX4_18 {U : State} {A : Nat → Prop} (h : zG U A) : va_Nw (.methodLinkNest RX4 18 yX3_init RX4) U := h.2.1 _ (List.mem_of_getElem? (i := 1) (a := (RX4, 18, yX3_init, RX4)) rfl)
theorem nlX4_25 {U : State} {A : Nat → Prop} (h : zG U A) : va_Nw (.methodLinkNest RX4 25 yX1_init RX4) U := h.2.1 _ (List.mem_of_getElem? (i := 2) (a := (RX4, 25, yX1_init, RX4)) rfl)
theorem nlX4_32 {U : State} {A : Nat → Prop} (h : zG U A) : va_Nw (.methodLinkNest RX4 32 yX2_init RX4) U := h.2.1 _ (List.mem_of_getElem? (i := 3) (a := (RX4, 32, yX2_init, RX4)) rfl)
theorem nlX3_39 {U : State} {A : Nat → Prop} (h : zG U A) : va_Nw (.methodLinkNest RX3 39 yX4_holds RX4) U := h.2.1 _ (List.mem_of_getElem? (i := 4) (a := (RX3, 39, yX4_holds, RX4)) rfl)
theorem nlX0_43 {U : State} {A : Nat → Prop} (h : zG U A) : va_Nw (.methodLinkNest RX0 43 yX4_holds RX4) U := h.2.1 _ (List.mem_of_getElem? (i := 5) (a := (RX0, 43, yX4_holds, RX4)) rfl)
theorem nlX1_36 {U : State} {A : Nat → Prop} (h : zG U A) : va_Nw (.methodLinkNest RX1 36 yX4_holds RX4) U := h.2.1 _ (List.mem_of_getElem? (i := 6) (a := (RX1, 36, yX4_holds, RX4)) rfl)
