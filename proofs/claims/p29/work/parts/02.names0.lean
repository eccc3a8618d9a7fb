theorem goodIn_r {big : List Cond} (ws : List Cond) (ps : List Nat) (hp : ws = ps.filterMap (fun i => big[i]?)) (h : ws.all goodWord = true) : GoodIn big ws := by
  intro w hw
  have h1 := List.all_eq_true.mp h w hw
  rw [hp] at hw
  obtain ⟨i, -, hi⟩ := List.mem_filterMap.mp hw
  have hm : w ∈ big := by first | exact List.mem_of_getElem? hi | exact List.getElem?_mem hi
  exact ⟨hm, good_of_word h1⟩
theorem goodIn_app {big a b : List Cond} (ha : GoodIn big a) (hb : GoodIn big b) : GoodIn big (a ++ b) := fun w h => (List.mem_append.mp h).elim (ha w) (hb w)
theorem goodIn_ca {big a b : List Cond} {c : Cond} (ha : GoodIn big (c :: a)) (hb : GoodIn big b) : GoodIn big (c :: (a ++ b)) := fun w h => (List.mem_cons.mp h).elim (fun e => ha w (List.mem_cons.mpr (Or.inl e))) (fun h => (List.mem_append.mp h).elim (fun h => ha w (List.mem_cons.mpr (Or.inr h))) (hb w))
theorem goodIn_sub {big ws : List Cond} (hm : ∀ w ∈ ws, w ∈ big) (h : ws.all goodWord = true) : GoodIn big ws := fun w hw => ⟨hm w hw, good_of_word (List.all_eq_true.mp h w hw)⟩

def RX0 : String := "GearHolds$Driving"
def TX0 : u_T := fun k => match k with
  | 0 => ("GearHolds$Driving", "row", "[I", true)
  | 1 => ("GearHolds$Driving", "gears", "LGearHolds$Gears;", true)
  | _ => ("GearHolds$Driving", "shifts", "LGearHolds$Shifts;", true)
def tyX0 : Nat → FieldType := fun k => match k with
  | 0 => .array .int
  | 1 => .object "GearHolds$Gears"
  | _ => .object "GearHolds$Shifts"
abbrev wsX00 : List Cond := u_ws RX0 TX0 3
theorem nmX0 : ∀ a, a < 3 → ∀ b, b < 3 → a ≠ b → (TX0 a).2.1 ≠ (TX0 b).2.1 := by decide +kernel
theorem tyX0_ok : ∀ k, k < 3 → parseFieldDescriptor (TX0 k).2.2.1 = some (tyX0 k) := by decide +kernel
abbrev cX0_init : ByteArray := prog_2_method_1_code
def yX0_init : MethodName := ⟨RX0, "<init>", "([ILGearHolds$Gears;LGearHolds$Shifts;)V"⟩
abbrev cX0_wanted : ByteArray := prog_2_method_2_code
def yX0_wanted : MethodName := ⟨RX0, "wanted", "(I)I"⟩
abbrev cX0_ticks : ByteArray := prog_2_method_3_code
def yX0_ticks : MethodName := ⟨RX0, "ticks", "(II)I"⟩
abbrev cX0_noteTurn : ByteArray := prog_2_method_4_code
def yX0_noteTurn : MethodName := ⟨RX0, "noteTurn", "(I)V"⟩
def RX1 : String := "GearHolds$Gears"
def TX1 : u_T := fun k => match k with
  | 0 => ("GearHolds$Gears", "row", "[I", true)
  | 1 => ("GearHolds$Gears", "away", "[I", true)
  | _ => ("GearHolds$Gears", "path", "[I", true)
def tyX1 : Nat → FieldType := fun k => match k with
  | 0 => .array .int
  | 1 => .array .int
  | _ => .array .int
abbrev wsX10 : List Cond := u_ws RX1 TX1 3
theorem nmX1 : ∀ a, a < 3 → ∀ b, b < 3 → a ≠ b → (TX1 a).2.1 ≠ (TX1 b).2.1 := by decide +kernel
theorem tyX1_ok : ∀ k, k < 3 → parseFieldDescriptor (TX1 k).2.2.1 = some (tyX1 k) := by decide +kernel
abbrev cX1_init : ByteArray := prog_3_method_1_code
def yX1_init : MethodName := ⟨RX1, "<init>", "([I)V"⟩
abbrev cX1_isFit : ByteArray := prog_3_method_2_code
def yX1_isFit : MethodName := ⟨RX1, "isFit", "(I)Z"⟩
abbrev cX1_fitBits : ByteArray := prog_3_method_3_code
def yX1_fitBits : MethodName := ⟨RX1, "fitBits", "()I"⟩
abbrev cX1_nextFit : ByteArray := prog_3_method_4_code
def yX1_nextFit : MethodName := ⟨RX1, "nextFit", "(II)I"⟩
abbrev cX1_isSimple : ByteArray := prog_3_method_5_code
def yX1_isSimple : MethodName := ⟨RX1, "isSimple", "(II)Z"⟩
abbrev cX1_coming : ByteArray := prog_3_method_6_code
def yX1_coming : MethodName := ⟨RX1, "coming", "(II)I"⟩
abbrev cX1_countSimple : ByteArray := prog_3_method_7_code
def yX1_countSimple : MethodName := ⟨RX1, "countSimple", "(I)I"⟩
abbrev cX1_countClosing : ByteArray := prog_3_method_8_code
def yX1_countClosing : MethodName := ⟨RX1, "countClosing", "(I)I"⟩
abbrev cX1_countWithin : ByteArray := prog_3_method_9_code
def yX1_countWithin : MethodName := ⟨RX1, "countWithin", "(I)I"⟩
abbrev cX1_isTaken : ByteArray := prog_3_method_10_code
def yX1_isTaken : MethodName := ⟨RX1, "isTaken", "(II)Z"⟩
abbrev cX1_findWay : ByteArray := prog_3_method_11_code
def yX1_findWay : MethodName := ⟨RX1, "findWay", "(II)I"⟩
abbrev cX1_onWay : ByteArray := prog_3_method_12_code
def yX1_onWay : MethodName := ⟨RX1, "onWay", "(I)I"⟩
abbrev cX1_nearer : ByteArray := prog_3_method_13_code
def yX1_nearer : MethodName := ⟨RX1, "nearer", "(II)I"⟩
abbrev cX1_swapsOne : ByteArray := prog_3_method_14_code
def yX1_swapsOne : MethodName := ⟨RX1, "swapsOne", "(II)Z"⟩
def RX2 : String := "GearHolds$Orders"
def TX2 : u_T := fun k => match k with
  | 0 => ("GearHolds$Orders", "row", "[I", true)
  | 1 => ("GearHolds$Orders", "gears", "LGearHolds$Gears;", true)
  | _ => ("GearHolds$Orders", "driving", "LGearHolds$Driving;", true)
def tyX2 : Nat → FieldType := fun k => match k with
  | 0 => .array .int
  | 1 => .object "GearHolds$Gears"
  | _ => .object "GearHolds$Driving"
abbrev wsX20 : List Cond := u_ws RX2 TX2 3
theorem nmX2 : ∀ a, a < 3 → ∀ b, b < 3 → a ≠ b → (TX2 a).2.1 ≠ (TX2 b).2.1 := by decide +kernel
theorem tyX2_ok : ∀ k, k < 3 → parseFieldDescriptor (TX2 k).2.2.1 = some (tyX2 k) := by decide +kernel
abbrev cX2_init : ByteArray := prog_4_method_1_code
def yX2_init : MethodName := ⟨RX2, "<init>", "([ILGearHolds$Gears;LGearHolds$Driving;)V"⟩
abbrev cX2_obey : ByteArray := prog_4_method_2_code
def yX2_obey : MethodName := ⟨RX2, "obey", "(III)I"⟩
abbrev cX2_changeSet : ByteArray := prog_4_method_3_code
def yX2_changeSet : MethodName := ⟨RX2, "changeSet", "(II)I"⟩
abbrev cX2_changeStatus : ByteArray := prog_4_method_4_code
def yX2_changeStatus : MethodName := ⟨RX2, "changeStatus", "(II)I"⟩
abbrev cX2_changeRule : ByteArray := prog_4_method_5_code
def yX2_changeRule : MethodName := ⟨RX2, "changeRule", "(II)I"⟩
abbrev cX2_areTicks : ByteArray := prog_4_method_6_code
def yX2_areTicks : MethodName := ⟨RX2, "areTicks", "(II)Z"⟩
abbrev cX2_putIn : ByteArray := prog_4_method_7_code
def yX2_putIn : MethodName := ⟨RX2, "putIn", "(I)I"⟩
abbrev cX2_replace : ByteArray := prog_4_method_8_code
def yX2_replace : MethodName := ⟨RX2, "replace", "(ZII)I"⟩
abbrev cX2_dropUnfit : ByteArray := prog_4_method_9_code
def yX2_dropUnfit : MethodName := ⟨RX2, "dropUnfit", "()V"⟩
def RX3 : String := "GearHolds$Shifts"
def TX3 : u_T := fun k => match k with
  | _ => ("GearHolds$Shifts", "row", "[I", true)
def tyX3 : Nat → FieldType := fun k => match k with
  | _ => .array .int
abbrev wsX30 : List Cond := u_ws RX3 TX3 1
theorem nmX3 : ∀ a, a < 1 → ∀ b, b < 1 → a ≠ b → (TX3 a).2.1 ≠ (TX3 b).2.1 := by decide +kernel
theorem tyX3_ok : ∀ k, k < 1 → parseFieldDescriptor (TX3 k).2.2.1 = some (tyX3 k) := by decide +kernel
abbrev cX3_init : ByteArray := prog_5_method_1_code
def yX3_init : MethodName := ⟨RX3, "<init>", "([I)V"⟩
abbrev cX3_overAt : ByteArray := prog_5_method_2_code
def yX3_overAt : MethodName := ⟨RX3, "overAt", "(II)I"⟩
abbrev cX3_flare : ByteArray := prog_5_method_3_code
def yX3_flare : MethodName := ⟨RX3, "flare", "(I)I"⟩
abbrev cX3_bind : ByteArray := prog_5_method_4_code
def yX3_bind : MethodName := ⟨RX3, "bind", "(I)I"⟩
abbrev cX3_learn : ByteArray := prog_5_method_5_code
def yX3_learn : MethodName := ⟨RX3, "learn", "(I)V"⟩
def RX4 : String := "GearHolds$States"
def TX4 : u_T := fun k => match k with
  | 0 => ("GearHolds$States", "row", "[I", true)
  | 1 => ("GearHolds$States", "kept", "[[I", true)
  | 2 => ("GearHolds$States", "draft", "I", false)
  | _ => ("GearHolds$States", "count", "I", false)
def tyX4 : Nat → FieldType := fun k => match k with
  | 0 => .array .int
  | 1 => .array (.array .int)
  | 2 => .int
  | _ => .int
abbrev wsX40 : List Cond := u_ws RX4 TX4 4
theorem nmX4 : ∀ a, a < 4 → ∀ b, b < 4 → a ≠ b → (TX4 a).2.1 ≠ (TX4 b).2.1 := by decide +kernel
theorem tyX4_ok : ∀ k, k < 4 → parseFieldDescriptor (TX4 k).2.2.1 = some (tyX4 k) := by decide +kernel
abbrev cX4_init : ByteArray := prog_6_method_1_code
def yX4_init : MethodName := ⟨RX4, "<init>", "([I)V"⟩
abbrev cX4_count : ByteArray := prog_6_method_2_code
def yX4_count : MethodName := ⟨RX4, "count", "()I"⟩
abbrev cX4_draft : ByteArray := prog_6_method_3_code
def yX4_draft : MethodName := ⟨RX4, "draft", "()V"⟩
abbrev cX4_keepDraft : ByteArray := prog_6_method_4_code
def yX4_keepDraft : MethodName := ⟨RX4, "keepDraft", "()V"⟩
abbrev cX4_takeDraft : ByteArray := prog_6_method_5_code
def yX4_takeDraft : MethodName := ⟨RX4, "takeDraft", "()V"⟩
abbrev cX4_goBack : ByteArray := prog_6_method_6_code
def yX4_goBack : MethodName := ⟨RX4, "goBack", "()Z"⟩
def RX5 : String := "GearHolds$Text"
def TX5 : u_T := fun k => match k with
  | 0 => ("GearHolds$Text", "bytes", "[I", true)
  | 1 => ("GearHolds$Text", "kind", "[I", true)
  | 2 => ("GearHolds$Text", "first", "[I", true)
  | 3 => ("GearHolds$Text", "second", "[I", true)
  | 4 => ("GearHolds$Text", "length", "I", false)
  | 5 => ("GearHolds$Text", "orders", "I", false)
  | _ => ("GearHolds$Text", "at", "I", false)
def tyX5 : Nat → FieldType := fun k => match k with
  | 0 => .array .int
  | 1 => .array .int
  | 2 => .array .int
  | 3 => .array .int
  | 4 => .int
  | 5 => .int
  | _ => .int
abbrev wsX50 : List Cond := u_ws RX5 TX5 7
theorem nmX5 : ∀ a, a < 7 → ∀ b, b < 7 → a ≠ b → (TX5 a).2.1 ≠ (TX5 b).2.1 := by decide +kernel
theorem tyX5_ok : ∀ k, k < 7 → parseFieldDescriptor (TX5 k).2.2.1 = some (tyX5 k) := by decide +kernel
abbrev cX5_init : ByteArray := prog_7_method_1_code
def yX5_init : MethodName := ⟨RX5, "<init>", "()V"⟩
abbrev cX5_length : ByteArray := prog_7_method_2_code
def yX5_length : MethodName := ⟨RX5, "length", "()I"⟩
abbrev cX5_append : ByteArray := prog_7_method_3_code
def yX5_append : MethodName := ⟨RX5, "append", "(I)Z"⟩
def RX6 : String := "GearHolds"
def TX6 : u_T := fun k => match k with
  | 0 => ("GearHolds", "row", "[I", true)
  | 1 => ("GearHolds", "refused", "[I", true)
  | 2 => ("GearHolds", "gears", "LGearHolds$Gears;", true)
  | 3 => ("GearHolds", "shifts", "LGearHolds$Shifts;", true)
  | 4 => ("GearHolds", "driving", "LGearHolds$Driving;", true)
  | 5 => ("GearHolds", "orders", "LGearHolds$Orders;", true)
  | 6 => ("GearHolds", "states", "LGearHolds$States;", true)
  | 7 => ("GearHolds", "text", "LGearHolds$Text;", true)
  | 8 => ("GearHolds", "causeKind", "I", false)
  | _ => ("GearHolds", "causeOrder", "I", false)
def tyX6 : Nat → FieldType := fun k => match k with
  | 0 => .array .int
  | 1 => .array .int
  | 2 => .object "GearHolds$Gears"
  | 3 => .object "GearHolds$Shifts"
  | 4 => .object "GearHolds$Driving"
  | 5 => .object "GearHolds$Orders"
  | 6 => .object "GearHolds$States"
  | 7 => .object "GearHolds$Text"
  | 8 => .int
  | _ => .int
abbrev wsX60 : List Cond := u_ws RX6 TX6 10
theorem nmX6 : ∀ a, a < 10 → ∀ b, b < 10 → a ≠ b → (TX6 a).2.1 ≠ (TX6 b).2.1 := by decide +kernel
theorem tyX6_ok : ∀ k, k < 10 → parseFieldDescriptor (TX6 k).2.2.1 = some (tyX6 k) := by decide +kernel
abbrev cX6_init : ByteArray := prog_1_method_1_code
def yX6_init : MethodName := ⟨RX6, "<init>", "()V"⟩
abbrev cX6_gear : ByteArray := prog_1_method_2_code
def yX6_gear : MethodName := ⟨RX6, "gear", "(II)I"⟩
abbrev cX6_fails : ByteArray := prog_1_method_3_code
def yX6_fails : MethodName := ⟨RX6, "fails", "(II)I"⟩
abbrev cX6_trues : ByteArray := prog_1_method_4_code
def yX6_trues : MethodName := ⟨RX6, "trues", "(II)I"⟩
abbrev cX6_up : ByteArray := prog_1_method_5_code
def yX6_up : MethodName := ⟨RX6, "up", "(II)I"⟩
abbrev cX6_down : ByteArray := prog_1_method_6_code
def yX6_down : MethodName := ⟨RX6, "down", "(II)I"⟩
abbrev cX6_slope : ByteArray := prog_1_method_7_code
def yX6_slope : MethodName := ⟨RX6, "slope", "(I)I"⟩
abbrev cX6_driver : ByteArray := prog_1_method_8_code
def yX6_driver : MethodName := ⟨RX6, "driver", "(I)I"⟩
abbrev cX6_sets : ByteArray := prog_1_method_9_code
def yX6_sets : MethodName := ⟨RX6, "sets", "(II)I"⟩
abbrev cX6_of : ByteArray := prog_1_method_10_code
def yX6_of : MethodName := ⟨RX6, "of", "(II)I"⟩
abbrev cX6_clutch : ByteArray := prog_1_method_11_code
def yX6_clutch : MethodName := ⟨RX6, "clutch", "(II)I"⟩
abbrev cX6_ties : ByteArray := prog_1_method_12_code
def yX6_ties : MethodName := ⟨RX6, "ties", "(I)I"⟩
abbrev cX6_simple : ByteArray := prog_1_method_13_code
def yX6_simple : MethodName := ⟨RX6, "simple", "(III)I"⟩
abbrev cX6_way : ByteArray := prog_1_method_14_code
def yX6_way : MethodName := ⟨RX6, "way", "(III)I"⟩
abbrev cX6_over : ByteArray := prog_1_method_15_code
def yX6_over : MethodName := ⟨RX6, "over", "(III)I"⟩
abbrev cX6_worst : ByteArray := prog_1_method_16_code
def yX6_worst : MethodName := ⟨RX6, "worst", "(III)I"⟩
abbrev cX6_want : ByteArray := prog_1_method_17_code
def yX6_want : MethodName := ⟨RX6, "want", "(I)I"⟩
abbrev cX6_drives : ByteArray := prog_1_method_18_code
def yX6_drives : MethodName := ⟨RX6, "drives", "(II)I"⟩
abbrev cX6_puts : ByteArray := prog_1_method_19_code
def yX6_puts : MethodName := ⟨RX6, "puts", "(I)I"⟩
abbrev cX6_state : ByteArray := prog_1_method_20_code
def yX6_state : MethodName := ⟨RX6, "state", "(I)I"⟩
abbrev cX6_type : ByteArray := prog_1_method_21_code
def yX6_type : MethodName := ⟨RX6, "type", "(I)I"⟩
abbrev cX6_why : ByteArray := prog_1_method_24_code
def yX6_why : MethodName := ⟨RX6, "why", "(I)I"⟩
abbrev cX6_back : ByteArray := prog_1_method_25_code
def yX6_back : MethodName := ⟨RX6, "back", "()I"⟩
abbrev cX6_told : ByteArray := prog_1_method_26_code
def yX6_told : MethodName := ⟨RX6, "told", "(I)I"⟩
abbrev cX6_changed : ByteArray := prog_1_method_28_code
def yX6_changed : MethodName := ⟨RX6, "changed", "(III)I"⟩
abbrev cX6_refusal : ByteArray := prog_1_method_29_code
def yX6_refusal : MethodName := ⟨RX6, "refusal", "(I)I"⟩
abbrev cX6_isWithin : ByteArray := prog_1_method_30_code
def yX6_isWithin : MethodName := ⟨RX6, "isWithin", "(III)Z"⟩
abbrev cX6_isGear : ByteArray := prog_1_method_31_code
def yX6_isGear : MethodName := ⟨RX6, "isGear", "(I)Z"⟩
abbrev cX6_isClutch : ByteArray := prog_1_method_32_code
def yX6_isClutch : MethodName := ⟨RX6, "isClutch", "(I)Z"⟩
abbrev cX6_arePair : ByteArray := prog_1_method_33_code
def yX6_arePair : MethodName := ⟨RX6, "arePair", "(II)Z"⟩
def RX7 : String := "GearHoldsModel"
def TX7 : u_T := fun k => match k with
  | _ => ("", "", "", false)
def tyX7 : Nat → FieldType := fun k => match k with
  | _ => .int
abbrev wsX70 : List Cond := u_ws RX7 TX7 0
theorem nmX7 : ∀ a, a < 0 → ∀ b, b < 0 → a ≠ b → (TX7 a).2.1 ≠ (TX7 b).2.1 := by decide +kernel
theorem tyX7_ok : ∀ k, k < 0 → parseFieldDescriptor (TX7 k).2.2.1 = some (tyX7 k) := by decide +kernel
def RJ6 : String := "java/lang/Integer"
def TJ6 : u_T := fun k => match k with
  | _ => ("", "", "", false)
def tyJ6 : Nat → FieldType := fun k => match k with
  | _ => .int
abbrev wsJ60 : List Cond := u_ws RJ6 TJ6 0
theorem nmJ6 : ∀ a, a < 0 → ∀ b, b < 0 → a ≠ b → (TJ6 a).2.1 ≠ (TJ6 b).2.1 := by decide +kernel
theorem tyJ6_ok : ∀ k, k < 0 → parseFieldDescriptor (TJ6 k).2.2.1 = some (tyJ6 k) := by decide +kernel
abbrev cJ6_numberOfTrailingZeros_0f7a4 : ByteArray := prog_10_method_48_code
def yJ6_numberOfTrailingZeros_0f7a4 : MethodName := ⟨RJ6, "numberOfTrailingZeros", "(I)I"⟩
abbrev cJ6_bitCount_0f7a4 : ByteArray := prog_10_method_49_code
def yJ6_bitCount_0f7a4 : MethodName := ⟨RJ6, "bitCount", "(I)I"⟩
def RJ9 : String := "java/lang/Math"
def TJ9 : u_T := fun k => match k with
  | _ => ("", "", "", false)
def tyJ9 : Nat → FieldType := fun k => match k with
  | _ => .int
abbrev wsJ90 : List Cond := u_ws RJ9 TJ9 0
theorem nmJ9 : ∀ a, a < 0 → ∀ b, b < 0 → a ≠ b → (TJ9 a).2.1 ≠ (TJ9 b).2.1 := by decide +kernel
theorem tyJ9_ok : ∀ k, k < 0 → parseFieldDescriptor (TJ9 k).2.2.1 = some (tyJ9 k) := by decide +kernel
abbrev cJ9_max_7cf53 : ByteArray := prog_11_method_65_code
def yJ9_max_7cf53 : MethodName := ⟨RJ9, "max", "(II)I"⟩
abbrev cJ9_min_7cf53 : ByteArray := prog_11_method_69_code
def yJ9_min_7cf53 : MethodName := ⟨RJ9, "min", "(II)I"⟩
def RJ10 : String := "java/lang/System"
def TJ10 : u_T := fun k => match k with
  | _ => ("", "", "", false)
def tyJ10 : Nat → FieldType := fun k => match k with
  | _ => .int
abbrev wsJ100 : List Cond := u_ws RJ10 TJ10 0
theorem nmJ10 : ∀ a, a < 0 → ∀ b, b < 0 → a ≠ b → (TJ10 a).2.1 ≠ (TJ10 b).2.1 := by decide +kernel
theorem tyJ10_ok : ∀ k, k < 0 → parseFieldDescriptor (TJ10 k).2.2.1 = some (tyJ10 k) := by decide +kernel
def RL : String := "GearHoldsLaw"
abbrev cL_cell : ByteArray := method_2_code
def yL_cell : MethodName := ⟨RL, "cell", "([II)I"⟩
abbrev cL_low : ByteArray := method_3_code
def yL_low : MethodName := ⟨RL, "low", "(II)I"⟩
abbrev cL_whole : ByteArray := method_4_code
def yL_whole : MethodName := ⟨RL, "whole", "(LGearHolds;)J"⟩
abbrev cL_sound : ByteArray := method_5_code
def yL_sound : MethodName := ⟨RL, "sound", "(LGearHolds;)Z"⟩
abbrev cL_overlaps : ByteArray := method_6_code
def yL_overlaps : MethodName := ⟨RL, "overlaps", "(LGearHolds;II)Z"⟩
abbrev cL_ticks : ByteArray := method_7_code
def yL_ticks : MethodName := ⟨RL, "ticks", "(LGearHolds;I)Z"⟩
abbrev cL_learns : ByteArray := method_8_code
def yL_learns : MethodName := ⟨RL, "learns", "(I)Z"⟩
abbrev cL_does : ByteArray := method_9_code
def yL_does : MethodName := ⟨RL, "does", "(LGearHolds;III)I"⟩
abbrev cL_refused : ByteArray := method_10_code
def yL_refused : MethodName := ⟨RL, "refused", "(LGearHolds;II)Z"⟩
abbrev cL_law : ByteArray := code
def yL_law : MethodName := ⟨RL, "law", "([I)Z"⟩
abbrev vwCl : List vw_C := [(RX0, TX0, 3), (RX1, TX1, 3), (RX2, TX2, 3), (RX3, TX3, 1), (RX4, TX4, 4), (RX5, TX5, 7), (RX6, TX6, 10)]
