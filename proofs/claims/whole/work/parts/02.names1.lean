/-! ===== BEGIN words of one list among another's, by their places ===== -/
theorem goodIn_r {big : List Cond} (ws : List Cond) (ps : List Nat) (hp : ws = ps.filterMap (fun i => big[i]?)) (h : ws.all goodWord = true) : GoodIn big ws := by
  intro w hw
  have h1 := List.all_eq_true.mp h w hw
  rw [hp] at hw
  obtain ⟨i, -, hi⟩ := List.mem_filterMap.mp hw
  have hm : w ∈ big := by first | exact List.mem_of_getElem? hi | exact List.getElem?_mem hi
  exact ⟨hm, good_of_word h1⟩
theorem goodIn_app {big a b : List Cond} (ha : GoodIn big a) (hb : GoodIn big b) : GoodIn big (a ++ b) := fun w h => (List.mem_append.mp h).elim (ha w) (hb w)
theorem goodIn_ca {big a b : List Cond} {c : Cond} (ha : GoodIn big (c :: a)) (hb : GoodIn big b) : GoodIn big (c :: (a ++ b)) := fun w h => (List.mem_cons.mp h).elim (fun e => ha w (List.mem_cons.mpr (Or.inl e))) (fun h => (List.mem_append.mp h).elim (fun h => ha w (List.mem_cons.mpr (Or.inr h))) (hb w))
theorem goodIn_sub {big ws : List Cond} (hm : ∀ w ∈ ws, w ∈ big) (h : ws.all goodWord = true) : GoodIn big ws := fun w hw => ⟨hm w hw, good_of_word (List.all_eq_true.mp h w hw)⟩
/-! ===== END ===== -/

/-! ===== BEGIN printed: names, fields, word lists, decode rows ===== -/
def RX0 : String := "FlagWash$Acts"
def TX0 : u_T := fun k => match k with
  | 0 => ("FlagWash$Acts", "before", "[LFlagWash$Wash;", true)
  | 1 => ("FlagWash$Acts", "first", "I", false)
  | _ => ("FlagWash$Acts", "size", "I", false)
def tyX0 : Nat → FieldType := fun k => match k with
  | 0 => .array (.object "FlagWash$Wash")
  | 1 => .int
  | _ => .int
abbrev wsX00 : List Cond := u_ws RX0 TX0 3
theorem nmX0 : ∀ a, a < 3 → ∀ b, b < 3 → a ≠ b → (TX0 a).2.1 ≠ (TX0 b).2.1 := by decide +kernel
theorem tyX0_ok : ∀ k, k < 3 → parseFieldDescriptor (TX0 k).2.2.1 = some (tyX0 k) := by decide +kernel
abbrev cX0_init : ByteArray := prog_2_method_1_code
def yX0_init : MethodName := ⟨RX0, "<init>", "(LFlagWash$Plan;)V"⟩
abbrev cX0_forgetAll : ByteArray := prog_2_method_2_code
def yX0_forgetAll : MethodName := ⟨RX0, "forgetAll", "()V"⟩
abbrev cX0_remember : ByteArray := prog_2_method_3_code
def yX0_remember : MethodName := ⟨RX0, "remember", "(LFlagWash$Wash;)V"⟩
abbrev cX0_takeBack : ByteArray := prog_2_method_4_code
def yX0_takeBack : MethodName := ⟨RX0, "takeBack", "(LFlagWash$Wash;)Z"⟩
def RX1 : String := "FlagWash$Chances"
def TX1 : u_T := fun k => match k with
  | _ => ("", "", "", false)
def tyX1 : Nat → FieldType := fun k => match k with
  | _ => .int
abbrev wsX10 : List Cond := u_ws RX1 TX1 0
theorem nmX1 : ∀ a, a < 0 → ∀ b, b < 0 → a ≠ b → (TX1 a).2.1 ≠ (TX1 b).2.1 := by decide +kernel
theorem tyX1_ok : ∀ k, k < 0 → parseFieldDescriptor (TX1 k).2.2.1 = some (tyX1 k) := by decide +kernel
abbrev cX1_waysToDry : ByteArray := prog_3_method_2_code
def yX1_waysToDry : MethodName := ⟨RX1, "waysToDry", "(III)I"⟩
abbrev cX1_power : ByteArray := prog_3_method_3_code
def yX1_power : MethodName := ⟨RX1, "power", "(II)I"⟩
abbrev cX1_choices : ByteArray := prog_3_method_4_code
def yX1_choices : MethodName := ⟨RX1, "choices", "(II)I"⟩
def RX2 : String := "FlagWash$Forecast"
def TX2 : u_T := fun k => match k with
  | _ => ("FlagWash$Forecast", "ahead", "LFlagWash$Wash;", true)
def tyX2 : Nat → FieldType := fun k => match k with
  | _ => .object "FlagWash$Wash"
abbrev wsX20 : List Cond := u_ws RX2 TX2 1
theorem nmX2 : ∀ a, a < 1 → ∀ b, b < 1 → a ≠ b → (TX2 a).2.1 ≠ (TX2 b).2.1 := by decide +kernel
theorem tyX2_ok : ∀ k, k < 1 → parseFieldDescriptor (TX2 k).2.2.1 = some (tyX2 k) := by decide +kernel
abbrev cX2_init : ByteArray := prog_4_method_1_code
def yX2_init : MethodName := ⟨RX2, "<init>", "(LFlagWash$Wash;)V"⟩
abbrev cX2_hoursToFight : ByteArray := prog_4_method_2_code
def yX2_hoursToFight : MethodName := ⟨RX2, "hoursToFight", "(LFlagWash$Wash;II)I"⟩
abbrev cX2_bestToSend : ByteArray := prog_4_method_3_code
def yX2_bestToSend : MethodName := ⟨RX2, "bestToSend", "(LFlagWash$Wash;)I"⟩
def RX3 : String := "FlagWash$Game"
def TX3 : u_T := fun k => match k with
  | _ => ("", "", "", false)
def tyX3 : Nat → FieldType := fun k => match k with
  | _ => .int
abbrev wsX30 : List Cond := u_ws RX3 TX3 0
theorem nmX3 : ∀ a, a < 0 → ∀ b, b < 0 → a ≠ b → (TX3 a).2.1 ≠ (TX3 b).2.1 := by decide +kernel
theorem tyX3_ok : ∀ k, k < 0 → parseFieldDescriptor (TX3 k).2.2.1 = some (tyX3 k) := by decide +kernel
abbrev cX3_howManyRests : ByteArray := prog_5_method_2_code
def yX3_howManyRests : MethodName := ⟨RX3, "howManyRests", "(LFlagWash$Plan;II)I"⟩
abbrev cX3_firstRest : ByteArray := prog_5_method_3_code
def yX3_firstRest : MethodName := ⟨RX3, "firstRest", "(LFlagWash$Plan;II)I"⟩
abbrev cX3_isRest : ByteArray := prog_5_method_4_code
def yX3_isRest : MethodName := ⟨RX3, "isRest", "(LFlagWash$Plan;IIII)Z"⟩
abbrev cX3_gain : ByteArray := prog_5_method_5_code
def yX3_gain : MethodName := ⟨RX3, "gain", "(LFlagWash$Plan;IIII)I"⟩
def RX4 : String := "FlagWash$Plan"
def TX4 : u_T := fun k => match k with
  | 0 => ("FlagWash$Plan", "tubs", "I", false)
  | 1 => ("FlagWash$Plan", "pegs", "I", false)
  | 2 => ("FlagWash$Plan", "wind", "I", false)
  | 3 => ("FlagWash$Plan", "flags", "I", false)
  | 4 => ("FlagWash$Plan", "colours", "[I", true)
  | 5 => ("FlagWash$Plan", "cloth", "[I", true)
  | 6 => ("FlagWash$Plan", "hours", "[I", true)
  | _ => ("FlagWash$Plan", "hostile", "[I", true)
def tyX4 : Nat → FieldType := fun k => match k with
  | 0 => .int
  | 1 => .int
  | 2 => .int
  | 3 => .int
  | 4 => .array .int
  | 5 => .array .int
  | 6 => .array .int
  | _ => .array .int
abbrev wsX40 : List Cond := u_ws RX4 TX4 8
theorem nmX4 : ∀ a, a < 8 → ∀ b, b < 8 → a ≠ b → (TX4 a).2.1 ≠ (TX4 b).2.1 := by decide +kernel
theorem tyX4_ok : ∀ k, k < 8 → parseFieldDescriptor (TX4 k).2.2.1 = some (tyX4 k) := by decide +kernel
abbrev cX4_init : ByteArray := prog_6_method_1_code
def yX4_init : MethodName := ⟨RX4, "<init>", "()V"⟩
abbrev cX4_copyFrom : ByteArray := prog_6_method_2_code
def yX4_copyFrom : MethodName := ⟨RX4, "copyFrom", "(LFlagWash$Plan;)V"⟩
abbrev cX4_has : ByteArray := prog_6_method_3_code
def yX4_has : MethodName := ⟨RX4, "has", "(I)Z"⟩
abbrev cX4_allBits : ByteArray := prog_6_method_4_code
def yX4_allBits : MethodName := ⟨RX4, "allBits", "()I"⟩
abbrev cX4_addFlag : ByteArray := prog_6_method_5_code
def yX4_addFlag : MethodName := ⟨RX4, "addFlag", "(III)V"⟩
abbrev cX4_makeHostile : ByteArray := prog_6_method_6_code
def yX4_makeHostile : MethodName := ⟨RX4, "makeHostile", "(II)V"⟩
abbrev cX4_areHostile : ByteArray := prog_6_method_7_code
def yX4_areHostile : MethodName := ⟨RX4, "areHostile", "(II)Z"⟩
abbrev cX4_notYetHostile : ByteArray := prog_6_method_8_code
def yX4_notYetHostile : MethodName := ⟨RX4, "notYetHostile", "(I)I"⟩
abbrev cX4_anyNotYetHostile : ByteArray := prog_6_method_9_code
def yX4_anyNotYetHostile : MethodName := ⟨RX4, "anyNotYetHostile", "()Z"⟩
abbrev cX4_hostilePairs : ByteArray := prog_6_method_10_code
def yX4_hostilePairs : MethodName := ⟨RX4, "hostilePairs", "(I)I"⟩
def RX5 : String := "FlagWash$Reader"
def TX5 : u_T := fun k => match k with
  | 0 => ("FlagWash$Reader", "plan", "LFlagWash$Plan;", true)
  | 1 => ("FlagWash$Reader", "stage", "I", false)
  | 2 => ("FlagWash$Reader", "colours", "I", false)
  | 3 => ("FlagWash$Reader", "cloth", "I", false)
  | _ => ("FlagWash$Reader", "one", "I", false)
def tyX5 : Nat → FieldType := fun k => match k with
  | 0 => .object "FlagWash$Plan"
  | 1 => .int
  | 2 => .int
  | 3 => .int
  | _ => .int
abbrev wsX50 : List Cond := u_ws RX5 TX5 5
theorem nmX5 : ∀ a, a < 5 → ∀ b, b < 5 → a ≠ b → (TX5 a).2.1 ≠ (TX5 b).2.1 := by decide +kernel
theorem tyX5_ok : ∀ k, k < 5 → parseFieldDescriptor (TX5 k).2.2.1 = some (tyX5 k) := by decide +kernel
abbrev cX5_init : ByteArray := prog_7_method_1_code
def yX5_init : MethodName := ⟨RX5, "<init>", "()V"⟩
abbrev cX5_firstFault : ByteArray := prog_7_method_2_code
def yX5_firstFault : MethodName := ⟨RX5, "firstFault", "([II)I"⟩
abbrev cX5_takes : ByteArray := prog_7_method_3_code
def yX5_takes : MethodName := ⟨RX5, "takes", "(I)Z"⟩
abbrev cX5_takesOfHead : ByteArray := prog_7_method_4_code
def yX5_takesOfHead : MethodName := ⟨RX5, "takesOfHead", "(I)Z"⟩
abbrev cX5_takesPart : ByteArray := prog_7_method_5_code
def yX5_takesPart : MethodName := ⟨RX5, "takesPart", "(I)Z"⟩
abbrev cX5_takesOfFlag : ByteArray := prog_7_method_6_code
def yX5_takesOfFlag : MethodName := ⟨RX5, "takesOfFlag", "(I)Z"⟩
abbrev cX5_takesOfHostile : ByteArray := prog_7_method_7_code
def yX5_takesOfHostile : MethodName := ⟨RX5, "takesOfHostile", "(I)Z"⟩
abbrev cX5_goOn : ByteArray := prog_7_method_8_code
def yX5_goOn : MethodName := ⟨RX5, "goOn", "(ZI)Z"⟩
def RX6 : String := "FlagWash$Shares"
def TX6 : u_T := fun k => match k with
  | _ => ("", "", "", false)
def tyX6 : Nat → FieldType := fun k => match k with
  | _ => .int
abbrev wsX60 : List Cond := u_ws RX6 TX6 0
theorem nmX6 : ∀ a, a < 0 → ∀ b, b < 0 → a ≠ b → (TX6 a).2.1 ≠ (TX6 b).2.1 := by decide +kernel
theorem tyX6_ok : ∀ k, k < 0 → parseFieldDescriptor (TX6 k).2.2.1 = some (tyX6 k) := by decide +kernel
abbrev cX6_orders : ByteArray := prog_8_method_2_code
def yX6_orders : MethodName := ⟨RX6, "orders", "(I)I"⟩
abbrev cX6_gainInAllOrders : ByteArray := prog_8_method_3_code
def yX6_gainInAllOrders : MethodName := ⟨RX6, "gainInAllOrders", "(LFlagWash$Plan;I)I"⟩
abbrev cX6_inPeace : ByteArray := prog_8_method_4_code
def yX6_inPeace : MethodName := ⟨RX6, "inPeace", "(LFlagWash$Plan;I)I"⟩
def RX7 : String := "FlagWash$Sightings"
def TX7 : u_T := fun k => match k with
  | 0 => ("FlagWash$Sightings", "flag", "[I", true)
  | 1 => ("FlagWash$Sightings", "colours", "[I", true)
  | 2 => ("FlagWash$Sightings", "with", "[I", true)
  | _ => ("FlagWash$Sightings", "size", "I", false)
def tyX7 : Nat → FieldType := fun k => match k with
  | 0 => .array .int
  | 1 => .array .int
  | 2 => .array .int
  | _ => .int
abbrev wsX70 : List Cond := u_ws RX7 TX7 4
theorem nmX7 : ∀ a, a < 4 → ∀ b, b < 4 → a ≠ b → (TX7 a).2.1 ≠ (TX7 b).2.1 := by decide +kernel
theorem tyX7_ok : ∀ k, k < 4 → parseFieldDescriptor (TX7 k).2.2.1 = some (tyX7 k) := by decide +kernel
abbrev cX7_init : ByteArray := prog_9_method_1_code
def yX7_init : MethodName := ⟨RX7, "<init>", "()V"⟩
abbrev cX7_forgetAll : ByteArray := prog_9_method_2_code
def yX7_forgetAll : MethodName := ⟨RX7, "forgetAll", "()V"⟩
abbrev cX7_add : ByteArray := prog_9_method_3_code
def yX7_add : MethodName := ⟨RX7, "add", "(III)Z"⟩
abbrev cX7_howManySets : ByteArray := prog_9_method_4_code
def yX7_howManySets : MethodName := ⟨RX7, "howManySets", "(ILFlagWash$Wash;)I"⟩
abbrev cX7_coloursInAll : ByteArray := prog_9_method_5_code
def yX7_coloursInAll : MethodName := ⟨RX7, "coloursInAll", "(ILFlagWash$Wash;)I"⟩
abbrev cX7_coloursInNone : ByteArray := prog_9_method_6_code
def yX7_coloursInNone : MethodName := ⟨RX7, "coloursInNone", "(ILFlagWash$Wash;)I"⟩
abbrev cX7_fitsAll : ByteArray := prog_9_method_7_code
def yX7_fitsAll : MethodName := ⟨RX7, "fitsAll", "(IILFlagWash$Wash;)Z"⟩
def RX8 : String := "FlagWash$Wash"
def TX8 : u_T := fun k => match k with
  | 0 => ("FlagWash$Wash", "plan", "LFlagWash$Plan;", true)
  | 1 => ("FlagWash$Wash", "where", "[I", true)
  | 2 => ("FlagWash$Wash", "left", "[I", true)
  | 3 => ("FlagWash$Wash", "colours", "[I", true)
  | 4 => ("FlagWash$Wash", "wind", "I", false)
  | _ => ("FlagWash$Wash", "hour", "I", false)
def tyX8 : Nat → FieldType := fun k => match k with
  | 0 => .object "FlagWash$Plan"
  | 1 => .array .int
  | 2 => .array .int
  | 3 => .array .int
  | 4 => .int
  | _ => .int
abbrev wsX80 : List Cond := u_ws RX8 TX8 6
theorem nmX8 : ∀ a, a < 6 → ∀ b, b < 6 → a ≠ b → (TX8 a).2.1 ≠ (TX8 b).2.1 := by decide +kernel
theorem tyX8_ok : ∀ k, k < 6 → parseFieldDescriptor (TX8 k).2.2.1 = some (tyX8 k) := by decide +kernel
abbrev cX8_init : ByteArray := prog_10_method_1_code
def yX8_init : MethodName := ⟨RX8, "<init>", "(LFlagWash$Plan;)V"⟩
abbrev cX8_startAnew : ByteArray := prog_10_method_2_code
def yX8_startAnew : MethodName := ⟨RX8, "startAnew", "()V"⟩
abbrev cX8_copyFrom : ByteArray := prog_10_method_3_code
def yX8_copyFrom : MethodName := ⟨RX8, "copyFrom", "(LFlagWash$Wash;)V"⟩
abbrev cX8_bitsAt : ByteArray := prog_10_method_4_code
def yX8_bitsAt : MethodName := ⟨RX8, "bitsAt", "(I)I"⟩
abbrev cX8_homeBits : ByteArray := prog_10_method_5_code
def yX8_homeBits : MethodName := ⟨RX8, "homeBits", "()I"⟩
abbrev cX8_freeTubs : ByteArray := prog_10_method_6_code
def yX8_freeTubs : MethodName := ⟨RX8, "freeTubs", "()I"⟩
abbrev cX8_freePegs : ByteArray := prog_10_method_7_code
def yX8_freePegs : MethodName := ⟨RX8, "freePegs", "()I"⟩
abbrev cX8_coloursOf : ByteArray := prog_10_method_8_code
def yX8_coloursOf : MethodName := ⟨RX8, "coloursOf", "(I)I"⟩
abbrev cX8_pairsThatMayFight : ByteArray := prog_10_method_9_code
def yX8_pairsThatMayFight : MethodName := ⟨RX8, "pairsThatMayFight", "()I"⟩
abbrev cX8_canBeSent : ByteArray := prog_10_method_10_code
def yX8_canBeSent : MethodName := ⟨RX8, "canBeSent", "(I)Z"⟩
abbrev cX8_putInTub : ByteArray := prog_10_method_11_code
def yX8_putInTub : MethodName := ⟨RX8, "putInTub", "(I)V"⟩
abbrev cX8_canBePulled : ByteArray := prog_10_method_12_code
def yX8_canBePulled : MethodName := ⟨RX8, "canBePulled", "(I)Z"⟩
abbrev cX8_bringHome : ByteArray := prog_10_method_13_code
def yX8_bringHome : MethodName := ⟨RX8, "bringHome", "(I)V"⟩
abbrev cX8_passHour : ByteArray := prog_10_method_14_code
def yX8_passHour : MethodName := ⟨RX8, "passHour", "()I"⟩
abbrev cX8_dryOnLine : ByteArray := prog_10_method_15_code
def yX8_dryOnLine : MethodName := ⟨RX8, "dryOnLine", "()I"⟩
abbrev cX8_runInTubs : ByteArray := prog_10_method_16_code
def yX8_runInTubs : MethodName := ⟨RX8, "runInTubs", "()V"⟩
abbrev cX8_washInTubs : ByteArray := prog_10_method_17_code
def yX8_washInTubs : MethodName := ⟨RX8, "washInTubs", "()V"⟩
abbrev cX8_hangUp : ByteArray := prog_10_method_18_code
def yX8_hangUp : MethodName := ⟨RX8, "hangUp", "()V"⟩
abbrev cX8_wetOf : ByteArray := prog_10_method_19_code
def yX8_wetOf : MethodName := ⟨RX8, "wetOf", "(I)I"⟩
abbrev cX8_doFigure : ByteArray := prog_10_method_20_code
def yX8_doFigure : MethodName := ⟨RX8, "doFigure", "(I)Z"⟩
abbrev cX8_doByChance : ByteArray := prog_10_method_21_code
def yX8_doByChance : MethodName := ⟨RX8, "doByChance", "(I)V"⟩
abbrev cX8_sendIfItCan : ByteArray := prog_10_method_22_code
def yX8_sendIfItCan : MethodName := ⟨RX8, "sendIfItCan", "(I)Z"⟩
def RX9 : String := "FlagWash"
def TX9 : u_T := fun k => match k with
  | 0 => ("FlagWash", "letters", "[I", true)
  | 1 => ("FlagWash", "length", "I", false)
  | 2 => ("FlagWash", "reader", "LFlagWash$Reader;", true)
  | 3 => ("FlagWash", "plan", "LFlagWash$Plan;", true)
  | 4 => ("FlagWash", "now", "LFlagWash$Wash;", true)
  | 5 => ("FlagWash", "trial", "LFlagWash$Wash;", true)
  | 6 => ("FlagWash", "forecast", "LFlagWash$Forecast;", true)
  | 7 => ("FlagWash", "acts", "LFlagWash$Acts;", true)
  | 8 => ("FlagWash", "sightings", "LFlagWash$Sightings;", true)
  | 9 => ("FlagWash", "slots", "[LFlagWash$Wash;", true)
  | 10 => ("FlagWash", "kept", "[Z", true)
  | _ => ("FlagWash", "seedNow", "J", false)
def tyX9 : Nat → FieldType := fun k => match k with
  | 0 => .array .int
  | 1 => .int
  | 2 => .object "FlagWash$Reader"
  | 3 => .object "FlagWash$Plan"
  | 4 => .object "FlagWash$Wash"
  | 5 => .object "FlagWash$Wash"
  | 6 => .object "FlagWash$Forecast"
  | 7 => .object "FlagWash$Acts"
  | 8 => .object "FlagWash$Sightings"
  | 9 => .array (.object "FlagWash$Wash")
  | 10 => .array .boolean
  | _ => .long
abbrev wsX90 : List Cond := u_ws RX9 TX9 12
theorem nmX9 : ∀ a, a < 12 → ∀ b, b < 12 → a ≠ b → (TX9 a).2.1 ≠ (TX9 b).2.1 := by decide +kernel
theorem tyX9_ok : ∀ k, k < 12 → parseFieldDescriptor (TX9 k).2.2.1 = some (tyX9 k) := by decide +kernel
abbrev cX9_init : ByteArray := prog_1_method_1_code
def yX9_init : MethodName := ⟨RX9, "<init>", "()V"⟩
abbrev cX9_write : ByteArray := prog_1_method_2_code
def yX9_write : MethodName := ⟨RX9, "write", "(I)I"⟩
abbrev cX9_wipe : ByteArray := prog_1_method_3_code
def yX9_wipe : MethodName := ⟨RX9, "wipe", "()I"⟩
abbrev cX9_fault : ByteArray := prog_1_method_4_code
def yX9_fault : MethodName := ⟨RX9, "fault", "()I"⟩
abbrev cX9_laundry : ByteArray := prog_1_method_5_code
def yX9_laundry : MethodName := ⟨RX9, "laundry", "()I"⟩
abbrev cX9_flag : ByteArray := prog_1_method_6_code
def yX9_flag : MethodName := ⟨RX9, "flag", "(II)I"⟩
abbrev cX9_send : ByteArray := prog_1_method_7_code
def yX9_send : MethodName := ⟨RX9, "send", "(I)I"⟩
abbrev cX9_pull : ByteArray := prog_1_method_8_code
def yX9_pull : MethodName := ⟨RX9, "pull", "(I)I"⟩
abbrev cX9_hour : ByteArray := prog_1_method_9_code
def yX9_hour : MethodName := ⟨RX9, "hour", "()I"⟩
abbrev cX9_wind : ByteArray := prog_1_method_10_code
def yX9_wind : MethodName := ⟨RX9, "wind", "(I)I"⟩
abbrev cX9_undo : ByteArray := prog_1_method_11_code
def yX9_undo : MethodName := ⟨RX9, "undo", "()I"⟩
abbrev cX9_peace : ByteArray := prog_1_method_12_code
def yX9_peace : MethodName := ⟨RX9, "peace", "(II)I"⟩
abbrev cX9_quiet : ByteArray := prog_1_method_13_code
def yX9_quiet : MethodName := ⟨RX9, "quiet", "()I"⟩
abbrev cX9_sending : ByteArray := prog_1_method_14_code
def yX9_sending : MethodName := ⟨RX9, "sending", "(Z)I"⟩
abbrev cX9_cover : ByteArray := prog_1_method_15_code
def yX9_cover : MethodName := ⟨RX9, "cover", "()I"⟩
abbrev cX9_ran : ByteArray := prog_1_method_16_code
def yX9_ran : MethodName := ⟨RX9, "ran", "(II)I"⟩
abbrev cX9_judge : ByteArray := prog_1_method_17_code
def yX9_judge : MethodName := ⟨RX9, "judge", "(II)I"⟩
abbrev cX9_see : ByteArray := prog_1_method_18_code
def yX9_see : MethodName := ⟨RX9, "see", "(III)I"⟩
abbrev cX9_unsee : ByteArray := prog_1_method_19_code
def yX9_unsee : MethodName := ⟨RX9, "unsee", "()I"⟩
abbrev cX9_had : ByteArray := prog_1_method_20_code
def yX9_had : MethodName := ⟨RX9, "had", "(II)I"⟩
abbrev cX9_share : ByteArray := prog_1_method_21_code
def yX9_share : MethodName := ⟨RX9, "share", "(IZ)I"⟩
abbrev cX9_rests : ByteArray := prog_1_method_22_code
def yX9_rests : MethodName := ⟨RX9, "rests", "(III)I"⟩
abbrev cX9_dry : ByteArray := prog_1_method_23_code
def yX9_dry : MethodName := ⟨RX9, "dry", "(IIIZ)I"⟩
abbrev cX9_seed : ByteArray := prog_1_method_24_code
def yX9_seed : MethodName := ⟨RX9, "seed", "(J)J"⟩
abbrev cX9_weeks : ByteArray := prog_1_method_25_code
def yX9_weeks : MethodName := ⟨RX9, "weeks", "(I)I"⟩
abbrev cX9_keep : ByteArray := prog_1_method_26_code
def yX9_keep : MethodName := ⟨RX9, "keep", "(I)I"⟩
abbrev cX9_again : ByteArray := prog_1_method_27_code
def yX9_again : MethodName := ⟨RX9, "again", "(I)I"⟩
abbrev cX9_count : ByteArray := prog_1_method_28_code
def yX9_count : MethodName := ⟨RX9, "count", "(I)I"⟩
abbrev cX9_areColours : ByteArray := prog_1_method_29_code
def yX9_areColours : MethodName := ⟨RX9, "areColours", "(I)Z"⟩
abbrev cX9_isWithin : ByteArray := prog_1_method_30_code
def yX9_isWithin : MethodName := ⟨RX9, "isWithin", "(II)Z"⟩
abbrev cX9_isFewer : ByteArray := prog_1_method_31_code
def yX9_isFewer : MethodName := ⟨RX9, "isFewer", "(II)Z"⟩
abbrev cX9_withoutLastFigures : ByteArray := prog_1_method_32_code
def yX9_withoutLastFigures : MethodName := ⟨RX9, "withoutLastFigures", "(II)I"⟩
abbrev cX9_toldFraction : ByteArray := prog_1_method_33_code
def yX9_toldFraction : MethodName := ⟨RX9, "toldFraction", "(IIZ)I"⟩
abbrev cX9_greatestCommon : ByteArray := prog_1_method_34_code
def yX9_greatestCommon : MethodName := ⟨RX9, "greatestCommon", "(II)I"⟩
def RX10 : String := "FlagWashModel"
def TX10 : u_T := fun k => match k with
  | 0 => ("FlagWashModel", "flags", "I", false)
  | 1 => ("FlagWashModel", "tubs", "I", false)
  | 2 => ("FlagWashModel", "pegs", "I", false)
  | 3 => ("FlagWashModel", "cloth", "[I", true)
  | 4 => ("FlagWashModel", "washed", "[I", true)
  | 5 => ("FlagWashModel", "hostile", "[I", true)
  | 6 => ("FlagWashModel", "now", "[I", true)
  | 7 => ("FlagWashModel", "readOf", "[I", true)
  | 8 => ("FlagWashModel", "readHostile", "[I", true)
  | 9 => ("FlagWashModel", "readFlags", "I", false)
  | 10 => ("FlagWashModel", "text", "[I", true)
  | 11 => ("FlagWashModel", "length", "I", false)
  | 12 => ("FlagWashModel", "at", "I", false)
  | 13 => ("FlagWashModel", "faultAt", "I", false)
  | 14 => ("FlagWashModel", "acts", "I", false)
  | 15 => ("FlagWashModel", "next", "I", false)
  | 16 => ("FlagWashModel", "row", "[I", true)
  | 17 => ("FlagWashModel", "seen", "I", false)
  | 18 => ("FlagWashModel", "seenOf", "[I", true)
  | 19 => ("FlagWashModel", "seenColours", "[I", true)
  | 20 => ("FlagWashModel", "seenWith", "[I", true)
  | 21 => ("FlagWashModel", "seed", "J", false)
  | 22 => ("FlagWashModel", "isKept", "[Z", true)
  | _ => ("FlagWashModel", "kept", "[I", true)
def tyX10 : Nat → FieldType := fun k => match k with
  | 0 => .int
  | 1 => .int
  | 2 => .int
  | 3 => .array .int
  | 4 => .array .int
  | 5 => .array .int
  | 6 => .array .int
  | 7 => .array .int
  | 8 => .array .int
  | 9 => .int
  | 10 => .array .int
  | 11 => .int
  | 12 => .int
  | 13 => .int
  | 14 => .int
  | 15 => .int
  | 16 => .array .int
  | 17 => .int
  | 18 => .array .int
  | 19 => .array .int
  | 20 => .array .int
  | 21 => .long
  | 22 => .array .boolean
  | _ => .array .int
abbrev wsX100 : List Cond := u_ws RX10 TX10 24
theorem nmX10 : ∀ a, a < 24 → ∀ b, b < 24 → a ≠ b → (TX10 a).2.1 ≠ (TX10 b).2.1 := by decide +kernel
theorem tyX10_ok : ∀ k, k < 24 → parseFieldDescriptor (TX10 k).2.2.1 = some (tyX10 k) := by decide +kernel
abbrev cX10_init : ByteArray := prog_12_method_1_code
def yX10_init : MethodName := ⟨RX10, "<init>", "()V"⟩
abbrev cX10_in : ByteArray := prog_12_method_3_code
def yX10_in : MethodName := ⟨RX10, "in", "(JJJ)Z"⟩
abbrev cX10_has : ByteArray := prog_12_method_4_code
def yX10_has : MethodName := ⟨RX10, "has", "(II)Z"⟩
abbrev cX10_ones : ByteArray := prog_12_method_5_code
def yX10_ones : MethodName := ⟨RX10, "ones", "(I)I"⟩
abbrev cX10_write : ByteArray := prog_12_method_6_code
def yX10_write : MethodName := ⟨RX10, "write", "(I)I"⟩
abbrev cX10_wipe : ByteArray := prog_12_method_7_code
def yX10_wipe : MethodName := ⟨RX10, "wipe", "()I"⟩
abbrev cX10_takeOf : ByteArray := prog_12_method_8_code
def yX10_takeOf : MethodName := ⟨RX10, "takeOf", "(II)I"⟩
abbrev cX10_left : ByteArray := prog_12_method_9_code
def yX10_left : MethodName := ⟨RX10, "left", "(I)I"⟩
abbrev cX10_firstsLeft : ByteArray := prog_12_method_10_code
def yX10_firstsLeft : MethodName := ⟨RX10, "firstsLeft", "()I"⟩
abbrev cX10_readText : ByteArray := prog_12_method_11_code
def yX10_readText : MethodName := ⟨RX10, "readText", "()I"⟩
abbrev cX10_readPart : ByteArray := prog_12_method_12_code
def yX10_readPart : MethodName := ⟨RX10, "readPart", "(I)V"⟩
abbrev cX10_fault : ByteArray := prog_12_method_13_code
def yX10_fault : MethodName := ⟨RX10, "fault", "()I"⟩
abbrev cX10_laundry : ByteArray := prog_12_method_14_code
def yX10_laundry : MethodName := ⟨RX10, "laundry", "()I"⟩
abbrev cX10_isFlag : ByteArray := prog_12_method_15_code
def yX10_isFlag : MethodName := ⟨RX10, "isFlag", "(I)Z"⟩
abbrev cX10_areIn : ByteArray := prog_12_method_16_code
def yX10_areIn : MethodName := ⟨RX10, "areIn", "(II)I"⟩
abbrev cX10_free : ByteArray := prog_12_method_17_code
def yX10_free : MethodName := ⟨RX10, "free", "(II)I"⟩
abbrev cX10_fights : ByteArray := prog_12_method_18_code
def yX10_fights : MethodName := ⟨RX10, "fights", "(I)I"⟩
abbrev cX10_wetOf : ByteArray := prog_12_method_19_code
def yX10_wetOf : MethodName := ⟨RX10, "wetOf", "(I)I"⟩
abbrev cX10_coloursOf : ByteArray := prog_12_method_20_code
def yX10_coloursOf : MethodName := ⟨RX10, "coloursOf", "(II)I"⟩
abbrev cX10_passOn : ByteArray := prog_12_method_21_code
def yX10_passOn : MethodName := ⟨RX10, "passOn", "(I)I"⟩
abbrev cX10_hangOn : ByteArray := prog_12_method_22_code
def yX10_hangOn : MethodName := ⟨RX10, "hangOn", "(II)V"⟩
abbrev cX10_canSend : ByteArray := prog_12_method_23_code
def yX10_canSend : MethodName := ⟨RX10, "canSend", "(II)Z"⟩
abbrev cX10_sendOn : ByteArray := prog_12_method_24_code
def yX10_sendOn : MethodName := ⟨RX10, "sendOn", "(II)V"⟩
abbrev cX10_flag : ByteArray := prog_12_method_25_code
def yX10_flag : MethodName := ⟨RX10, "flag", "(II)I"⟩
abbrev cX10_keepAct : ByteArray := prog_12_method_26_code
def yX10_keepAct : MethodName := ⟨RX10, "keepAct", "()V"⟩
abbrev cX10_send : ByteArray := prog_12_method_27_code
def yX10_send : MethodName := ⟨RX10, "send", "(I)I"⟩
abbrev cX10_pullOn : ByteArray := prog_12_method_28_code
def yX10_pullOn : MethodName := ⟨RX10, "pullOn", "(II)V"⟩
abbrev cX10_pull : ByteArray := prog_12_method_29_code
def yX10_pull : MethodName := ⟨RX10, "pull", "(I)I"⟩
abbrev cX10_hour : ByteArray := prog_12_method_30_code
def yX10_hour : MethodName := ⟨RX10, "hour", "()I"⟩
abbrev cX10_wind : ByteArray := prog_12_method_31_code
def yX10_wind : MethodName := ⟨RX10, "wind", "(I)I"⟩
abbrev cX10_undo : ByteArray := prog_12_method_32_code
def yX10_undo : MethodName := ⟨RX10, "undo", "()I"⟩
abbrev cX10_layTrial : ByteArray := prog_12_method_33_code
def yX10_layTrial : MethodName := ⟨RX10, "layTrial", "()V"⟩
abbrev cX10_quietOf : ByteArray := prog_12_method_34_code
def yX10_quietOf : MethodName := ⟨RX10, "quietOf", "(I)I"⟩
abbrev cX10_peace : ByteArray := prog_12_method_35_code
def yX10_peace : MethodName := ⟨RX10, "peace", "(II)I"⟩
abbrev cX10_quiet : ByteArray := prog_12_method_36_code
def yX10_quiet : MethodName := ⟨RX10, "quiet", "()I"⟩
abbrev cX10_quietBy : ByteArray := prog_12_method_37_code
def yX10_quietBy : MethodName := ⟨RX10, "quietBy", "(I)I"⟩
abbrev cX10_sending : ByteArray := prog_12_method_38_code
def yX10_sending : MethodName := ⟨RX10, "sending", "(Z)I"⟩
abbrev cX10_cover : ByteArray := prog_12_method_39_code
def yX10_cover : MethodName := ⟨RX10, "cover", "()I"⟩
abbrev cX10_ran : ByteArray := prog_12_method_40_code
def yX10_ran : MethodName := ⟨RX10, "ran", "(II)I"⟩
abbrev cX10_tenTo : ByteArray := prog_12_method_41_code
def yX10_tenTo : MethodName := ⟨RX10, "tenTo", "(I)I"⟩
abbrev cX10_tryThing : ByteArray := prog_12_method_42_code
def yX10_tryThing : MethodName := ⟨RX10, "tryThing", "(I)Z"⟩
abbrev cX10_judge : ByteArray := prog_12_method_43_code
def yX10_judge : MethodName := ⟨RX10, "judge", "(II)I"⟩
abbrev cX10_see : ByteArray := prog_12_method_44_code
def yX10_see : MethodName := ⟨RX10, "see", "(III)I"⟩
abbrev cX10_unsee : ByteArray := prog_12_method_45_code
def yX10_unsee : MethodName := ⟨RX10, "unsee", "()I"⟩
abbrev cX10_mayHave : ByteArray := prog_12_method_46_code
def yX10_mayHave : MethodName := ⟨RX10, "mayHave", "(II)Z"⟩
abbrev cX10_had : ByteArray := prog_12_method_47_code
def yX10_had : MethodName := ⟨RX10, "had", "(II)I"⟩
abbrev cX10_factorial : ByteArray := prog_12_method_48_code
def yX10_factorial : MethodName := ⟨RX10, "factorial", "(I)I"⟩
abbrev cX10_common : ByteArray := prog_12_method_49_code
def yX10_common : MethodName := ⟨RX10, "common", "(II)I"⟩
abbrev cX10_calm : ByteArray := prog_12_method_50_code
def yX10_calm : MethodName := ⟨RX10, "calm", "(I)I"⟩
abbrev cX10_share : ByteArray := prog_12_method_51_code
def yX10_share : MethodName := ⟨RX10, "share", "(IZ)I"⟩
abbrev cX10_gain : ByteArray := prog_12_method_52_code
def yX10_gain : MethodName := ⟨RX10, "gain", "(IIII)I"⟩
abbrev cX10_isRest : ByteArray := prog_12_method_53_code
def yX10_isRest : MethodName := ⟨RX10, "isRest", "(IIII)Z"⟩
abbrev cX10_rests : ByteArray := prog_12_method_54_code
def yX10_rests : MethodName := ⟨RX10, "rests", "(III)I"⟩
abbrev cX10_dry : ByteArray := prog_12_method_55_code
def yX10_dry : MethodName := ⟨RX10, "dry", "(IIIZ)I"⟩
abbrev cX10_seed : ByteArray := prog_12_method_56_code
def yX10_seed : MethodName := ⟨RX10, "seed", "(J)J"⟩
abbrev cX10_weeks : ByteArray := prog_12_method_57_code
def yX10_weeks : MethodName := ⟨RX10, "weeks", "(I)I"⟩
abbrev cX10_keep : ByteArray := prog_12_method_58_code
def yX10_keep : MethodName := ⟨RX10, "keep", "(I)I"⟩
abbrev cX10_again : ByteArray := prog_12_method_59_code
def yX10_again : MethodName := ⟨RX10, "again", "(I)I"⟩
abbrev cX10_count : ByteArray := prog_12_method_60_code
def yX10_count : MethodName := ⟨RX10, "count", "(I)I"⟩
def RJ6 : String := "java/lang/Integer"
def TJ6 : u_T := fun k => match k with
  | _ => ("", "", "", false)
def tyJ6 : Nat → FieldType := fun k => match k with
  | _ => .int
abbrev wsJ60 : List Cond := u_ws RJ6 TJ6 0
theorem nmJ6 : ∀ a, a < 0 → ∀ b, b < 0 → a ≠ b → (TJ6 a).2.1 ≠ (TJ6 b).2.1 := by decide +kernel
theorem tyJ6_ok : ∀ k, k < 0 → parseFieldDescriptor (TJ6 k).2.2.1 = some (tyJ6 k) := by decide +kernel
abbrev cJ6_bitCount_0f7a4 : ByteArray := prog_13_method_49_code
def yJ6_bitCount_0f7a4 : MethodName := ⟨RJ6, "bitCount", "(I)I"⟩
def RJ10 : String := "java/lang/System"
def TJ10 : u_T := fun k => match k with
  | _ => ("", "", "", false)
def tyJ10 : Nat → FieldType := fun k => match k with
  | _ => .int
abbrev wsJ100 : List Cond := u_ws RJ10 TJ10 0
theorem nmJ10 : ∀ a, a < 0 → ∀ b, b < 0 → a ≠ b → (TJ10 a).2.1 ≠ (TJ10 b).2.1 := by decide +kernel
theorem tyJ10_ok : ∀ k, k < 0 → parseFieldDescriptor (TJ10 k).2.2.1 = some (tyJ10 k) := by decide +kernel
def RL : String := "FlagWashLaw"
abbrev cL_law : ByteArray := code
def yL_law : MethodName := ⟨RL, "law", "([I)Z"⟩
def wsX8_init : List Cond := .code yX8_init cX8_init 2 none :: ([.methodLink RX8 3 objectInit, .instanceMethod objectInit, .code objectInit ⟨#[0xb1]⟩ 1 none, .arrayClass .int, .fieldLink RX8 9 "FlagWash$Wash" "where" "[I", .fieldLink RX8 15 "FlagWash$Wash" "left" "[I", .fieldLink RX8 18 "FlagWash$Wash" "colours" "[I", .fieldLink RX8 21 "FlagWash$Wash" "wind" "I", .fieldLink RX8 25 "FlagWash$Wash" "hour" "I", .fieldLink RX8 28 "FlagWash$Wash" "plan" "LFlagWash$Plan;"] ++ wsX80)
def wsX0_init : List Cond := .code yX0_init cX0_init 3 none :: ([.methodLink RX0 3 objectInit, .instanceMethod objectInit, .code objectInit ⟨#[0xb1]⟩ 1 none, .classLink RX0 9 RX8, .fieldLink RX0 11 "FlagWash$Acts" "before" "[LFlagWash$Wash;", .fieldLink RX0 17 "FlagWash$Acts" "first" "I", .fieldLink RX0 21 "FlagWash$Acts" "size" "I", .instantiable RX8 6, .initialized RX8, .methodLink RX0 24 yX8_init, .instanceMethod yX8_init, .code yX8_init cX8_init 2 none, .methodLink RX8 3 objectInit, .arrayClass .int, .fieldLink RX8 9 "FlagWash$Wash" "where" "[I", .fieldLink RX8 15 "FlagWash$Wash" "left" "[I", .fieldLink RX8 18 "FlagWash$Wash" "colours" "[I", .fieldLink RX8 21 "FlagWash$Wash" "wind" "I", .fieldLink RX8 25 "FlagWash$Wash" "hour" "I", .fieldLink RX8 28 "FlagWash$Wash" "plan" "LFlagWash$Plan;"] ++ wsX00 ++ wsX80)
def wsX0_forgetAll : List Cond := .code yX0_forgetAll cX0_forgetAll 1 none :: ([.fieldLink RX0 17 "FlagWash$Acts" "first" "I", .fieldLink RX0 21 "FlagWash$Acts" "size" "I"] ++ wsX00)
def wsX8_copyFrom : List Cond := .code yX8_copyFrom cX8_copyFrom 2 none :: ([.fieldLink RX8 9 "FlagWash$Wash" "where" "[I", .methodLink RX8 36 arraycopyName, .native arraycopyName, .static arraycopyName, .initialized "java/lang/System", .fieldLink RX8 15 "FlagWash$Wash" "left" "[I", .fieldLink RX8 18 "FlagWash$Wash" "colours" "[I", .fieldLink RX8 21 "FlagWash$Wash" "wind" "I", .fieldLink RX8 25 "FlagWash$Wash" "hour" "I"] ++ wsX80)
def wsX0_remember : List Cond := .code yX0_remember cX0_remember 2 none :: ([.fieldLink RX0 21 "FlagWash$Acts" "size" "I", .fieldLink RX0 17 "FlagWash$Acts" "first" "I", .fieldLink RX0 11 "FlagWash$Acts" "before" "[LFlagWash$Wash;", .methodLink RX0 27 yX8_copyFrom, .instanceMethod yX8_copyFrom, .selects RX8 yX8_copyFrom yX8_copyFrom, .initialized RX8, .code yX8_copyFrom cX8_copyFrom 2 none, .fieldLink RX8 9 "FlagWash$Wash" "where" "[I", .methodLink RX8 36 arraycopyName, .native arraycopyName, .static arraycopyName, .initialized "java/lang/System", .fieldLink RX8 15 "FlagWash$Wash" "left" "[I", .fieldLink RX8 18 "FlagWash$Wash" "colours" "[I", .fieldLink RX8 21 "FlagWash$Wash" "wind" "I", .fieldLink RX8 25 "FlagWash$Wash" "hour" "I"] ++ wsX00 ++ wsX80)
def wsX0_takeBack : List Cond := .code yX0_takeBack cX0_takeBack 2 (some .boolean) :: ([.fieldLink RX0 21 "FlagWash$Acts" "size" "I", .fieldLink RX0 11 "FlagWash$Acts" "before" "[LFlagWash$Wash;", .fieldLink RX0 17 "FlagWash$Acts" "first" "I", .methodLink RX0 27 yX8_copyFrom, .instanceMethod yX8_copyFrom, .selects RX8 yX8_copyFrom yX8_copyFrom, .initialized RX8, .code yX8_copyFrom cX8_copyFrom 2 none, .fieldLink RX8 9 "FlagWash$Wash" "where" "[I", .methodLink RX8 36 arraycopyName, .native arraycopyName, .static arraycopyName, .initialized "java/lang/System", .fieldLink RX8 15 "FlagWash$Wash" "left" "[I", .fieldLink RX8 18 "FlagWash$Wash" "colours" "[I", .fieldLink RX8 21 "FlagWash$Wash" "wind" "I", .fieldLink RX8 25 "FlagWash$Wash" "hour" "I"] ++ wsX00 ++ wsX80)
def wsX1_choices : List Cond := .code yX1_choices cX1_choices 4 (some .int) :: ([])
def wsX1_power : List Cond := .code yX1_power cX1_power 4 (some .int) :: ([])
def wsX1_waysToDry : List Cond := .code yX1_waysToDry cX1_waysToDry 5 (some .int) :: ([.methodLink RX1 7 yX1_choices, .static yX1_choices, .initialized RX1, .code yX1_choices cX1_choices 4 (some .int), .methodLink RX1 13 yX1_power, .static yX1_power, .code yX1_power cX1_power 4 (some .int)])
def wsX2_init : List Cond := .code yX2_init cX2_init 2 none :: ([.methodLink RX2 3 objectInit, .instanceMethod objectInit, .code objectInit ⟨#[0xb1]⟩ 1 none, .fieldLink RX2 9 "FlagWash$Forecast" "ahead" "LFlagWash$Wash;"] ++ wsX20)
def wsJ6_bitCount_0f7a4 : List Cond := .code yJ6_bitCount_0f7a4 cJ6_bitCount_0f7a4 1 (some .int) :: ([.constant RJ6 265 (1431655765), .constant RJ6 266 (858993459), .constant RJ6 267 (252645135)])
def wsX4_hostilePairs : List Cond := .code yX4_hostilePairs cX4_hostilePairs 4 (some .int) :: ([.fieldLink RX4 21 "FlagWash$Plan" "flags" "I", .fieldLink RX4 34 "FlagWash$Plan" "hostile" "[I", .methodLink RX4 55 yJ6_bitCount_0f7a4, .static yJ6_bitCount_0f7a4, .initialized RJ6, .code yJ6_bitCount_0f7a4 cJ6_bitCount_0f7a4 1 (some .int), .constant RJ6 265 (1431655765), .constant RJ6 266 (858993459), .constant RJ6 267 (252645135)] ++ wsX40)
def wsX4_has : List Cond := .code yX4_has cX4_has 2 (some .boolean) :: ([.fieldLink RX4 21 "FlagWash$Plan" "flags" "I"] ++ wsX40)
def wsX8_putInTub : List Cond := .code yX8_putInTub cX8_putInTub 2 none :: ([.fieldLink RX8 28 "FlagWash$Wash" "plan" "LFlagWash$Plan;", .fieldLink RX8 9 "FlagWash$Wash" "where" "[I", .fieldLink RX8 15 "FlagWash$Wash" "left" "[I", .fieldLink RX8 74 "FlagWash$Plan" "hours" "[I", .methodLink RX8 67 yX4_has, .instanceMethod yX4_has, .selects RX4 yX4_has yX4_has, .initialized RX4, .code yX4_has cX4_has 2 (some .boolean), .fieldLink RX4 21 "FlagWash$Plan" "flags" "I"] ++ wsX80 ++ wsX40)
def wsX8_bitsAt : List Cond := .code yX8_bitsAt cX8_bitsAt 4 (some .int) :: ([.fieldLink RX8 28 "FlagWash$Wash" "plan" "LFlagWash$Plan;", .fieldLink RX8 42 "FlagWash$Plan" "flags" "I", .fieldLink RX8 9 "FlagWash$Wash" "where" "[I"] ++ wsX80 ++ wsX40)
def wsX8_homeBits : List Cond := .code yX8_homeBits cX8_homeBits 1 (some .int) :: ([.methodLink RX8 45 yX8_bitsAt, .instanceMethod yX8_bitsAt, .selects RX8 yX8_bitsAt yX8_bitsAt, .initialized RX8, .code yX8_bitsAt cX8_bitsAt 4 (some .int), .fieldLink RX8 28 "FlagWash$Wash" "plan" "LFlagWash$Plan;", .fieldLink RX8 42 "FlagWash$Plan" "flags" "I", .fieldLink RX8 9 "FlagWash$Wash" "where" "[I"] ++ wsX80 ++ wsX40)
def wsX8_bringHome : List Cond := .code yX8_bringHome cX8_bringHome 2 none :: ([.fieldLink RX8 28 "FlagWash$Wash" "plan" "LFlagWash$Plan;", .fieldLink RX8 9 "FlagWash$Wash" "where" "[I", .fieldLink RX8 15 "FlagWash$Wash" "left" "[I", .methodLink RX8 67 yX4_has, .instanceMethod yX4_has, .selects RX4 yX4_has yX4_has, .initialized RX4, .code yX4_has cX4_has 2 (some .boolean), .fieldLink RX4 21 "FlagWash$Plan" "flags" "I"] ++ wsX80 ++ wsX40)
def wsX8_dryOnLine : List Cond := .code yX8_dryOnLine cX8_dryOnLine 3 (some .int) :: ([.fieldLink RX8 28 "FlagWash$Wash" "plan" "LFlagWash$Plan;", .fieldLink RX8 42 "FlagWash$Plan" "flags" "I", .fieldLink RX8 9 "FlagWash$Wash" "where" "[I", .fieldLink RX8 15 "FlagWash$Wash" "left" "[I", .fieldLink RX8 21 "FlagWash$Wash" "wind" "I", .methodLink RX8 89 yX8_bringHome, .instanceMethod yX8_bringHome, .selects RX8 yX8_bringHome yX8_bringHome, .initialized RX8, .code yX8_bringHome cX8_bringHome 2 none, .methodLink RX8 67 yX4_has, .instanceMethod yX4_has, .selects RX4 yX4_has yX4_has, .initialized RX4, .code yX4_has cX4_has 2 (some .boolean), .fieldLink RX4 21 "FlagWash$Plan" "flags" "I"] ++ wsX80 ++ wsX40)
def wsX8_runInTubs : List Cond := .code yX8_runInTubs cX8_runInTubs 3 none :: ([.fieldLink RX8 28 "FlagWash$Wash" "plan" "LFlagWash$Plan;", .fieldLink RX8 42 "FlagWash$Plan" "flags" "I", .fieldLink RX8 9 "FlagWash$Wash" "where" "[I", .fieldLink RX8 93 "FlagWash$Plan" "cloth" "[I", .fieldLink RX8 18 "FlagWash$Wash" "colours" "[I"] ++ wsX80 ++ wsX40)
def wsX8_washInTubs : List Cond := .code yX8_washInTubs cX8_washInTubs 2 none :: ([.fieldLink RX8 28 "FlagWash$Wash" "plan" "LFlagWash$Plan;", .fieldLink RX8 42 "FlagWash$Plan" "flags" "I", .fieldLink RX8 9 "FlagWash$Wash" "where" "[I", .fieldLink RX8 15 "FlagWash$Wash" "left" "[I"] ++ wsX80 ++ wsX40)
def wsX8_freePegs : List Cond := .code yX8_freePegs cX8_freePegs 1 (some .int) :: ([.fieldLink RX8 28 "FlagWash$Wash" "plan" "LFlagWash$Plan;", .fieldLink RX8 57 "FlagWash$Plan" "pegs" "I", .methodLink RX8 45 yX8_bitsAt, .instanceMethod yX8_bitsAt, .selects RX8 yX8_bitsAt yX8_bitsAt, .initialized RX8, .code yX8_bitsAt cX8_bitsAt 4 (some .int), .fieldLink RX8 42 "FlagWash$Plan" "flags" "I", .fieldLink RX8 9 "FlagWash$Wash" "where" "[I", .methodLink RX8 52 yJ6_bitCount_0f7a4, .static yJ6_bitCount_0f7a4, .initialized RJ6, .code yJ6_bitCount_0f7a4 cJ6_bitCount_0f7a4 1 (some .int), .constant RJ6 265 (1431655765), .constant RJ6 266 (858993459), .constant RJ6 267 (252645135)] ++ wsX80 ++ wsX40)
def wsX8_wetOf : List Cond := .code yX8_wetOf cX8_wetOf 1 (some .int) :: ([.fieldLink RX8 102 "FlagWash$Wash" "WET" "[I"])
def wsX8_hangUp_r1 : List Cond := [Cond.fieldLink RX8 28 "FlagWash$Wash" "plan" "LFlagWash$Plan;", Cond.fieldLink RX8 42 "FlagWash$Plan" "flags" "I", Cond.fieldLink RX8 9 "FlagWash$Wash" "where" "[I", Cond.fieldLink RX8 15 "FlagWash$Wash" "left" "[I", Cond.fieldLink RX8 93 "FlagWash$Plan" "cloth" "[I", Cond.methodLink RX8 96 yX8_freePegs, Cond.instanceMethod yX8_freePegs, Cond.selects RX8 yX8_freePegs yX8_freePegs, Cond.initialized RX8, Cond.code yX8_freePegs cX8_freePegs 1 (some .int), Cond.fieldLink RX8 57 "FlagWash$Plan" "pegs" "I", Cond.methodLink RX8 45 yX8_bitsAt, Cond.instanceMethod yX8_bitsAt, Cond.selects RX8 yX8_bitsAt yX8_bitsAt, Cond.code yX8_bitsAt cX8_bitsAt 4 (some .int), Cond.methodLink RX8 52 yJ6_bitCount_0f7a4, Cond.static yJ6_bitCount_0f7a4, Cond.initialized RJ6, Cond.code yJ6_bitCount_0f7a4 cJ6_bitCount_0f7a4 1 (some .int), Cond.constant RJ6 265 (1431655765), Cond.constant RJ6 266 (858993459), Cond.constant RJ6 267 (252645135), Cond.methodLink RX8 99 yX8_wetOf, Cond.static yX8_wetOf]
def wsX8_hangUp_r2 : List Cond := [Cond.code yX8_wetOf cX8_wetOf 1 (some .int), Cond.fieldLink RX8 102 "FlagWash$Wash" "WET" "[I"]
def wsX8_hangUp : List Cond := .code yX8_hangUp cX8_hangUp 2 none :: ((wsX8_hangUp_r1 ++ wsX8_hangUp_r2) ++ wsX80 ++ wsX40)
def wsX8_passHour_r1 : List Cond := [Cond.fieldLink RX8 25 "FlagWash$Wash" "hour" "I", Cond.methodLink RX8 77 yX8_dryOnLine, Cond.instanceMethod yX8_dryOnLine, Cond.selects RX8 yX8_dryOnLine yX8_dryOnLine, Cond.initialized RX8, Cond.code yX8_dryOnLine cX8_dryOnLine 3 (some .int), Cond.fieldLink RX8 28 "FlagWash$Wash" "plan" "LFlagWash$Plan;", Cond.fieldLink RX8 42 "FlagWash$Plan" "flags" "I", Cond.fieldLink RX8 9 "FlagWash$Wash" "where" "[I", Cond.fieldLink RX8 15 "FlagWash$Wash" "left" "[I", Cond.fieldLink RX8 21 "FlagWash$Wash" "wind" "I", Cond.methodLink RX8 89 yX8_bringHome, Cond.instanceMethod yX8_bringHome, Cond.selects RX8 yX8_bringHome yX8_bringHome, Cond.code yX8_bringHome cX8_bringHome 2 none, Cond.methodLink RX8 67 yX4_has, Cond.instanceMethod yX4_has, Cond.selects RX4 yX4_has yX4_has, Cond.initialized RX4, Cond.code yX4_has cX4_has 2 (some .boolean), Cond.fieldLink RX4 21 "FlagWash$Plan" "flags" "I", Cond.methodLink RX8 80 yX8_runInTubs, Cond.instanceMethod yX8_runInTubs, Cond.selects RX8 yX8_runInTubs yX8_runInTubs]
def wsX8_passHour_r2 : List Cond := [Cond.code yX8_runInTubs cX8_runInTubs 3 none, Cond.fieldLink RX8 93 "FlagWash$Plan" "cloth" "[I", Cond.fieldLink RX8 18 "FlagWash$Wash" "colours" "[I", Cond.methodLink RX8 83 yX8_washInTubs, Cond.instanceMethod yX8_washInTubs, Cond.selects RX8 yX8_washInTubs yX8_washInTubs, Cond.code yX8_washInTubs cX8_washInTubs 2 none, Cond.methodLink RX8 86 yX8_hangUp, Cond.instanceMethod yX8_hangUp, Cond.selects RX8 yX8_hangUp yX8_hangUp, Cond.code yX8_hangUp cX8_hangUp 2 none, Cond.methodLink RX8 96 yX8_freePegs, Cond.instanceMethod yX8_freePegs, Cond.selects RX8 yX8_freePegs yX8_freePegs, Cond.code yX8_freePegs cX8_freePegs 1 (some .int), Cond.fieldLink RX8 57 "FlagWash$Plan" "pegs" "I", Cond.methodLink RX8 45 yX8_bitsAt, Cond.instanceMethod yX8_bitsAt, Cond.selects RX8 yX8_bitsAt yX8_bitsAt, Cond.code yX8_bitsAt cX8_bitsAt 4 (some .int), Cond.methodLink RX8 52 yJ6_bitCount_0f7a4, Cond.static yJ6_bitCount_0f7a4, Cond.initialized RJ6, Cond.code yJ6_bitCount_0f7a4 cJ6_bitCount_0f7a4 1 (some .int)]
def wsX8_passHour_r3 : List Cond := [Cond.constant RJ6 265 (1431655765), Cond.constant RJ6 266 (858993459), Cond.constant RJ6 267 (252645135), Cond.methodLink RX8 99 yX8_wetOf, Cond.static yX8_wetOf, Cond.code yX8_wetOf cX8_wetOf 1 (some .int), Cond.fieldLink RX8 102 "FlagWash$Wash" "WET" "[I"]
def wsX8_passHour : List Cond := .code yX8_passHour cX8_passHour 2 (some .int) :: ((wsX8_passHour_r1 ++ (wsX8_passHour_r2 ++ wsX8_passHour_r3)) ++ wsX80 ++ wsX40)
def wsX2_hoursToFight_r1 : List Cond := [Cond.fieldLink RX2 15 "FlagWash$Wash" "plan" "LFlagWash$Plan;", Cond.fieldLink RX2 9 "FlagWash$Forecast" "ahead" "LFlagWash$Wash;", Cond.methodLink RX2 21 yX4_hostilePairs, Cond.instanceMethod yX4_hostilePairs, Cond.selects RX4 yX4_hostilePairs yX4_hostilePairs, Cond.initialized RX4, Cond.code yX4_hostilePairs cX4_hostilePairs 4 (some .int), Cond.fieldLink RX4 21 "FlagWash$Plan" "flags" "I", Cond.fieldLink RX4 34 "FlagWash$Plan" "hostile" "[I", Cond.methodLink RX4 55 yJ6_bitCount_0f7a4, Cond.static yJ6_bitCount_0f7a4, Cond.initialized RJ6, Cond.code yJ6_bitCount_0f7a4 cJ6_bitCount_0f7a4 1 (some .int), Cond.constant RJ6 265 (1431655765), Cond.constant RJ6 266 (858993459), Cond.constant RJ6 267 (252645135), Cond.methodLink RX2 27 yX8_copyFrom, Cond.instanceMethod yX8_copyFrom, Cond.selects RX8 yX8_copyFrom yX8_copyFrom, Cond.initialized RX8, Cond.code yX8_copyFrom cX8_copyFrom 2 none, Cond.fieldLink RX8 9 "FlagWash$Wash" "where" "[I", Cond.methodLink RX8 36 arraycopyName, Cond.native arraycopyName]
def wsX2_hoursToFight_r2 : List Cond := [Cond.static arraycopyName, Cond.initialized "java/lang/System", Cond.fieldLink RX8 15 "FlagWash$Wash" "left" "[I", Cond.fieldLink RX8 18 "FlagWash$Wash" "colours" "[I", Cond.fieldLink RX8 21 "FlagWash$Wash" "wind" "I", Cond.fieldLink RX8 25 "FlagWash$Wash" "hour" "I", Cond.methodLink RX2 31 yX8_putInTub, Cond.instanceMethod yX8_putInTub, Cond.selects RX8 yX8_putInTub yX8_putInTub, Cond.code yX8_putInTub cX8_putInTub 2 none, Cond.fieldLink RX8 28 "FlagWash$Wash" "plan" "LFlagWash$Plan;", Cond.fieldLink RX8 74 "FlagWash$Plan" "hours" "[I", Cond.methodLink RX8 67 yX4_has, Cond.instanceMethod yX4_has, Cond.selects RX4 yX4_has yX4_has, Cond.code yX4_has cX4_has 2 (some .boolean), Cond.methodLink RX2 35 yX8_homeBits, Cond.instanceMethod yX8_homeBits, Cond.selects RX8 yX8_homeBits yX8_homeBits, Cond.code yX8_homeBits cX8_homeBits 1 (some .int), Cond.methodLink RX8 45 yX8_bitsAt, Cond.instanceMethod yX8_bitsAt, Cond.selects RX8 yX8_bitsAt yX8_bitsAt, Cond.code yX8_bitsAt cX8_bitsAt 4 (some .int)]
def wsX2_hoursToFight_r3 : List Cond := [Cond.fieldLink RX8 42 "FlagWash$Plan" "flags" "I", Cond.methodLink RX2 39 yX8_passHour, Cond.instanceMethod yX8_passHour, Cond.selects RX8 yX8_passHour yX8_passHour, Cond.code yX8_passHour cX8_passHour 2 (some .int), Cond.methodLink RX8 77 yX8_dryOnLine, Cond.instanceMethod yX8_dryOnLine, Cond.selects RX8 yX8_dryOnLine yX8_dryOnLine, Cond.code yX8_dryOnLine cX8_dryOnLine 3 (some .int), Cond.methodLink RX8 89 yX8_bringHome, Cond.instanceMethod yX8_bringHome, Cond.selects RX8 yX8_bringHome yX8_bringHome, Cond.code yX8_bringHome cX8_bringHome 2 none, Cond.methodLink RX8 80 yX8_runInTubs, Cond.instanceMethod yX8_runInTubs, Cond.selects RX8 yX8_runInTubs yX8_runInTubs, Cond.code yX8_runInTubs cX8_runInTubs 3 none, Cond.fieldLink RX8 93 "FlagWash$Plan" "cloth" "[I", Cond.methodLink RX8 83 yX8_washInTubs, Cond.instanceMethod yX8_washInTubs, Cond.selects RX8 yX8_washInTubs yX8_washInTubs, Cond.code yX8_washInTubs cX8_washInTubs 2 none, Cond.methodLink RX8 86 yX8_hangUp, Cond.instanceMethod yX8_hangUp]
def wsX2_hoursToFight_r4 : List Cond := [Cond.selects RX8 yX8_hangUp yX8_hangUp, Cond.code yX8_hangUp cX8_hangUp 2 none, Cond.methodLink RX8 96 yX8_freePegs, Cond.instanceMethod yX8_freePegs, Cond.selects RX8 yX8_freePegs yX8_freePegs, Cond.code yX8_freePegs cX8_freePegs 1 (some .int), Cond.fieldLink RX8 57 "FlagWash$Plan" "pegs" "I", Cond.methodLink RX8 52 yJ6_bitCount_0f7a4, Cond.methodLink RX8 99 yX8_wetOf, Cond.static yX8_wetOf, Cond.code yX8_wetOf cX8_wetOf 1 (some .int), Cond.fieldLink RX8 102 "FlagWash$Wash" "WET" "[I"]
def wsX2_hoursToFight : List Cond := .code yX2_hoursToFight cX2_hoursToFight 5 (some .int) :: ((wsX2_hoursToFight_r1 ++ (wsX2_hoursToFight_r2 ++ (wsX2_hoursToFight_r3 ++ wsX2_hoursToFight_r4))) ++ wsX80 ++ wsX20 ++ wsX40)
def wsX8_freeTubs : List Cond := .code yX8_freeTubs cX8_freeTubs 1 (some .int) :: ([.fieldLink RX8 28 "FlagWash$Wash" "plan" "LFlagWash$Plan;", .fieldLink RX8 49 "FlagWash$Plan" "tubs" "I", .methodLink RX8 45 yX8_bitsAt, .instanceMethod yX8_bitsAt, .selects RX8 yX8_bitsAt yX8_bitsAt, .initialized RX8, .code yX8_bitsAt cX8_bitsAt 4 (some .int), .fieldLink RX8 42 "FlagWash$Plan" "flags" "I", .fieldLink RX8 9 "FlagWash$Wash" "where" "[I", .methodLink RX8 52 yJ6_bitCount_0f7a4, .static yJ6_bitCount_0f7a4, .initialized RJ6, .code yJ6_bitCount_0f7a4 cJ6_bitCount_0f7a4 1 (some .int), .constant RJ6 265 (1431655765), .constant RJ6 266 (858993459), .constant RJ6 267 (252645135)] ++ wsX80 ++ wsX40)
def wsX9_isWithin : List Cond := .code yX9_isWithin cX9_isWithin 2 (some .boolean) :: ([])
def wsX9_isFewer : List Cond := .code yX9_isFewer cX9_isFewer 2 (some .boolean) :: ([.methodLink RX9 255 yJ6_bitCount_0f7a4, .static yJ6_bitCount_0f7a4, .initialized RJ6, .code yJ6_bitCount_0f7a4 cJ6_bitCount_0f7a4 1 (some .int), .constant RJ6 265 (1431655765), .constant RJ6 266 (858993459), .constant RJ6 267 (252645135)])
def wsX2_bestToSend_r1 : List Cond := [Cond.methodLink RX2 35 yX8_homeBits, Cond.instanceMethod yX8_homeBits, Cond.selects RX8 yX8_homeBits yX8_homeBits, Cond.initialized RX8, Cond.code yX8_homeBits cX8_homeBits 1 (some .int), Cond.methodLink RX8 45 yX8_bitsAt, Cond.instanceMethod yX8_bitsAt, Cond.selects RX8 yX8_bitsAt yX8_bitsAt, Cond.code yX8_bitsAt cX8_bitsAt 4 (some .int), Cond.fieldLink RX8 28 "FlagWash$Wash" "plan" "LFlagWash$Plan;", Cond.fieldLink RX8 42 "FlagWash$Plan" "flags" "I", Cond.fieldLink RX8 9 "FlagWash$Wash" "where" "[I", Cond.methodLink RX2 42 yX8_freeTubs, Cond.instanceMethod yX8_freeTubs, Cond.selects RX8 yX8_freeTubs yX8_freeTubs, Cond.code yX8_freeTubs cX8_freeTubs 1 (some .int), Cond.fieldLink RX8 49 "FlagWash$Plan" "tubs" "I", Cond.methodLink RX8 52 yJ6_bitCount_0f7a4, Cond.static yJ6_bitCount_0f7a4, Cond.initialized RJ6, Cond.code yJ6_bitCount_0f7a4 cJ6_bitCount_0f7a4 1 (some .int), Cond.constant RJ6 265 (1431655765), Cond.constant RJ6 266 (858993459), Cond.constant RJ6 267 (252645135)]
def wsX2_bestToSend_r2 : List Cond := [Cond.static yX9_isWithin, Cond.initialized RX9, Cond.code yX9_isWithin cX9_isWithin 2 (some .boolean), Cond.methodLink RX2 49 yJ6_bitCount_0f7a4, Cond.methodLink RX2 54 yX2_hoursToFight, Cond.instanceMethod yX2_hoursToFight, Cond.selects RX2 yX2_hoursToFight yX2_hoursToFight, Cond.initialized RX2, Cond.code yX2_hoursToFight cX2_hoursToFight 5 (some .int), Cond.fieldLink RX2 15 "FlagWash$Wash" "plan" "LFlagWash$Plan;", Cond.fieldLink RX2 9 "FlagWash$Forecast" "ahead" "LFlagWash$Wash;", Cond.methodLink RX2 21 yX4_hostilePairs, Cond.instanceMethod yX4_hostilePairs, Cond.selects RX4 yX4_hostilePairs yX4_hostilePairs, Cond.initialized RX4, Cond.code yX4_hostilePairs cX4_hostilePairs 4 (some .int), Cond.fieldLink RX4 21 "FlagWash$Plan" "flags" "I", Cond.fieldLink RX4 34 "FlagWash$Plan" "hostile" "[I", Cond.methodLink RX4 55 yJ6_bitCount_0f7a4, Cond.methodLink RX2 27 yX8_copyFrom, Cond.instanceMethod yX8_copyFrom, Cond.selects RX8 yX8_copyFrom yX8_copyFrom, Cond.code yX8_copyFrom cX8_copyFrom 2 none, Cond.methodLink RX8 36 arraycopyName]
def wsX2_bestToSend_r3 : List Cond := [Cond.native arraycopyName, Cond.static arraycopyName, Cond.initialized "java/lang/System", Cond.fieldLink RX8 15 "FlagWash$Wash" "left" "[I", Cond.fieldLink RX8 18 "FlagWash$Wash" "colours" "[I", Cond.fieldLink RX8 21 "FlagWash$Wash" "wind" "I", Cond.fieldLink RX8 25 "FlagWash$Wash" "hour" "I", Cond.methodLink RX2 31 yX8_putInTub, Cond.instanceMethod yX8_putInTub, Cond.selects RX8 yX8_putInTub yX8_putInTub, Cond.code yX8_putInTub cX8_putInTub 2 none, Cond.fieldLink RX8 74 "FlagWash$Plan" "hours" "[I", Cond.methodLink RX8 67 yX4_has, Cond.instanceMethod yX4_has, Cond.selects RX4 yX4_has yX4_has, Cond.code yX4_has cX4_has 2 (some .boolean), Cond.methodLink RX2 39 yX8_passHour, Cond.instanceMethod yX8_passHour, Cond.selects RX8 yX8_passHour yX8_passHour, Cond.code yX8_passHour cX8_passHour 2 (some .int), Cond.methodLink RX8 77 yX8_dryOnLine, Cond.instanceMethod yX8_dryOnLine, Cond.selects RX8 yX8_dryOnLine yX8_dryOnLine, Cond.code yX8_dryOnLine cX8_dryOnLine 3 (some .int)]
def wsX2_bestToSend_r4 : List Cond := [Cond.methodLink RX8 89 yX8_bringHome, Cond.instanceMethod yX8_bringHome, Cond.selects RX8 yX8_bringHome yX8_bringHome, Cond.code yX8_bringHome cX8_bringHome 2 none, Cond.methodLink RX8 80 yX8_runInTubs, Cond.instanceMethod yX8_runInTubs, Cond.selects RX8 yX8_runInTubs yX8_runInTubs, Cond.code yX8_runInTubs cX8_runInTubs 3 none, Cond.fieldLink RX8 93 "FlagWash$Plan" "cloth" "[I", Cond.methodLink RX8 83 yX8_washInTubs, Cond.instanceMethod yX8_washInTubs, Cond.selects RX8 yX8_washInTubs yX8_washInTubs, Cond.code yX8_washInTubs cX8_washInTubs 2 none, Cond.methodLink RX8 86 yX8_hangUp, Cond.instanceMethod yX8_hangUp, Cond.selects RX8 yX8_hangUp yX8_hangUp, Cond.code yX8_hangUp cX8_hangUp 2 none, Cond.methodLink RX8 96 yX8_freePegs, Cond.instanceMethod yX8_freePegs, Cond.selects RX8 yX8_freePegs yX8_freePegs, Cond.code yX8_freePegs cX8_freePegs 1 (some .int), Cond.fieldLink RX8 57 "FlagWash$Plan" "pegs" "I", Cond.methodLink RX8 99 yX8_wetOf, Cond.static yX8_wetOf]
def wsX2_bestToSend_r5 : List Cond := [Cond.code yX8_wetOf cX8_wetOf 1 (some .int), Cond.fieldLink RX8 102 "FlagWash$Wash" "WET" "[I", Cond.static yX9_isFewer, Cond.code yX9_isFewer cX9_isFewer 2 (some .boolean), Cond.methodLink RX9 255 yJ6_bitCount_0f7a4]
def wsX2_bestToSend : List Cond := .code yX2_bestToSend cX2_bestToSend 9 (some .int) :: ((wsX2_bestToSend_r1 ++ (wsX2_bestToSend_r2 ++ (wsX2_bestToSend_r3 ++ (wsX2_bestToSend_r4 ++ wsX2_bestToSend_r5)))) ++ wsX80 ++ wsX40 ++ wsX20)
def wsX4_areHostile : List Cond := .code yX4_areHostile cX4_areHostile 3 (some .boolean) :: ([.fieldLink RX4 34 "FlagWash$Plan" "hostile" "[I", .methodLink RX4 43 yX4_has, .instanceMethod yX4_has, .selects RX4 yX4_has yX4_has, .initialized RX4, .code yX4_has cX4_has 2 (some .boolean), .fieldLink RX4 21 "FlagWash$Plan" "flags" "I"] ++ wsX40)
def wsX3_gain : List Cond := .code yX3_gain cX3_gain 5 (some .int) :: ([.fieldLink RX3 25 "FlagWash$Plan" "hours" "[I", .methodLink RX3 19 yX4_has, .instanceMethod yX4_has, .selects RX4 yX4_has yX4_has, .initialized RX4, .code yX4_has cX4_has 2 (some .boolean), .fieldLink RX4 21 "FlagWash$Plan" "flags" "I", .methodLink RX3 29 yX4_areHostile, .instanceMethod yX4_areHostile, .selects RX4 yX4_areHostile yX4_areHostile, .code yX4_areHostile cX4_areHostile 3 (some .boolean), .fieldLink RX4 34 "FlagWash$Plan" "hostile" "[I", .methodLink RX4 43 yX4_has] ++ wsX40)
def wsX3_isRest : List Cond := .code yX3_isRest cX3_isRest 5 (some .boolean) :: ([.methodLink RX3 15 yX3_gain, .static yX3_gain, .initialized RX3, .code yX3_gain cX3_gain 5 (some .int), .fieldLink RX3 25 "FlagWash$Plan" "hours" "[I", .methodLink RX3 19 yX4_has, .instanceMethod yX4_has, .selects RX4 yX4_has yX4_has, .initialized RX4, .code yX4_has cX4_has 2 (some .boolean), .fieldLink RX4 21 "FlagWash$Plan" "flags" "I", .methodLink RX3 29 yX4_areHostile, .instanceMethod yX4_areHostile, .selects RX4 yX4_areHostile yX4_areHostile, .code yX4_areHostile cX4_areHostile 3 (some .boolean), .fieldLink RX4 34 "FlagWash$Plan" "hostile" "[I", .methodLink RX4 43 yX4_has] ++ wsX40)
def wsX3_howManyRests : List Cond := .code yX3_howManyRests cX3_howManyRests 6 (some .int) :: ([.methodLink RX3 11 yX3_isRest, .static yX3_isRest, .initialized RX3, .code yX3_isRest cX3_isRest 5 (some .boolean), .methodLink RX3 15 yX3_gain, .static yX3_gain, .code yX3_gain cX3_gain 5 (some .int), .fieldLink RX3 25 "FlagWash$Plan" "hours" "[I", .methodLink RX3 19 yX4_has, .instanceMethod yX4_has, .selects RX4 yX4_has yX4_has, .initialized RX4, .code yX4_has cX4_has 2 (some .boolean), .fieldLink RX4 21 "FlagWash$Plan" "flags" "I", .methodLink RX3 29 yX4_areHostile, .instanceMethod yX4_areHostile, .selects RX4 yX4_areHostile yX4_areHostile, .code yX4_areHostile cX4_areHostile 3 (some .boolean), .fieldLink RX4 34 "FlagWash$Plan" "hostile" "[I", .methodLink RX4 43 yX4_has] ++ wsX40)
def wsX3_firstRest : List Cond := .code yX3_firstRest cX3_firstRest 5 (some .int) :: ([.methodLink RX3 11 yX3_isRest, .static yX3_isRest, .initialized RX3, .code yX3_isRest cX3_isRest 5 (some .boolean), .methodLink RX3 15 yX3_gain, .static yX3_gain, .code yX3_gain cX3_gain 5 (some .int), .fieldLink RX3 25 "FlagWash$Plan" "hours" "[I", .methodLink RX3 19 yX4_has, .instanceMethod yX4_has, .selects RX4 yX4_has yX4_has, .initialized RX4, .code yX4_has cX4_has 2 (some .boolean), .fieldLink RX4 21 "FlagWash$Plan" "flags" "I", .methodLink RX3 29 yX4_areHostile, .instanceMethod yX4_areHostile, .selects RX4 yX4_areHostile yX4_areHostile, .code yX4_areHostile cX4_areHostile 3 (some .boolean), .fieldLink RX4 34 "FlagWash$Plan" "hostile" "[I", .methodLink RX4 43 yX4_has] ++ wsX40)
def wsX4_init : List Cond := .code yX4_init cX4_init 1 none :: ([.methodLink RX4 3 objectInit, .instanceMethod objectInit, .code objectInit ⟨#[0xb1]⟩ 1 none, .fieldLink RX4 9 "FlagWash$Plan" "tubs" "I", .fieldLink RX4 15 "FlagWash$Plan" "pegs" "I", .fieldLink RX4 18 "FlagWash$Plan" "wind" "I", .fieldLink RX4 21 "FlagWash$Plan" "flags" "I", .arrayClass .int, .fieldLink RX4 24 "FlagWash$Plan" "colours" "[I", .fieldLink RX4 28 "FlagWash$Plan" "cloth" "[I", .fieldLink RX4 31 "FlagWash$Plan" "hours" "[I", .fieldLink RX4 34 "FlagWash$Plan" "hostile" "[I"] ++ wsX40)
def wsX4_copyFrom : List Cond := .code yX4_copyFrom cX4_copyFrom 2 none :: ([.fieldLink RX4 9 "FlagWash$Plan" "tubs" "I", .fieldLink RX4 15 "FlagWash$Plan" "pegs" "I", .fieldLink RX4 18 "FlagWash$Plan" "wind" "I", .fieldLink RX4 21 "FlagWash$Plan" "flags" "I", .fieldLink RX4 24 "FlagWash$Plan" "colours" "[I", .methodLink RX4 37 arraycopyName, .native arraycopyName, .static arraycopyName, .initialized "java/lang/System", .fieldLink RX4 28 "FlagWash$Plan" "cloth" "[I", .fieldLink RX4 31 "FlagWash$Plan" "hours" "[I", .fieldLink RX4 34 "FlagWash$Plan" "hostile" "[I"] ++ wsX40)
def wsX4_allBits : List Cond := .code yX4_allBits cX4_allBits 1 (some .int) :: ([.fieldLink RX4 21 "FlagWash$Plan" "flags" "I"] ++ wsX40)
def wsX4_addFlag : List Cond := .code yX4_addFlag cX4_addFlag 4 none :: ([.fieldLink RX4 21 "FlagWash$Plan" "flags" "I", .fieldLink RX4 24 "FlagWash$Plan" "colours" "[I", .fieldLink RX4 28 "FlagWash$Plan" "cloth" "[I", .fieldLink RX4 31 "FlagWash$Plan" "hours" "[I", .fieldLink RX4 34 "FlagWash$Plan" "hostile" "[I"] ++ wsX40)
def wsX4_makeHostile : List Cond := .code yX4_makeHostile cX4_makeHostile 3 none :: ([.fieldLink RX4 34 "FlagWash$Plan" "hostile" "[I", .methodLink RX4 43 yX4_has, .instanceMethod yX4_has, .selects RX4 yX4_has yX4_has, .initialized RX4, .code yX4_has cX4_has 2 (some .boolean), .fieldLink RX4 21 "FlagWash$Plan" "flags" "I"] ++ wsX40)
def wsX4_notYetHostile : List Cond := .code yX4_notYetHostile cX4_notYetHostile 2 (some .int) :: ([.fieldLink RX4 34 "FlagWash$Plan" "hostile" "[I", .methodLink RX4 43 yX4_has, .instanceMethod yX4_has, .selects RX4 yX4_has yX4_has, .initialized RX4, .code yX4_has cX4_has 2 (some .boolean), .fieldLink RX4 21 "FlagWash$Plan" "flags" "I", .methodLink RX4 47 yX4_allBits, .instanceMethod yX4_allBits, .selects RX4 yX4_allBits yX4_allBits, .code yX4_allBits cX4_allBits 1 (some .int)] ++ wsX40)
def wsX4_anyNotYetHostile : List Cond := .code yX4_anyNotYetHostile cX4_anyNotYetHostile 2 (some .boolean) :: ([.fieldLink RX4 21 "FlagWash$Plan" "flags" "I", .methodLink RX4 51 yX4_notYetHostile, .instanceMethod yX4_notYetHostile, .selects RX4 yX4_notYetHostile yX4_notYetHostile, .initialized RX4, .code yX4_notYetHostile cX4_notYetHostile 2 (some .int), .fieldLink RX4 34 "FlagWash$Plan" "hostile" "[I", .methodLink RX4 43 yX4_has, .instanceMethod yX4_has, .selects RX4 yX4_has yX4_has, .code yX4_has cX4_has 2 (some .boolean), .methodLink RX4 47 yX4_allBits, .instanceMethod yX4_allBits, .selects RX4 yX4_allBits yX4_allBits, .code yX4_allBits cX4_allBits 1 (some .int)] ++ wsX40)
def wsX5_init : List Cond := .code yX5_init cX5_init 1 none :: ([.methodLink RX5 3 objectInit, .instanceMethod objectInit, .code objectInit ⟨#[0xb1]⟩ 1 none, .classLink RX5 9 RX4, .instantiable RX4 8, .initialized RX4, .fieldLink RX5 12 "FlagWash$Reader" "plan" "LFlagWash$Plan;", .fieldLink RX5 18 "FlagWash$Reader" "stage" "I", .fieldLink RX5 22 "FlagWash$Reader" "colours" "I", .fieldLink RX5 25 "FlagWash$Reader" "cloth" "I", .fieldLink RX5 28 "FlagWash$Reader" "one" "I", .instanceMethod yX4_init, .code yX4_init cX4_init 1 none, .methodLink RX4 3 objectInit, .fieldLink RX4 9 "FlagWash$Plan" "tubs" "I", .fieldLink RX4 15 "FlagWash$Plan" "pegs" "I", .fieldLink RX4 18 "FlagWash$Plan" "wind" "I", .fieldLink RX4 21 "FlagWash$Plan" "flags" "I", .arrayClass .int, .fieldLink RX4 24 "FlagWash$Plan" "colours" "[I", .fieldLink RX4 28 "FlagWash$Plan" "cloth" "[I", .fieldLink RX4 31 "FlagWash$Plan" "hours" "[I", .fieldLink RX4 34 "FlagWash$Plan" "hostile" "[I"] ++ wsX40 ++ wsX50)
def wsX5_goOn : List Cond := .code yX5_goOn cX5_goOn 3 (some .boolean) :: ([.fieldLink RX5 18 "FlagWash$Reader" "stage" "I"] ++ wsX50)
def wsX5_takesPart_r1 : List Cond := [Cond.fieldLink RX5 12 "FlagWash$Reader" "plan" "LFlagWash$Plan;", Cond.fieldLink RX5 31 "FlagWash$Plan" "flags" "I", Cond.methodLink RX5 50 yX5_goOn, Cond.instanceMethod yX5_goOn, Cond.selects RX5 yX5_goOn yX5_goOn, Cond.initialized RX5, Cond.code yX5_goOn cX5_goOn 3 (some .boolean), Cond.fieldLink RX5 18 "FlagWash$Reader" "stage" "I", Cond.methodLink RX5 63 yX4_anyNotYetHostile, Cond.instanceMethod yX4_anyNotYetHostile, Cond.selects RX4 yX4_anyNotYetHostile yX4_anyNotYetHostile, Cond.initialized RX4, Cond.code yX4_anyNotYetHostile cX4_anyNotYetHostile 2 (some .boolean), Cond.fieldLink RX4 21 "FlagWash$Plan" "flags" "I", Cond.methodLink RX4 51 yX4_notYetHostile, Cond.instanceMethod yX4_notYetHostile, Cond.selects RX4 yX4_notYetHostile yX4_notYetHostile, Cond.code yX4_notYetHostile cX4_notYetHostile 2 (some .int), Cond.fieldLink RX4 34 "FlagWash$Plan" "hostile" "[I", Cond.methodLink RX4 43 yX4_has, Cond.instanceMethod yX4_has, Cond.selects RX4 yX4_has yX4_has, Cond.code yX4_has cX4_has 2 (some .boolean), Cond.methodLink RX4 47 yX4_allBits]
def wsX5_takesPart_r2 : List Cond := [Cond.instanceMethod yX4_allBits, Cond.selects RX4 yX4_allBits yX4_allBits, Cond.code yX4_allBits cX4_allBits 1 (some .int)]
def wsX5_takesPart : List Cond := .code yX5_takesPart cX5_takesPart 2 (some .boolean) :: ((wsX5_takesPart_r1 ++ wsX5_takesPart_r2) ++ wsX50 ++ wsX40)
def wsX9_areColours : List Cond := .code yX9_areColours cX9_areColours 1 (some .boolean) :: ([])
def wsX5_takesOfFlag : List Cond := .code yX5_takesOfFlag cX5_takesOfFlag 3 (some .boolean) :: ([.fieldLink RX5 18 "FlagWash$Reader" "stage" "I", .fieldLink RX5 22 "FlagWash$Reader" "colours" "I", .fieldLink RX5 25 "FlagWash$Reader" "cloth" "I", .fieldLink RX5 12 "FlagWash$Reader" "plan" "LFlagWash$Plan;", .static yX9_areColours, .initialized RX9, .code yX9_areColours cX9_areColours 1 (some .boolean), .methodLink RX5 50 yX5_goOn, .instanceMethod yX5_goOn, .selects RX5 yX5_goOn yX5_goOn, .initialized RX5, .code yX5_goOn cX5_goOn 3 (some .boolean), .methodLink RX5 70 yX4_addFlag, .instanceMethod yX4_addFlag, .selects RX4 yX4_addFlag yX4_addFlag, .initialized RX4, .code yX4_addFlag cX4_addFlag 4 none, .fieldLink RX4 21 "FlagWash$Plan" "flags" "I", .fieldLink RX4 24 "FlagWash$Plan" "colours" "[I", .fieldLink RX4 28 "FlagWash$Plan" "cloth" "[I", .fieldLink RX4 31 "FlagWash$Plan" "hours" "[I", .fieldLink RX4 34 "FlagWash$Plan" "hostile" "[I"] ++ wsX50 ++ wsX40)
def wsX5_takesOfHostile_r1 : List Cond := [Cond.fieldLink RX5 18 "FlagWash$Reader" "stage" "I", Cond.fieldLink RX5 28 "FlagWash$Reader" "one" "I", Cond.fieldLink RX5 12 "FlagWash$Reader" "plan" "LFlagWash$Plan;", Cond.methodLink RX5 74 yX4_notYetHostile, Cond.instanceMethod yX4_notYetHostile, Cond.selects RX4 yX4_notYetHostile yX4_notYetHostile, Cond.initialized RX4, Cond.code yX4_notYetHostile cX4_notYetHostile 2 (some .int), Cond.fieldLink RX4 34 "FlagWash$Plan" "hostile" "[I", Cond.methodLink RX4 43 yX4_has, Cond.instanceMethod yX4_has, Cond.selects RX4 yX4_has yX4_has, Cond.code yX4_has cX4_has 2 (some .boolean), Cond.fieldLink RX4 21 "FlagWash$Plan" "flags" "I", Cond.methodLink RX4 47 yX4_allBits, Cond.instanceMethod yX4_allBits, Cond.selects RX4 yX4_allBits yX4_allBits, Cond.code yX4_allBits cX4_allBits 1 (some .int), Cond.methodLink RX5 50 yX5_goOn, Cond.instanceMethod yX5_goOn, Cond.selects RX5 yX5_goOn yX5_goOn, Cond.initialized RX5, Cond.code yX5_goOn cX5_goOn 3 (some .boolean), Cond.methodLink RX5 78 yX4_has]
def wsX5_takesOfHostile_r2 : List Cond := [Cond.methodLink RX5 81 yX4_makeHostile, Cond.instanceMethod yX4_makeHostile, Cond.selects RX4 yX4_makeHostile yX4_makeHostile, Cond.code yX4_makeHostile cX4_makeHostile 3 none]
def wsX5_takesOfHostile : List Cond := .code yX5_takesOfHostile cX5_takesOfHostile 2 (some .boolean) :: ((wsX5_takesOfHostile_r1 ++ wsX5_takesOfHostile_r2) ++ wsX50 ++ wsX40)
def wsX5_takesOfHead : List Cond := .code yX5_takesOfHead cX5_takesOfHead 3 (some .boolean) :: ([.fieldLink RX5 18 "FlagWash$Reader" "stage" "I", .fieldLink RX5 12 "FlagWash$Reader" "plan" "LFlagWash$Plan;", .fieldLink RX5 54 "FlagWash$Plan" "tubs" "I", .fieldLink RX5 57 "FlagWash$Plan" "pegs" "I", .fieldLink RX5 60 "FlagWash$Plan" "wind" "I", .methodLink RX5 50 yX5_goOn, .instanceMethod yX5_goOn, .selects RX5 yX5_goOn yX5_goOn, .initialized RX5, .code yX5_goOn cX5_goOn 3 (some .boolean)] ++ wsX50 ++ wsX40)
def wsX5_takes_r1 : List Cond := [Cond.fieldLink RX5 18 "FlagWash$Reader" "stage" "I", Cond.methodLink RX5 38 yX5_takesPart, Cond.instanceMethod yX5_takesPart, Cond.selects RX5 yX5_takesPart yX5_takesPart, Cond.initialized RX5, Cond.code yX5_takesPart cX5_takesPart 2 (some .boolean), Cond.fieldLink RX5 12 "FlagWash$Reader" "plan" "LFlagWash$Plan;", Cond.fieldLink RX5 31 "FlagWash$Plan" "flags" "I", Cond.methodLink RX5 50 yX5_goOn, Cond.instanceMethod yX5_goOn, Cond.selects RX5 yX5_goOn yX5_goOn, Cond.code yX5_goOn cX5_goOn 3 (some .boolean), Cond.methodLink RX5 63 yX4_anyNotYetHostile, Cond.instanceMethod yX4_anyNotYetHostile, Cond.selects RX4 yX4_anyNotYetHostile yX4_anyNotYetHostile, Cond.initialized RX4, Cond.code yX4_anyNotYetHostile cX4_anyNotYetHostile 2 (some .boolean), Cond.fieldLink RX4 21 "FlagWash$Plan" "flags" "I", Cond.methodLink RX4 51 yX4_notYetHostile, Cond.instanceMethod yX4_notYetHostile, Cond.selects RX4 yX4_notYetHostile yX4_notYetHostile, Cond.code yX4_notYetHostile cX4_notYetHostile 2 (some .int), Cond.fieldLink RX4 34 "FlagWash$Plan" "hostile" "[I", Cond.methodLink RX4 43 yX4_has]
def wsX5_takes_r2 : List Cond := [Cond.instanceMethod yX4_has, Cond.selects RX4 yX4_has yX4_has, Cond.code yX4_has cX4_has 2 (some .boolean), Cond.methodLink RX4 47 yX4_allBits, Cond.instanceMethod yX4_allBits, Cond.selects RX4 yX4_allBits yX4_allBits, Cond.code yX4_allBits cX4_allBits 1 (some .int), Cond.methodLink RX5 41 yX5_takesOfFlag, Cond.instanceMethod yX5_takesOfFlag, Cond.selects RX5 yX5_takesOfFlag yX5_takesOfFlag, Cond.code yX5_takesOfFlag cX5_takesOfFlag 3 (some .boolean), Cond.fieldLink RX5 22 "FlagWash$Reader" "colours" "I", Cond.fieldLink RX5 25 "FlagWash$Reader" "cloth" "I", Cond.static yX9_areColours, Cond.initialized RX9, Cond.code yX9_areColours cX9_areColours 1 (some .boolean), Cond.methodLink RX5 70 yX4_addFlag, Cond.instanceMethod yX4_addFlag, Cond.selects RX4 yX4_addFlag yX4_addFlag, Cond.code yX4_addFlag cX4_addFlag 4 none, Cond.fieldLink RX4 24 "FlagWash$Plan" "colours" "[I", Cond.fieldLink RX4 28 "FlagWash$Plan" "cloth" "[I", Cond.fieldLink RX4 31 "FlagWash$Plan" "hours" "[I", Cond.methodLink RX5 44 yX5_takesOfHostile]
def wsX5_takes_r3 : List Cond := [Cond.instanceMethod yX5_takesOfHostile, Cond.selects RX5 yX5_takesOfHostile yX5_takesOfHostile, Cond.code yX5_takesOfHostile cX5_takesOfHostile 2 (some .boolean), Cond.fieldLink RX5 28 "FlagWash$Reader" "one" "I", Cond.methodLink RX5 74 yX4_notYetHostile, Cond.methodLink RX5 78 yX4_has, Cond.methodLink RX5 81 yX4_makeHostile, Cond.instanceMethod yX4_makeHostile, Cond.selects RX4 yX4_makeHostile yX4_makeHostile, Cond.code yX4_makeHostile cX4_makeHostile 3 none, Cond.methodLink RX5 47 yX5_takesOfHead, Cond.instanceMethod yX5_takesOfHead, Cond.selects RX5 yX5_takesOfHead yX5_takesOfHead, Cond.code yX5_takesOfHead cX5_takesOfHead 3 (some .boolean), Cond.fieldLink RX5 54 "FlagWash$Plan" "tubs" "I", Cond.fieldLink RX5 57 "FlagWash$Plan" "pegs" "I", Cond.fieldLink RX5 60 "FlagWash$Plan" "wind" "I"]
def wsX5_takes : List Cond := .code yX5_takes cX5_takes 2 (some .boolean) :: ((wsX5_takes_r1 ++ (wsX5_takes_r2 ++ wsX5_takes_r3)) ++ wsX50 ++ wsX40)
def wsX5_firstFault_r1 : List Cond := [Cond.fieldLink RX5 12 "FlagWash$Reader" "plan" "LFlagWash$Plan;", Cond.fieldLink RX5 31 "FlagWash$Plan" "flags" "I", Cond.fieldLink RX5 18 "FlagWash$Reader" "stage" "I", Cond.methodLink RX5 34 yX5_takes, Cond.instanceMethod yX5_takes, Cond.selects RX5 yX5_takes yX5_takes, Cond.initialized RX5, Cond.code yX5_takes cX5_takes 2 (some .boolean), Cond.methodLink RX5 38 yX5_takesPart, Cond.instanceMethod yX5_takesPart, Cond.selects RX5 yX5_takesPart yX5_takesPart, Cond.code yX5_takesPart cX5_takesPart 2 (some .boolean), Cond.methodLink RX5 50 yX5_goOn, Cond.instanceMethod yX5_goOn, Cond.selects RX5 yX5_goOn yX5_goOn, Cond.code yX5_goOn cX5_goOn 3 (some .boolean), Cond.methodLink RX5 63 yX4_anyNotYetHostile, Cond.instanceMethod yX4_anyNotYetHostile, Cond.selects RX4 yX4_anyNotYetHostile yX4_anyNotYetHostile, Cond.initialized RX4, Cond.code yX4_anyNotYetHostile cX4_anyNotYetHostile 2 (some .boolean), Cond.fieldLink RX4 21 "FlagWash$Plan" "flags" "I", Cond.methodLink RX4 51 yX4_notYetHostile, Cond.instanceMethod yX4_notYetHostile]
def wsX5_firstFault_r2 : List Cond := [Cond.selects RX4 yX4_notYetHostile yX4_notYetHostile, Cond.code yX4_notYetHostile cX4_notYetHostile 2 (some .int), Cond.fieldLink RX4 34 "FlagWash$Plan" "hostile" "[I", Cond.methodLink RX4 43 yX4_has, Cond.instanceMethod yX4_has, Cond.selects RX4 yX4_has yX4_has, Cond.code yX4_has cX4_has 2 (some .boolean), Cond.methodLink RX4 47 yX4_allBits, Cond.instanceMethod yX4_allBits, Cond.selects RX4 yX4_allBits yX4_allBits, Cond.code yX4_allBits cX4_allBits 1 (some .int), Cond.methodLink RX5 41 yX5_takesOfFlag, Cond.instanceMethod yX5_takesOfFlag, Cond.selects RX5 yX5_takesOfFlag yX5_takesOfFlag, Cond.code yX5_takesOfFlag cX5_takesOfFlag 3 (some .boolean), Cond.fieldLink RX5 22 "FlagWash$Reader" "colours" "I", Cond.fieldLink RX5 25 "FlagWash$Reader" "cloth" "I", Cond.static yX9_areColours, Cond.initialized RX9, Cond.code yX9_areColours cX9_areColours 1 (some .boolean), Cond.methodLink RX5 70 yX4_addFlag, Cond.instanceMethod yX4_addFlag, Cond.selects RX4 yX4_addFlag yX4_addFlag, Cond.code yX4_addFlag cX4_addFlag 4 none]
def wsX5_firstFault_r3 : List Cond := [Cond.fieldLink RX4 24 "FlagWash$Plan" "colours" "[I", Cond.fieldLink RX4 28 "FlagWash$Plan" "cloth" "[I", Cond.fieldLink RX4 31 "FlagWash$Plan" "hours" "[I", Cond.methodLink RX5 44 yX5_takesOfHostile, Cond.instanceMethod yX5_takesOfHostile, Cond.selects RX5 yX5_takesOfHostile yX5_takesOfHostile, Cond.code yX5_takesOfHostile cX5_takesOfHostile 2 (some .boolean), Cond.fieldLink RX5 28 "FlagWash$Reader" "one" "I", Cond.methodLink RX5 74 yX4_notYetHostile, Cond.methodLink RX5 78 yX4_has, Cond.methodLink RX5 81 yX4_makeHostile, Cond.instanceMethod yX4_makeHostile, Cond.selects RX4 yX4_makeHostile yX4_makeHostile, Cond.code yX4_makeHostile cX4_makeHostile 3 none, Cond.methodLink RX5 47 yX5_takesOfHead, Cond.instanceMethod yX5_takesOfHead, Cond.selects RX5 yX5_takesOfHead yX5_takesOfHead, Cond.code yX5_takesOfHead cX5_takesOfHead 3 (some .boolean), Cond.fieldLink RX5 54 "FlagWash$Plan" "tubs" "I", Cond.fieldLink RX5 57 "FlagWash$Plan" "pegs" "I", Cond.fieldLink RX5 60 "FlagWash$Plan" "wind" "I"]
def wsX5_firstFault : List Cond := .code yX5_firstFault cX5_firstFault 4 (some .int) :: ((wsX5_firstFault_r1 ++ (wsX5_firstFault_r2 ++ wsX5_firstFault_r3)) ++ wsX50 ++ wsX40)
def wsX6_orders : List Cond := .code yX6_orders cX6_orders 1 (some .int) :: ([.fieldLink RX6 9 "FlagWash$Shares" "ORDERS" "[I"])
def wsX6_inPeace : List Cond := .code yX6_inPeace cX6_inPeace 5 (some .int) :: ([.fieldLink RX6 38 "FlagWash$Plan" "flags" "I", .fieldLink RX6 42 "FlagWash$Plan" "hostile" "[I", .static yX9_isWithin, .initialized RX9, .code yX9_isWithin cX9_isWithin 2 (some .boolean)] ++ wsX40)
def wsX6_gainInAllOrders_r1 : List Cond := [Cond.fieldLink RX6 38 "FlagWash$Plan" "flags" "I", Cond.methodLink RX6 15 yX4_allBits, Cond.instanceMethod yX4_allBits, Cond.selects RX4 yX4_allBits yX4_allBits, Cond.initialized RX4, Cond.code yX4_allBits cX4_allBits 1 (some .int), Cond.fieldLink RX4 21 "FlagWash$Plan" "flags" "I", Cond.static yX9_isWithin, Cond.initialized RX9, Cond.code yX9_isWithin cX9_isWithin 2 (some .boolean), Cond.methodLink RX6 25 yJ6_bitCount_0f7a4, Cond.static yJ6_bitCount_0f7a4, Cond.initialized RJ6, Cond.code yJ6_bitCount_0f7a4 cJ6_bitCount_0f7a4 1 (some .int), Cond.constant RJ6 265 (1431655765), Cond.constant RJ6 266 (858993459), Cond.constant RJ6 267 (252645135), Cond.methodLink RX6 31 yX6_inPeace, Cond.static yX6_inPeace, Cond.initialized RX6, Cond.code yX6_inPeace cX6_inPeace 5 (some .int), Cond.fieldLink RX6 42 "FlagWash$Plan" "hostile" "[I", Cond.methodLink RX6 35 yX6_orders, Cond.static yX6_orders]
def wsX6_gainInAllOrders_r2 : List Cond := [Cond.code yX6_orders cX6_orders 1 (some .int), Cond.fieldLink RX6 9 "FlagWash$Shares" "ORDERS" "[I"]
def wsX6_gainInAllOrders : List Cond := .code yX6_gainInAllOrders cX6_gainInAllOrders 6 (some .int) :: ((wsX6_gainInAllOrders_r1 ++ wsX6_gainInAllOrders_r2) ++ wsX40)
def wsX7_init : List Cond := .code yX7_init cX7_init 1 none :: ([.methodLink RX7 3 objectInit, .instanceMethod objectInit, .code objectInit ⟨#[0xb1]⟩ 1 none, .arrayClass .int, .fieldLink RX7 9 "FlagWash$Sightings" "flag" "[I", .fieldLink RX7 15 "FlagWash$Sightings" "colours" "[I", .fieldLink RX7 18 "FlagWash$Sightings" "with" "[I", .fieldLink RX7 21 "FlagWash$Sightings" "size" "I"] ++ wsX70)
def wsX7_forgetAll : List Cond := .code yX7_forgetAll cX7_forgetAll 1 none :: ([.fieldLink RX7 21 "FlagWash$Sightings" "size" "I"] ++ wsX70)
def wsX7_add : List Cond := .code yX7_add cX7_add 4 (some .boolean) :: ([.fieldLink RX7 21 "FlagWash$Sightings" "size" "I", .fieldLink RX7 9 "FlagWash$Sightings" "flag" "[I", .fieldLink RX7 15 "FlagWash$Sightings" "colours" "[I", .fieldLink RX7 18 "FlagWash$Sightings" "with" "[I"] ++ wsX70)
def wsX8_coloursOf : List Cond := .code yX8_coloursOf cX8_coloursOf 4 (some .int) :: ([.fieldLink RX8 28 "FlagWash$Wash" "plan" "LFlagWash$Plan;", .fieldLink RX8 42 "FlagWash$Plan" "flags" "I", .fieldLink RX8 18 "FlagWash$Wash" "colours" "[I"] ++ wsX80 ++ wsX40)
def wsX7_fitsAll : List Cond := .code yX7_fitsAll cX7_fitsAll 6 (some .boolean) :: ([.fieldLink RX7 21 "FlagWash$Sightings" "size" "I", .fieldLink RX7 9 "FlagWash$Sightings" "flag" "[I", .fieldLink RX7 18 "FlagWash$Sightings" "with" "[I", .fieldLink RX7 29 "FlagWash$Wash" "plan" "LFlagWash$Plan;", .fieldLink RX7 15 "FlagWash$Sightings" "colours" "[I", .methodLink RX7 35 yX4_allBits, .instanceMethod yX4_allBits, .selects RX4 yX4_allBits yX4_allBits, .initialized RX4, .code yX4_allBits cX4_allBits 1 (some .int), .fieldLink RX4 21 "FlagWash$Plan" "flags" "I", .static yX9_isWithin, .initialized RX9, .code yX9_isWithin cX9_isWithin 2 (some .boolean), .methodLink RX7 45 yX8_coloursOf, .instanceMethod yX8_coloursOf, .selects RX8 yX8_coloursOf yX8_coloursOf, .initialized RX8, .code yX8_coloursOf cX8_coloursOf 4 (some .int), .fieldLink RX8 28 "FlagWash$Wash" "plan" "LFlagWash$Plan;", .fieldLink RX8 42 "FlagWash$Plan" "flags" "I", .fieldLink RX8 18 "FlagWash$Wash" "colours" "[I"] ++ wsX70 ++ wsX80 ++ wsX40)
def wsX7_howManySets_r1 : List Cond := [Cond.methodLink RX7 25 yX7_fitsAll, Cond.instanceMethod yX7_fitsAll, Cond.selects RX7 yX7_fitsAll yX7_fitsAll, Cond.initialized RX7, Cond.code yX7_fitsAll cX7_fitsAll 6 (some .boolean), Cond.fieldLink RX7 21 "FlagWash$Sightings" "size" "I", Cond.fieldLink RX7 9 "FlagWash$Sightings" "flag" "[I", Cond.fieldLink RX7 18 "FlagWash$Sightings" "with" "[I", Cond.fieldLink RX7 29 "FlagWash$Wash" "plan" "LFlagWash$Plan;", Cond.fieldLink RX7 15 "FlagWash$Sightings" "colours" "[I", Cond.methodLink RX7 35 yX4_allBits, Cond.instanceMethod yX4_allBits, Cond.selects RX4 yX4_allBits yX4_allBits, Cond.initialized RX4, Cond.code yX4_allBits cX4_allBits 1 (some .int), Cond.fieldLink RX4 21 "FlagWash$Plan" "flags" "I", Cond.static yX9_isWithin, Cond.initialized RX9, Cond.code yX9_isWithin cX9_isWithin 2 (some .boolean), Cond.methodLink RX7 45 yX8_coloursOf, Cond.instanceMethod yX8_coloursOf, Cond.selects RX8 yX8_coloursOf yX8_coloursOf, Cond.initialized RX8, Cond.code yX8_coloursOf cX8_coloursOf 4 (some .int)]
def wsX7_howManySets_r2 : List Cond := [Cond.fieldLink RX8 28 "FlagWash$Wash" "plan" "LFlagWash$Plan;", Cond.fieldLink RX8 42 "FlagWash$Plan" "flags" "I", Cond.fieldLink RX8 18 "FlagWash$Wash" "colours" "[I"]
def wsX7_howManySets : List Cond := .code yX7_howManySets cX7_howManySets 5 (some .int) :: ((wsX7_howManySets_r1 ++ wsX7_howManySets_r2) ++ wsX70 ++ wsX80 ++ wsX40)
def wsX7_coloursInAll_r1 : List Cond := [Cond.methodLink RX7 25 yX7_fitsAll, Cond.instanceMethod yX7_fitsAll, Cond.selects RX7 yX7_fitsAll yX7_fitsAll, Cond.initialized RX7, Cond.code yX7_fitsAll cX7_fitsAll 6 (some .boolean), Cond.fieldLink RX7 21 "FlagWash$Sightings" "size" "I", Cond.fieldLink RX7 9 "FlagWash$Sightings" "flag" "[I", Cond.fieldLink RX7 18 "FlagWash$Sightings" "with" "[I", Cond.fieldLink RX7 29 "FlagWash$Wash" "plan" "LFlagWash$Plan;", Cond.fieldLink RX7 15 "FlagWash$Sightings" "colours" "[I", Cond.methodLink RX7 35 yX4_allBits, Cond.instanceMethod yX4_allBits, Cond.selects RX4 yX4_allBits yX4_allBits, Cond.initialized RX4, Cond.code yX4_allBits cX4_allBits 1 (some .int), Cond.fieldLink RX4 21 "FlagWash$Plan" "flags" "I", Cond.static yX9_isWithin, Cond.initialized RX9, Cond.code yX9_isWithin cX9_isWithin 2 (some .boolean), Cond.methodLink RX7 45 yX8_coloursOf, Cond.instanceMethod yX8_coloursOf, Cond.selects RX8 yX8_coloursOf yX8_coloursOf, Cond.initialized RX8, Cond.code yX8_coloursOf cX8_coloursOf 4 (some .int)]
def wsX7_coloursInAll_r2 : List Cond := [Cond.fieldLink RX8 28 "FlagWash$Wash" "plan" "LFlagWash$Plan;", Cond.fieldLink RX8 42 "FlagWash$Plan" "flags" "I", Cond.fieldLink RX8 18 "FlagWash$Wash" "colours" "[I"]
def wsX7_coloursInAll : List Cond := .code yX7_coloursInAll cX7_coloursInAll 5 (some .int) :: ((wsX7_coloursInAll_r1 ++ wsX7_coloursInAll_r2) ++ wsX70 ++ wsX80 ++ wsX40)
def wsX7_coloursInNone_r1 : List Cond := [Cond.methodLink RX7 25 yX7_fitsAll, Cond.instanceMethod yX7_fitsAll, Cond.selects RX7 yX7_fitsAll yX7_fitsAll, Cond.initialized RX7, Cond.code yX7_fitsAll cX7_fitsAll 6 (some .boolean), Cond.fieldLink RX7 21 "FlagWash$Sightings" "size" "I", Cond.fieldLink RX7 9 "FlagWash$Sightings" "flag" "[I", Cond.fieldLink RX7 18 "FlagWash$Sightings" "with" "[I", Cond.fieldLink RX7 29 "FlagWash$Wash" "plan" "LFlagWash$Plan;", Cond.fieldLink RX7 15 "FlagWash$Sightings" "colours" "[I", Cond.methodLink RX7 35 yX4_allBits, Cond.instanceMethod yX4_allBits, Cond.selects RX4 yX4_allBits yX4_allBits, Cond.initialized RX4, Cond.code yX4_allBits cX4_allBits 1 (some .int), Cond.fieldLink RX4 21 "FlagWash$Plan" "flags" "I", Cond.static yX9_isWithin, Cond.initialized RX9, Cond.code yX9_isWithin cX9_isWithin 2 (some .boolean), Cond.methodLink RX7 45 yX8_coloursOf, Cond.instanceMethod yX8_coloursOf, Cond.selects RX8 yX8_coloursOf yX8_coloursOf, Cond.initialized RX8, Cond.code yX8_coloursOf cX8_coloursOf 4 (some .int)]
def wsX7_coloursInNone_r2 : List Cond := [Cond.fieldLink RX8 28 "FlagWash$Wash" "plan" "LFlagWash$Plan;", Cond.fieldLink RX8 42 "FlagWash$Plan" "flags" "I", Cond.fieldLink RX8 18 "FlagWash$Wash" "colours" "[I"]
def wsX7_coloursInNone : List Cond := .code yX7_coloursInNone cX7_coloursInNone 5 (some .int) :: ((wsX7_coloursInNone_r1 ++ wsX7_coloursInNone_r2) ++ wsX70 ++ wsX80 ++ wsX40)
def wsX8_startAnew : List Cond := .code yX8_startAnew cX8_startAnew 2 none :: ([.fieldLink RX8 9 "FlagWash$Wash" "where" "[I", .fieldLink RX8 15 "FlagWash$Wash" "left" "[I", .fieldLink RX8 18 "FlagWash$Wash" "colours" "[I", .fieldLink RX8 28 "FlagWash$Wash" "plan" "LFlagWash$Plan;", .fieldLink RX8 32 "FlagWash$Plan" "colours" "[I", .fieldLink RX8 35 "FlagWash$Plan" "wind" "I", .fieldLink RX8 21 "FlagWash$Wash" "wind" "I", .fieldLink RX8 25 "FlagWash$Wash" "hour" "I"] ++ wsX80 ++ wsX40)
def wsX8_pairsThatMayFight_r1 : List Cond := [Cond.fieldLink RX8 28 "FlagWash$Wash" "plan" "LFlagWash$Plan;", Cond.methodLink RX8 60 yX8_homeBits, Cond.instanceMethod yX8_homeBits, Cond.selects RX8 yX8_homeBits yX8_homeBits, Cond.initialized RX8, Cond.code yX8_homeBits cX8_homeBits 1 (some .int), Cond.methodLink RX8 45 yX8_bitsAt, Cond.instanceMethod yX8_bitsAt, Cond.selects RX8 yX8_bitsAt yX8_bitsAt, Cond.code yX8_bitsAt cX8_bitsAt 4 (some .int), Cond.fieldLink RX8 42 "FlagWash$Plan" "flags" "I", Cond.fieldLink RX8 9 "FlagWash$Wash" "where" "[I", Cond.methodLink RX8 64 yX4_hostilePairs, Cond.instanceMethod yX4_hostilePairs, Cond.selects RX4 yX4_hostilePairs yX4_hostilePairs, Cond.initialized RX4, Cond.code yX4_hostilePairs cX4_hostilePairs 4 (some .int), Cond.fieldLink RX4 21 "FlagWash$Plan" "flags" "I", Cond.fieldLink RX4 34 "FlagWash$Plan" "hostile" "[I", Cond.methodLink RX4 55 yJ6_bitCount_0f7a4, Cond.static yJ6_bitCount_0f7a4, Cond.initialized RJ6, Cond.code yJ6_bitCount_0f7a4 cJ6_bitCount_0f7a4 1 (some .int), Cond.constant RJ6 265 (1431655765)]
def wsX8_pairsThatMayFight_r2 : List Cond := [Cond.constant RJ6 266 (858993459), Cond.constant RJ6 267 (252645135)]
def wsX8_pairsThatMayFight : List Cond := .code yX8_pairsThatMayFight cX8_pairsThatMayFight 1 (some .int) :: ((wsX8_pairsThatMayFight_r1 ++ wsX8_pairsThatMayFight_r2) ++ wsX80 ++ wsX40)
def wsX8_canBeSent_r1 : List Cond := [Cond.fieldLink RX8 28 "FlagWash$Wash" "plan" "LFlagWash$Plan;", Cond.fieldLink RX8 9 "FlagWash$Wash" "where" "[I", Cond.methodLink RX8 67 yX4_has, Cond.instanceMethod yX4_has, Cond.selects RX4 yX4_has yX4_has, Cond.initialized RX4, Cond.code yX4_has cX4_has 2 (some .boolean), Cond.fieldLink RX4 21 "FlagWash$Plan" "flags" "I", Cond.methodLink RX8 71 yX8_freeTubs, Cond.instanceMethod yX8_freeTubs, Cond.selects RX8 yX8_freeTubs yX8_freeTubs, Cond.initialized RX8, Cond.code yX8_freeTubs cX8_freeTubs 1 (some .int), Cond.fieldLink RX8 49 "FlagWash$Plan" "tubs" "I", Cond.methodLink RX8 45 yX8_bitsAt, Cond.instanceMethod yX8_bitsAt, Cond.selects RX8 yX8_bitsAt yX8_bitsAt, Cond.code yX8_bitsAt cX8_bitsAt 4 (some .int), Cond.fieldLink RX8 42 "FlagWash$Plan" "flags" "I", Cond.methodLink RX8 52 yJ6_bitCount_0f7a4, Cond.static yJ6_bitCount_0f7a4, Cond.initialized RJ6, Cond.code yJ6_bitCount_0f7a4 cJ6_bitCount_0f7a4 1 (some .int), Cond.constant RJ6 265 (1431655765)]
def wsX8_canBeSent_r2 : List Cond := [Cond.constant RJ6 266 (858993459), Cond.constant RJ6 267 (252645135)]
def wsX8_canBeSent : List Cond := .code yX8_canBeSent cX8_canBeSent 2 (some .boolean) :: ((wsX8_canBeSent_r1 ++ wsX8_canBeSent_r2) ++ wsX80 ++ wsX40)
def wsX8_canBePulled : List Cond := .code yX8_canBePulled cX8_canBePulled 2 (some .boolean) :: ([.fieldLink RX8 28 "FlagWash$Wash" "plan" "LFlagWash$Plan;", .fieldLink RX8 9 "FlagWash$Wash" "where" "[I", .methodLink RX8 67 yX4_has, .instanceMethod yX4_has, .selects RX4 yX4_has yX4_has, .initialized RX4, .code yX4_has cX4_has 2 (some .boolean), .fieldLink RX4 21 "FlagWash$Plan" "flags" "I"] ++ wsX80 ++ wsX40)
def wsX8_sendIfItCan_r1 : List Cond := [Cond.methodLink RX8 114 yX8_canBeSent, Cond.instanceMethod yX8_canBeSent, Cond.selects RX8 yX8_canBeSent yX8_canBeSent, Cond.initialized RX8, Cond.code yX8_canBeSent cX8_canBeSent 2 (some .boolean), Cond.fieldLink RX8 28 "FlagWash$Wash" "plan" "LFlagWash$Plan;", Cond.fieldLink RX8 9 "FlagWash$Wash" "where" "[I", Cond.methodLink RX8 67 yX4_has, Cond.instanceMethod yX4_has, Cond.selects RX4 yX4_has yX4_has, Cond.initialized RX4, Cond.code yX4_has cX4_has 2 (some .boolean), Cond.fieldLink RX4 21 "FlagWash$Plan" "flags" "I", Cond.methodLink RX8 71 yX8_freeTubs, Cond.instanceMethod yX8_freeTubs, Cond.selects RX8 yX8_freeTubs yX8_freeTubs, Cond.code yX8_freeTubs cX8_freeTubs 1 (some .int), Cond.fieldLink RX8 49 "FlagWash$Plan" "tubs" "I", Cond.methodLink RX8 45 yX8_bitsAt, Cond.instanceMethod yX8_bitsAt, Cond.selects RX8 yX8_bitsAt yX8_bitsAt, Cond.code yX8_bitsAt cX8_bitsAt 4 (some .int), Cond.fieldLink RX8 42 "FlagWash$Plan" "flags" "I", Cond.methodLink RX8 52 yJ6_bitCount_0f7a4]
def wsX8_sendIfItCan_r2 : List Cond := [Cond.static yJ6_bitCount_0f7a4, Cond.initialized RJ6, Cond.code yJ6_bitCount_0f7a4 cJ6_bitCount_0f7a4 1 (some .int), Cond.constant RJ6 265 (1431655765), Cond.constant RJ6 266 (858993459), Cond.constant RJ6 267 (252645135), Cond.methodLink RX8 117 yX8_putInTub, Cond.instanceMethod yX8_putInTub, Cond.selects RX8 yX8_putInTub yX8_putInTub, Cond.code yX8_putInTub cX8_putInTub 2 none, Cond.fieldLink RX8 15 "FlagWash$Wash" "left" "[I", Cond.fieldLink RX8 74 "FlagWash$Plan" "hours" "[I"]
def wsX8_sendIfItCan : List Cond := .code yX8_sendIfItCan cX8_sendIfItCan 3 (some .boolean) :: ((wsX8_sendIfItCan_r1 ++ wsX8_sendIfItCan_r2) ++ wsX80 ++ wsX40)
def wsX8_doFigure_r1 : List Cond := [Cond.methodLink RX8 105 yX8_passHour, Cond.instanceMethod yX8_passHour, Cond.selects RX8 yX8_passHour yX8_passHour, Cond.initialized RX8, Cond.code yX8_passHour cX8_passHour 2 (some .int), Cond.fieldLink RX8 25 "FlagWash$Wash" "hour" "I", Cond.methodLink RX8 77 yX8_dryOnLine, Cond.instanceMethod yX8_dryOnLine, Cond.selects RX8 yX8_dryOnLine yX8_dryOnLine, Cond.code yX8_dryOnLine cX8_dryOnLine 3 (some .int), Cond.fieldLink RX8 28 "FlagWash$Wash" "plan" "LFlagWash$Plan;", Cond.fieldLink RX8 42 "FlagWash$Plan" "flags" "I", Cond.fieldLink RX8 9 "FlagWash$Wash" "where" "[I", Cond.fieldLink RX8 15 "FlagWash$Wash" "left" "[I", Cond.fieldLink RX8 21 "FlagWash$Wash" "wind" "I", Cond.methodLink RX8 89 yX8_bringHome, Cond.instanceMethod yX8_bringHome, Cond.selects RX8 yX8_bringHome yX8_bringHome, Cond.code yX8_bringHome cX8_bringHome 2 none, Cond.methodLink RX8 67 yX4_has, Cond.instanceMethod yX4_has, Cond.selects RX4 yX4_has yX4_has, Cond.initialized RX4, Cond.code yX4_has cX4_has 2 (some .boolean)]
def wsX8_doFigure_r2 : List Cond := [Cond.fieldLink RX4 21 "FlagWash$Plan" "flags" "I", Cond.methodLink RX8 80 yX8_runInTubs, Cond.instanceMethod yX8_runInTubs, Cond.selects RX8 yX8_runInTubs yX8_runInTubs, Cond.code yX8_runInTubs cX8_runInTubs 3 none, Cond.fieldLink RX8 93 "FlagWash$Plan" "cloth" "[I", Cond.fieldLink RX8 18 "FlagWash$Wash" "colours" "[I", Cond.methodLink RX8 83 yX8_washInTubs, Cond.instanceMethod yX8_washInTubs, Cond.selects RX8 yX8_washInTubs yX8_washInTubs, Cond.code yX8_washInTubs cX8_washInTubs 2 none, Cond.methodLink RX8 86 yX8_hangUp, Cond.instanceMethod yX8_hangUp, Cond.selects RX8 yX8_hangUp yX8_hangUp, Cond.code yX8_hangUp cX8_hangUp 2 none, Cond.methodLink RX8 96 yX8_freePegs, Cond.instanceMethod yX8_freePegs, Cond.selects RX8 yX8_freePegs yX8_freePegs, Cond.code yX8_freePegs cX8_freePegs 1 (some .int), Cond.fieldLink RX8 57 "FlagWash$Plan" "pegs" "I", Cond.methodLink RX8 45 yX8_bitsAt, Cond.instanceMethod yX8_bitsAt, Cond.selects RX8 yX8_bitsAt yX8_bitsAt, Cond.code yX8_bitsAt cX8_bitsAt 4 (some .int)]
def wsX8_doFigure_r3 : List Cond := [Cond.methodLink RX8 52 yJ6_bitCount_0f7a4, Cond.static yJ6_bitCount_0f7a4, Cond.initialized RJ6, Cond.code yJ6_bitCount_0f7a4 cJ6_bitCount_0f7a4 1 (some .int), Cond.constant RJ6 265 (1431655765), Cond.constant RJ6 266 (858993459), Cond.constant RJ6 267 (252645135), Cond.methodLink RX8 99 yX8_wetOf, Cond.static yX8_wetOf, Cond.code yX8_wetOf cX8_wetOf 1 (some .int), Cond.fieldLink RX8 102 "FlagWash$Wash" "WET" "[I", Cond.methodLink RX8 108 yX8_sendIfItCan, Cond.instanceMethod yX8_sendIfItCan, Cond.selects RX8 yX8_sendIfItCan yX8_sendIfItCan, Cond.code yX8_sendIfItCan cX8_sendIfItCan 3 (some .boolean), Cond.methodLink RX8 114 yX8_canBeSent, Cond.instanceMethod yX8_canBeSent, Cond.selects RX8 yX8_canBeSent yX8_canBeSent, Cond.code yX8_canBeSent cX8_canBeSent 2 (some .boolean), Cond.methodLink RX8 71 yX8_freeTubs, Cond.instanceMethod yX8_freeTubs, Cond.selects RX8 yX8_freeTubs yX8_freeTubs, Cond.code yX8_freeTubs cX8_freeTubs 1 (some .int), Cond.fieldLink RX8 49 "FlagWash$Plan" "tubs" "I"]
def wsX8_doFigure_r4 : List Cond := [Cond.methodLink RX8 117 yX8_putInTub, Cond.instanceMethod yX8_putInTub, Cond.selects RX8 yX8_putInTub yX8_putInTub, Cond.code yX8_putInTub cX8_putInTub 2 none, Cond.fieldLink RX8 74 "FlagWash$Plan" "hours" "[I", Cond.methodLink RX8 111 yX8_canBePulled, Cond.instanceMethod yX8_canBePulled, Cond.selects RX8 yX8_canBePulled yX8_canBePulled, Cond.code yX8_canBePulled cX8_canBePulled 2 (some .boolean)]
def wsX8_doFigure : List Cond := .code yX8_doFigure cX8_doFigure 3 (some .boolean) :: ((wsX8_doFigure_r1 ++ (wsX8_doFigure_r2 ++ (wsX8_doFigure_r3 ++ wsX8_doFigure_r4))) ++ wsX80 ++ wsX40)
def wsX8_doByChance_r1 : List Cond := [Cond.fieldLink RX8 21 "FlagWash$Wash" "wind" "I", Cond.methodLink RX8 108 yX8_sendIfItCan, Cond.instanceMethod yX8_sendIfItCan, Cond.selects RX8 yX8_sendIfItCan yX8_sendIfItCan, Cond.initialized RX8, Cond.code yX8_sendIfItCan cX8_sendIfItCan 3 (some .boolean), Cond.methodLink RX8 114 yX8_canBeSent, Cond.instanceMethod yX8_canBeSent, Cond.selects RX8 yX8_canBeSent yX8_canBeSent, Cond.code yX8_canBeSent cX8_canBeSent 2 (some .boolean), Cond.fieldLink RX8 28 "FlagWash$Wash" "plan" "LFlagWash$Plan;", Cond.fieldLink RX8 9 "FlagWash$Wash" "where" "[I", Cond.methodLink RX8 67 yX4_has, Cond.instanceMethod yX4_has, Cond.selects RX4 yX4_has yX4_has, Cond.initialized RX4, Cond.code yX4_has cX4_has 2 (some .boolean), Cond.fieldLink RX4 21 "FlagWash$Plan" "flags" "I", Cond.methodLink RX8 71 yX8_freeTubs, Cond.instanceMethod yX8_freeTubs, Cond.selects RX8 yX8_freeTubs yX8_freeTubs, Cond.code yX8_freeTubs cX8_freeTubs 1 (some .int), Cond.fieldLink RX8 49 "FlagWash$Plan" "tubs" "I", Cond.methodLink RX8 45 yX8_bitsAt]
def wsX8_doByChance_r2 : List Cond := [Cond.instanceMethod yX8_bitsAt, Cond.selects RX8 yX8_bitsAt yX8_bitsAt, Cond.code yX8_bitsAt cX8_bitsAt 4 (some .int), Cond.fieldLink RX8 42 "FlagWash$Plan" "flags" "I", Cond.methodLink RX8 52 yJ6_bitCount_0f7a4, Cond.static yJ6_bitCount_0f7a4, Cond.initialized RJ6, Cond.code yJ6_bitCount_0f7a4 cJ6_bitCount_0f7a4 1 (some .int), Cond.constant RJ6 265 (1431655765), Cond.constant RJ6 266 (858993459), Cond.constant RJ6 267 (252645135), Cond.methodLink RX8 117 yX8_putInTub, Cond.instanceMethod yX8_putInTub, Cond.selects RX8 yX8_putInTub yX8_putInTub, Cond.code yX8_putInTub cX8_putInTub 2 none, Cond.fieldLink RX8 15 "FlagWash$Wash" "left" "[I", Cond.fieldLink RX8 74 "FlagWash$Plan" "hours" "[I", Cond.methodLink RX8 105 yX8_passHour, Cond.instanceMethod yX8_passHour, Cond.selects RX8 yX8_passHour yX8_passHour, Cond.code yX8_passHour cX8_passHour 2 (some .int), Cond.fieldLink RX8 25 "FlagWash$Wash" "hour" "I", Cond.methodLink RX8 77 yX8_dryOnLine, Cond.instanceMethod yX8_dryOnLine]
def wsX8_doByChance_r3 : List Cond := [Cond.selects RX8 yX8_dryOnLine yX8_dryOnLine, Cond.code yX8_dryOnLine cX8_dryOnLine 3 (some .int), Cond.methodLink RX8 89 yX8_bringHome, Cond.instanceMethod yX8_bringHome, Cond.selects RX8 yX8_bringHome yX8_bringHome, Cond.code yX8_bringHome cX8_bringHome 2 none, Cond.methodLink RX8 80 yX8_runInTubs, Cond.instanceMethod yX8_runInTubs, Cond.selects RX8 yX8_runInTubs yX8_runInTubs, Cond.code yX8_runInTubs cX8_runInTubs 3 none, Cond.fieldLink RX8 93 "FlagWash$Plan" "cloth" "[I", Cond.fieldLink RX8 18 "FlagWash$Wash" "colours" "[I", Cond.methodLink RX8 83 yX8_washInTubs, Cond.instanceMethod yX8_washInTubs, Cond.selects RX8 yX8_washInTubs yX8_washInTubs, Cond.code yX8_washInTubs cX8_washInTubs 2 none, Cond.methodLink RX8 86 yX8_hangUp, Cond.instanceMethod yX8_hangUp, Cond.selects RX8 yX8_hangUp yX8_hangUp, Cond.code yX8_hangUp cX8_hangUp 2 none, Cond.methodLink RX8 96 yX8_freePegs, Cond.instanceMethod yX8_freePegs, Cond.selects RX8 yX8_freePegs yX8_freePegs, Cond.code yX8_freePegs cX8_freePegs 1 (some .int)]
def wsX8_doByChance_r4 : List Cond := [Cond.fieldLink RX8 57 "FlagWash$Plan" "pegs" "I", Cond.methodLink RX8 99 yX8_wetOf, Cond.static yX8_wetOf, Cond.code yX8_wetOf cX8_wetOf 1 (some .int), Cond.fieldLink RX8 102 "FlagWash$Wash" "WET" "[I"]
def wsX8_doByChance : List Cond := .code yX8_doByChance cX8_doByChance 2 none :: ((wsX8_doByChance_r1 ++ (wsX8_doByChance_r2 ++ (wsX8_doByChance_r3 ++ wsX8_doByChance_r4))) ++ wsX80 ++ wsX40)
def wsX9_init_r1 : List Cond := [Cond.methodLink RX9 1 objectInit, Cond.instanceMethod objectInit, Cond.code objectInit ⟨#[0xb1]⟩ 1 none, Cond.arrayClass .int, Cond.fieldLink RX9 9 "FlagWash" "letters" "[I", Cond.fieldLink RX9 13 "FlagWash" "length" "I", Cond.classLink RX9 17 RX5, Cond.instantiable RX5 5, Cond.initialized RX5, Cond.fieldLink RX9 20 "FlagWash" "reader" "LFlagWash$Reader;", Cond.classLink RX9 24 RX4, Cond.instantiable RX4 8, Cond.initialized RX4, Cond.fieldLink RX9 27 "FlagWash" "plan" "LFlagWash$Plan;", Cond.classLink RX9 31 RX8, Cond.instantiable RX8 6, Cond.initialized RX8, Cond.fieldLink RX9 36 "FlagWash" "now" "LFlagWash$Wash;", Cond.fieldLink RX9 40 "FlagWash" "trial" "LFlagWash$Wash;", Cond.classLink RX9 43 RX2, Cond.instantiable RX2 1, Cond.initialized RX2, Cond.fieldLink RX9 48 "FlagWash" "forecast" "LFlagWash$Forecast;", Cond.classLink RX9 52 RX0]
def wsX9_init_r2 : List Cond := [Cond.instantiable RX0 3, Cond.initialized RX0, Cond.fieldLink RX9 55 "FlagWash" "acts" "LFlagWash$Acts;", Cond.classLink RX9 59 RX7, Cond.instantiable RX7 4, Cond.initialized RX7, Cond.fieldLink RX9 62 "FlagWash" "sightings" "LFlagWash$Sightings;", Cond.fieldLink RX9 66 "FlagWash" "slots" "[LFlagWash$Wash;", Cond.arrayClass .boolean, Cond.fieldLink RX9 70 "FlagWash" "kept" "[Z", Cond.fieldLink RX9 74 "FlagWash" "seedNow" "J", Cond.instanceMethod yX5_init, Cond.code yX5_init cX5_init 1 none, Cond.methodLink RX5 3 objectInit, Cond.classLink RX5 9 RX4, Cond.fieldLink RX5 12 "FlagWash$Reader" "plan" "LFlagWash$Plan;", Cond.fieldLink RX5 18 "FlagWash$Reader" "stage" "I", Cond.fieldLink RX5 22 "FlagWash$Reader" "colours" "I", Cond.fieldLink RX5 25 "FlagWash$Reader" "cloth" "I", Cond.fieldLink RX5 28 "FlagWash$Reader" "one" "I", Cond.instanceMethod yX4_init, Cond.code yX4_init cX4_init 1 none, Cond.methodLink RX4 3 objectInit, Cond.fieldLink RX4 9 "FlagWash$Plan" "tubs" "I"]
def wsX9_init_r3 : List Cond := [Cond.fieldLink RX4 15 "FlagWash$Plan" "pegs" "I", Cond.fieldLink RX4 18 "FlagWash$Plan" "wind" "I", Cond.fieldLink RX4 21 "FlagWash$Plan" "flags" "I", Cond.fieldLink RX4 24 "FlagWash$Plan" "colours" "[I", Cond.fieldLink RX4 28 "FlagWash$Plan" "cloth" "[I", Cond.fieldLink RX4 31 "FlagWash$Plan" "hours" "[I", Cond.fieldLink RX4 34 "FlagWash$Plan" "hostile" "[I", Cond.methodLink RX9 33 yX8_init, Cond.instanceMethod yX8_init, Cond.code yX8_init cX8_init 2 none, Cond.methodLink RX8 3 objectInit, Cond.fieldLink RX8 9 "FlagWash$Wash" "where" "[I", Cond.fieldLink RX8 15 "FlagWash$Wash" "left" "[I", Cond.fieldLink RX8 18 "FlagWash$Wash" "colours" "[I", Cond.fieldLink RX8 21 "FlagWash$Wash" "wind" "I", Cond.fieldLink RX8 25 "FlagWash$Wash" "hour" "I", Cond.fieldLink RX8 28 "FlagWash$Wash" "plan" "LFlagWash$Plan;", Cond.methodLink RX9 45 yX2_init, Cond.instanceMethod yX2_init, Cond.code yX2_init cX2_init 2 none, Cond.methodLink RX2 3 objectInit, Cond.fieldLink RX2 9 "FlagWash$Forecast" "ahead" "LFlagWash$Wash;", Cond.methodLink RX9 54 yX0_init, Cond.instanceMethod yX0_init]
def wsX9_init_r4 : List Cond := [Cond.code yX0_init cX0_init 3 none, Cond.methodLink RX0 3 objectInit, Cond.classLink RX0 9 RX8, Cond.fieldLink RX0 11 "FlagWash$Acts" "before" "[LFlagWash$Wash;", Cond.fieldLink RX0 17 "FlagWash$Acts" "first" "I", Cond.fieldLink RX0 21 "FlagWash$Acts" "size" "I", Cond.methodLink RX0 24 yX8_init, Cond.instanceMethod yX7_init, Cond.code yX7_init cX7_init 1 none, Cond.methodLink RX7 3 objectInit, Cond.fieldLink RX7 9 "FlagWash$Sightings" "flag" "[I", Cond.fieldLink RX7 15 "FlagWash$Sightings" "colours" "[I", Cond.fieldLink RX7 18 "FlagWash$Sightings" "with" "[I", Cond.fieldLink RX7 21 "FlagWash$Sightings" "size" "I"]
def wsX9_init : List Cond := .code yX9_init cX9_init 2 none :: ((wsX9_init_r1 ++ (wsX9_init_r2 ++ (wsX9_init_r3 ++ wsX9_init_r4))) ++ wsX90 ++ wsX50 ++ wsX40 ++ wsX80 ++ wsX20 ++ wsX00 ++ wsX70)
def wsX9_write : List Cond := .code yX9_write cX9_write 2 (some .int) :: ([.fieldLink RX9 13 "FlagWash" "length" "I", .fieldLink RX9 9 "FlagWash" "letters" "[I"] ++ wsX90)
def wsX9_wipe : List Cond := .code yX9_wipe cX9_wipe 2 (some .int) :: ([.fieldLink RX9 13 "FlagWash" "length" "I"] ++ wsX90)
def wsX9_fault_r1 : List Cond := [Cond.fieldLink RX9 20 "FlagWash" "reader" "LFlagWash$Reader;", Cond.fieldLink RX9 9 "FlagWash" "letters" "[I", Cond.fieldLink RX9 13 "FlagWash" "length" "I", Cond.methodLink RX9 78 yX5_firstFault, Cond.instanceMethod yX5_firstFault, Cond.selects RX5 yX5_firstFault yX5_firstFault, Cond.initialized RX5, Cond.code yX5_firstFault cX5_firstFault 4 (some .int), Cond.fieldLink RX5 12 "FlagWash$Reader" "plan" "LFlagWash$Plan;", Cond.fieldLink RX5 31 "FlagWash$Plan" "flags" "I", Cond.fieldLink RX5 18 "FlagWash$Reader" "stage" "I", Cond.methodLink RX5 34 yX5_takes, Cond.instanceMethod yX5_takes, Cond.selects RX5 yX5_takes yX5_takes, Cond.code yX5_takes cX5_takes 2 (some .boolean), Cond.methodLink RX5 38 yX5_takesPart, Cond.instanceMethod yX5_takesPart, Cond.selects RX5 yX5_takesPart yX5_takesPart, Cond.code yX5_takesPart cX5_takesPart 2 (some .boolean), Cond.methodLink RX5 50 yX5_goOn, Cond.instanceMethod yX5_goOn, Cond.selects RX5 yX5_goOn yX5_goOn, Cond.code yX5_goOn cX5_goOn 3 (some .boolean), Cond.methodLink RX5 63 yX4_anyNotYetHostile]
def wsX9_fault_r2 : List Cond := [Cond.instanceMethod yX4_anyNotYetHostile, Cond.selects RX4 yX4_anyNotYetHostile yX4_anyNotYetHostile, Cond.initialized RX4, Cond.code yX4_anyNotYetHostile cX4_anyNotYetHostile 2 (some .boolean), Cond.fieldLink RX4 21 "FlagWash$Plan" "flags" "I", Cond.methodLink RX4 51 yX4_notYetHostile, Cond.instanceMethod yX4_notYetHostile, Cond.selects RX4 yX4_notYetHostile yX4_notYetHostile, Cond.code yX4_notYetHostile cX4_notYetHostile 2 (some .int), Cond.fieldLink RX4 34 "FlagWash$Plan" "hostile" "[I", Cond.methodLink RX4 43 yX4_has, Cond.instanceMethod yX4_has, Cond.selects RX4 yX4_has yX4_has, Cond.code yX4_has cX4_has 2 (some .boolean), Cond.methodLink RX4 47 yX4_allBits, Cond.instanceMethod yX4_allBits, Cond.selects RX4 yX4_allBits yX4_allBits, Cond.code yX4_allBits cX4_allBits 1 (some .int), Cond.methodLink RX5 41 yX5_takesOfFlag, Cond.instanceMethod yX5_takesOfFlag, Cond.selects RX5 yX5_takesOfFlag yX5_takesOfFlag, Cond.code yX5_takesOfFlag cX5_takesOfFlag 3 (some .boolean), Cond.fieldLink RX5 22 "FlagWash$Reader" "colours" "I", Cond.fieldLink RX5 25 "FlagWash$Reader" "cloth" "I"]
def wsX9_fault_r3 : List Cond := [Cond.static yX9_areColours, Cond.initialized RX9, Cond.code yX9_areColours cX9_areColours 1 (some .boolean), Cond.methodLink RX5 70 yX4_addFlag, Cond.instanceMethod yX4_addFlag, Cond.selects RX4 yX4_addFlag yX4_addFlag, Cond.code yX4_addFlag cX4_addFlag 4 none, Cond.fieldLink RX4 24 "FlagWash$Plan" "colours" "[I", Cond.fieldLink RX4 28 "FlagWash$Plan" "cloth" "[I", Cond.fieldLink RX4 31 "FlagWash$Plan" "hours" "[I", Cond.methodLink RX5 44 yX5_takesOfHostile, Cond.instanceMethod yX5_takesOfHostile, Cond.selects RX5 yX5_takesOfHostile yX5_takesOfHostile, Cond.code yX5_takesOfHostile cX5_takesOfHostile 2 (some .boolean), Cond.fieldLink RX5 28 "FlagWash$Reader" "one" "I", Cond.methodLink RX5 74 yX4_notYetHostile, Cond.methodLink RX5 78 yX4_has, Cond.methodLink RX5 81 yX4_makeHostile, Cond.instanceMethod yX4_makeHostile, Cond.selects RX4 yX4_makeHostile yX4_makeHostile, Cond.code yX4_makeHostile cX4_makeHostile 3 none, Cond.methodLink RX5 47 yX5_takesOfHead, Cond.instanceMethod yX5_takesOfHead, Cond.selects RX5 yX5_takesOfHead yX5_takesOfHead]
def wsX9_fault_r4 : List Cond := [Cond.code yX5_takesOfHead cX5_takesOfHead 3 (some .boolean), Cond.fieldLink RX5 54 "FlagWash$Plan" "tubs" "I", Cond.fieldLink RX5 57 "FlagWash$Plan" "pegs" "I", Cond.fieldLink RX5 60 "FlagWash$Plan" "wind" "I"]
def wsX9_fault : List Cond := .code yX9_fault cX9_fault 1 (some .int) :: ((wsX9_fault_r1 ++ (wsX9_fault_r2 ++ (wsX9_fault_r3 ++ wsX9_fault_r4))) ++ wsX90 ++ wsX50 ++ wsX40)
def wsX9_laundry_r1 : List Cond := [Cond.fieldLink RX9 20 "FlagWash" "reader" "LFlagWash$Reader;", Cond.fieldLink RX9 9 "FlagWash" "letters" "[I", Cond.fieldLink RX9 13 "FlagWash" "length" "I", Cond.fieldLink RX9 27 "FlagWash" "plan" "LFlagWash$Plan;", Cond.fieldLink RX9 82 "FlagWash$Reader" "plan" "LFlagWash$Plan;", Cond.fieldLink RX9 36 "FlagWash" "now" "LFlagWash$Wash;", Cond.fieldLink RX9 55 "FlagWash" "acts" "LFlagWash$Acts;", Cond.fieldLink RX9 70 "FlagWash" "kept" "[Z", Cond.fieldLink RX9 92 "FlagWash$Plan" "flags" "I", Cond.methodLink RX9 78 yX5_firstFault, Cond.instanceMethod yX5_firstFault, Cond.selects RX5 yX5_firstFault yX5_firstFault, Cond.initialized RX5, Cond.code yX5_firstFault cX5_firstFault 4 (some .int), Cond.fieldLink RX5 12 "FlagWash$Reader" "plan" "LFlagWash$Plan;", Cond.fieldLink RX5 31 "FlagWash$Plan" "flags" "I", Cond.fieldLink RX5 18 "FlagWash$Reader" "stage" "I", Cond.methodLink RX5 34 yX5_takes, Cond.instanceMethod yX5_takes, Cond.selects RX5 yX5_takes yX5_takes, Cond.code yX5_takes cX5_takes 2 (some .boolean), Cond.methodLink RX5 38 yX5_takesPart, Cond.instanceMethod yX5_takesPart, Cond.selects RX5 yX5_takesPart yX5_takesPart]
def wsX9_laundry_r2 : List Cond := [Cond.code yX5_takesPart cX5_takesPart 2 (some .boolean), Cond.methodLink RX5 50 yX5_goOn, Cond.instanceMethod yX5_goOn, Cond.selects RX5 yX5_goOn yX5_goOn, Cond.code yX5_goOn cX5_goOn 3 (some .boolean), Cond.methodLink RX5 63 yX4_anyNotYetHostile, Cond.instanceMethod yX4_anyNotYetHostile, Cond.selects RX4 yX4_anyNotYetHostile yX4_anyNotYetHostile, Cond.initialized RX4, Cond.code yX4_anyNotYetHostile cX4_anyNotYetHostile 2 (some .boolean), Cond.fieldLink RX4 21 "FlagWash$Plan" "flags" "I", Cond.methodLink RX4 51 yX4_notYetHostile, Cond.instanceMethod yX4_notYetHostile, Cond.selects RX4 yX4_notYetHostile yX4_notYetHostile, Cond.code yX4_notYetHostile cX4_notYetHostile 2 (some .int), Cond.fieldLink RX4 34 "FlagWash$Plan" "hostile" "[I", Cond.methodLink RX4 43 yX4_has, Cond.instanceMethod yX4_has, Cond.selects RX4 yX4_has yX4_has, Cond.code yX4_has cX4_has 2 (some .boolean), Cond.methodLink RX4 47 yX4_allBits, Cond.instanceMethod yX4_allBits, Cond.selects RX4 yX4_allBits yX4_allBits, Cond.code yX4_allBits cX4_allBits 1 (some .int)]
def wsX9_laundry_r3 : List Cond := [Cond.methodLink RX5 41 yX5_takesOfFlag, Cond.instanceMethod yX5_takesOfFlag, Cond.selects RX5 yX5_takesOfFlag yX5_takesOfFlag, Cond.code yX5_takesOfFlag cX5_takesOfFlag 3 (some .boolean), Cond.fieldLink RX5 22 "FlagWash$Reader" "colours" "I", Cond.fieldLink RX5 25 "FlagWash$Reader" "cloth" "I", Cond.static yX9_areColours, Cond.initialized RX9, Cond.code yX9_areColours cX9_areColours 1 (some .boolean), Cond.methodLink RX5 70 yX4_addFlag, Cond.instanceMethod yX4_addFlag, Cond.selects RX4 yX4_addFlag yX4_addFlag, Cond.code yX4_addFlag cX4_addFlag 4 none, Cond.fieldLink RX4 24 "FlagWash$Plan" "colours" "[I", Cond.fieldLink RX4 28 "FlagWash$Plan" "cloth" "[I", Cond.fieldLink RX4 31 "FlagWash$Plan" "hours" "[I", Cond.methodLink RX5 44 yX5_takesOfHostile, Cond.instanceMethod yX5_takesOfHostile, Cond.selects RX5 yX5_takesOfHostile yX5_takesOfHostile, Cond.code yX5_takesOfHostile cX5_takesOfHostile 2 (some .boolean), Cond.fieldLink RX5 28 "FlagWash$Reader" "one" "I", Cond.methodLink RX5 74 yX4_notYetHostile, Cond.methodLink RX5 78 yX4_has, Cond.methodLink RX5 81 yX4_makeHostile]
def wsX9_laundry_r4 : List Cond := [Cond.instanceMethod yX4_makeHostile, Cond.selects RX4 yX4_makeHostile yX4_makeHostile, Cond.code yX4_makeHostile cX4_makeHostile 3 none, Cond.methodLink RX5 47 yX5_takesOfHead, Cond.instanceMethod yX5_takesOfHead, Cond.selects RX5 yX5_takesOfHead yX5_takesOfHead, Cond.code yX5_takesOfHead cX5_takesOfHead 3 (some .boolean), Cond.fieldLink RX5 54 "FlagWash$Plan" "tubs" "I", Cond.fieldLink RX5 57 "FlagWash$Plan" "pegs" "I", Cond.fieldLink RX5 60 "FlagWash$Plan" "wind" "I", Cond.methodLink RX9 83 yX4_copyFrom, Cond.instanceMethod yX4_copyFrom, Cond.selects RX4 yX4_copyFrom yX4_copyFrom, Cond.code yX4_copyFrom cX4_copyFrom 2 none, Cond.fieldLink RX4 9 "FlagWash$Plan" "tubs" "I", Cond.fieldLink RX4 15 "FlagWash$Plan" "pegs" "I", Cond.fieldLink RX4 18 "FlagWash$Plan" "wind" "I", Cond.methodLink RX4 37 arraycopyName, Cond.native arraycopyName, Cond.static arraycopyName, Cond.initialized "java/lang/System", Cond.methodLink RX9 86 yX8_startAnew, Cond.instanceMethod yX8_startAnew, Cond.selects RX8 yX8_startAnew yX8_startAnew]
def wsX9_laundry_r5 : List Cond := [Cond.initialized RX8, Cond.code yX8_startAnew cX8_startAnew 2 none, Cond.fieldLink RX8 9 "FlagWash$Wash" "where" "[I", Cond.fieldLink RX8 15 "FlagWash$Wash" "left" "[I", Cond.fieldLink RX8 18 "FlagWash$Wash" "colours" "[I", Cond.fieldLink RX8 28 "FlagWash$Wash" "plan" "LFlagWash$Plan;", Cond.fieldLink RX8 32 "FlagWash$Plan" "colours" "[I", Cond.fieldLink RX8 35 "FlagWash$Plan" "wind" "I", Cond.fieldLink RX8 21 "FlagWash$Wash" "wind" "I", Cond.fieldLink RX8 25 "FlagWash$Wash" "hour" "I", Cond.methodLink RX9 89 yX0_forgetAll, Cond.instanceMethod yX0_forgetAll, Cond.selects RX0 yX0_forgetAll yX0_forgetAll, Cond.initialized RX0, Cond.code yX0_forgetAll cX0_forgetAll 1 none, Cond.fieldLink RX0 17 "FlagWash$Acts" "first" "I", Cond.fieldLink RX0 21 "FlagWash$Acts" "size" "I"]
def wsX9_laundry : List Cond := .code yX9_laundry cX9_laundry 2 (some .int) :: ((wsX9_laundry_r1 ++ (wsX9_laundry_r2 ++ (wsX9_laundry_r3 ++ (wsX9_laundry_r4 ++ wsX9_laundry_r5)))) ++ wsX90 ++ wsX50 ++ wsX40 ++ wsX80 ++ wsX00)
def wsX9_flag : List Cond := .code yX9_flag cX9_flag 3 (some .int) :: ([.fieldLink RX9 27 "FlagWash" "plan" "LFlagWash$Plan;", .fieldLink RX9 36 "FlagWash" "now" "LFlagWash$Wash;", .fieldLink RX9 99 "FlagWash$Wash" "colours" "[I", .fieldLink RX9 102 "FlagWash$Plan" "cloth" "[I", .fieldLink RX9 105 "FlagWash$Plan" "hours" "[I", .fieldLink RX9 108 "FlagWash$Wash" "where" "[I", .fieldLink RX9 111 "FlagWash$Wash" "left" "[I", .fieldLink RX9 114 "FlagWash$Plan" "hostile" "[I", .methodLink RX9 95 yX4_has, .instanceMethod yX4_has, .selects RX4 yX4_has yX4_has, .initialized RX4, .code yX4_has cX4_has 2 (some .boolean), .fieldLink RX4 21 "FlagWash$Plan" "flags" "I"] ++ wsX90 ++ wsX80 ++ wsX40)
def wsX9_send_r1 : List Cond := [Cond.fieldLink RX9 27 "FlagWash" "plan" "LFlagWash$Plan;", Cond.fieldLink RX9 36 "FlagWash" "now" "LFlagWash$Wash;", Cond.fieldLink RX9 55 "FlagWash" "acts" "LFlagWash$Acts;", Cond.methodLink RX9 95 yX4_has, Cond.instanceMethod yX4_has, Cond.selects RX4 yX4_has yX4_has, Cond.initialized RX4, Cond.code yX4_has cX4_has 2 (some .boolean), Cond.fieldLink RX4 21 "FlagWash$Plan" "flags" "I", Cond.methodLink RX9 117 yX8_canBeSent, Cond.instanceMethod yX8_canBeSent, Cond.selects RX8 yX8_canBeSent yX8_canBeSent, Cond.initialized RX8, Cond.code yX8_canBeSent cX8_canBeSent 2 (some .boolean), Cond.fieldLink RX8 28 "FlagWash$Wash" "plan" "LFlagWash$Plan;", Cond.fieldLink RX8 9 "FlagWash$Wash" "where" "[I", Cond.methodLink RX8 67 yX4_has, Cond.methodLink RX8 71 yX8_freeTubs, Cond.instanceMethod yX8_freeTubs, Cond.selects RX8 yX8_freeTubs yX8_freeTubs, Cond.code yX8_freeTubs cX8_freeTubs 1 (some .int), Cond.fieldLink RX8 49 "FlagWash$Plan" "tubs" "I", Cond.methodLink RX8 45 yX8_bitsAt, Cond.instanceMethod yX8_bitsAt]
def wsX9_send_r2 : List Cond := [Cond.selects RX8 yX8_bitsAt yX8_bitsAt, Cond.code yX8_bitsAt cX8_bitsAt 4 (some .int), Cond.fieldLink RX8 42 "FlagWash$Plan" "flags" "I", Cond.methodLink RX8 52 yJ6_bitCount_0f7a4, Cond.static yJ6_bitCount_0f7a4, Cond.initialized RJ6, Cond.code yJ6_bitCount_0f7a4 cJ6_bitCount_0f7a4 1 (some .int), Cond.constant RJ6 265 (1431655765), Cond.constant RJ6 266 (858993459), Cond.constant RJ6 267 (252645135), Cond.methodLink RX9 120 yX0_remember, Cond.instanceMethod yX0_remember, Cond.selects RX0 yX0_remember yX0_remember, Cond.initialized RX0, Cond.code yX0_remember cX0_remember 2 none, Cond.fieldLink RX0 21 "FlagWash$Acts" "size" "I", Cond.fieldLink RX0 17 "FlagWash$Acts" "first" "I", Cond.fieldLink RX0 11 "FlagWash$Acts" "before" "[LFlagWash$Wash;", Cond.methodLink RX0 27 yX8_copyFrom, Cond.instanceMethod yX8_copyFrom, Cond.selects RX8 yX8_copyFrom yX8_copyFrom, Cond.code yX8_copyFrom cX8_copyFrom 2 none, Cond.methodLink RX8 36 arraycopyName, Cond.native arraycopyName]
def wsX9_send_r3 : List Cond := [Cond.static arraycopyName, Cond.initialized "java/lang/System", Cond.fieldLink RX8 15 "FlagWash$Wash" "left" "[I", Cond.fieldLink RX8 18 "FlagWash$Wash" "colours" "[I", Cond.fieldLink RX8 21 "FlagWash$Wash" "wind" "I", Cond.fieldLink RX8 25 "FlagWash$Wash" "hour" "I", Cond.methodLink RX9 123 yX8_putInTub, Cond.instanceMethod yX8_putInTub, Cond.selects RX8 yX8_putInTub yX8_putInTub, Cond.code yX8_putInTub cX8_putInTub 2 none, Cond.fieldLink RX8 74 "FlagWash$Plan" "hours" "[I", Cond.methodLink RX9 127 yX8_freeTubs]
def wsX9_send : List Cond := .code yX9_send cX9_send 2 (some .int) :: ((wsX9_send_r1 ++ (wsX9_send_r2 ++ wsX9_send_r3)) ++ wsX90 ++ wsX40 ++ wsX80 ++ wsX00)
def wsX9_pull_r1 : List Cond := [Cond.fieldLink RX9 27 "FlagWash" "plan" "LFlagWash$Plan;", Cond.fieldLink RX9 36 "FlagWash" "now" "LFlagWash$Wash;", Cond.fieldLink RX9 55 "FlagWash" "acts" "LFlagWash$Acts;", Cond.fieldLink RX9 108 "FlagWash$Wash" "where" "[I", Cond.methodLink RX9 95 yX4_has, Cond.instanceMethod yX4_has, Cond.selects RX4 yX4_has yX4_has, Cond.initialized RX4, Cond.code yX4_has cX4_has 2 (some .boolean), Cond.fieldLink RX4 21 "FlagWash$Plan" "flags" "I", Cond.methodLink RX9 131 yX8_canBePulled, Cond.instanceMethod yX8_canBePulled, Cond.selects RX8 yX8_canBePulled yX8_canBePulled, Cond.initialized RX8, Cond.code yX8_canBePulled cX8_canBePulled 2 (some .boolean), Cond.fieldLink RX8 28 "FlagWash$Wash" "plan" "LFlagWash$Plan;", Cond.fieldLink RX8 9 "FlagWash$Wash" "where" "[I", Cond.methodLink RX8 67 yX4_has, Cond.methodLink RX9 120 yX0_remember, Cond.instanceMethod yX0_remember, Cond.selects RX0 yX0_remember yX0_remember, Cond.initialized RX0, Cond.code yX0_remember cX0_remember 2 none, Cond.fieldLink RX0 21 "FlagWash$Acts" "size" "I"]
def wsX9_pull_r2 : List Cond := [Cond.fieldLink RX0 17 "FlagWash$Acts" "first" "I", Cond.fieldLink RX0 11 "FlagWash$Acts" "before" "[LFlagWash$Wash;", Cond.methodLink RX0 27 yX8_copyFrom, Cond.instanceMethod yX8_copyFrom, Cond.selects RX8 yX8_copyFrom yX8_copyFrom, Cond.code yX8_copyFrom cX8_copyFrom 2 none, Cond.methodLink RX8 36 arraycopyName, Cond.native arraycopyName, Cond.static arraycopyName, Cond.initialized "java/lang/System", Cond.fieldLink RX8 15 "FlagWash$Wash" "left" "[I", Cond.fieldLink RX8 18 "FlagWash$Wash" "colours" "[I", Cond.fieldLink RX8 21 "FlagWash$Wash" "wind" "I", Cond.fieldLink RX8 25 "FlagWash$Wash" "hour" "I", Cond.methodLink RX9 134 yX8_bringHome, Cond.instanceMethod yX8_bringHome, Cond.selects RX8 yX8_bringHome yX8_bringHome, Cond.code yX8_bringHome cX8_bringHome 2 none]
def wsX9_pull : List Cond := .code yX9_pull cX9_pull 3 (some .int) :: ((wsX9_pull_r1 ++ wsX9_pull_r2) ++ wsX90 ++ wsX80 ++ wsX40 ++ wsX00)
def wsX9_hour_r1 : List Cond := [Cond.fieldLink RX9 55 "FlagWash" "acts" "LFlagWash$Acts;", Cond.fieldLink RX9 36 "FlagWash" "now" "LFlagWash$Wash;", Cond.methodLink RX9 120 yX0_remember, Cond.instanceMethod yX0_remember, Cond.selects RX0 yX0_remember yX0_remember, Cond.initialized RX0, Cond.code yX0_remember cX0_remember 2 none, Cond.fieldLink RX0 21 "FlagWash$Acts" "size" "I", Cond.fieldLink RX0 17 "FlagWash$Acts" "first" "I", Cond.fieldLink RX0 11 "FlagWash$Acts" "before" "[LFlagWash$Wash;", Cond.methodLink RX0 27 yX8_copyFrom, Cond.instanceMethod yX8_copyFrom, Cond.selects RX8 yX8_copyFrom yX8_copyFrom, Cond.initialized RX8, Cond.code yX8_copyFrom cX8_copyFrom 2 none, Cond.fieldLink RX8 9 "FlagWash$Wash" "where" "[I", Cond.methodLink RX8 36 arraycopyName, Cond.native arraycopyName, Cond.static arraycopyName, Cond.initialized "java/lang/System", Cond.fieldLink RX8 15 "FlagWash$Wash" "left" "[I", Cond.fieldLink RX8 18 "FlagWash$Wash" "colours" "[I", Cond.fieldLink RX8 21 "FlagWash$Wash" "wind" "I", Cond.fieldLink RX8 25 "FlagWash$Wash" "hour" "I"]
def wsX9_hour_r2 : List Cond := [Cond.methodLink RX9 137 yX8_passHour, Cond.instanceMethod yX8_passHour, Cond.selects RX8 yX8_passHour yX8_passHour, Cond.code yX8_passHour cX8_passHour 2 (some .int), Cond.methodLink RX8 77 yX8_dryOnLine, Cond.instanceMethod yX8_dryOnLine, Cond.selects RX8 yX8_dryOnLine yX8_dryOnLine, Cond.code yX8_dryOnLine cX8_dryOnLine 3 (some .int), Cond.fieldLink RX8 28 "FlagWash$Wash" "plan" "LFlagWash$Plan;", Cond.fieldLink RX8 42 "FlagWash$Plan" "flags" "I", Cond.methodLink RX8 89 yX8_bringHome, Cond.instanceMethod yX8_bringHome, Cond.selects RX8 yX8_bringHome yX8_bringHome, Cond.code yX8_bringHome cX8_bringHome 2 none, Cond.methodLink RX8 67 yX4_has, Cond.instanceMethod yX4_has, Cond.selects RX4 yX4_has yX4_has, Cond.initialized RX4, Cond.code yX4_has cX4_has 2 (some .boolean), Cond.fieldLink RX4 21 "FlagWash$Plan" "flags" "I", Cond.methodLink RX8 80 yX8_runInTubs, Cond.instanceMethod yX8_runInTubs, Cond.selects RX8 yX8_runInTubs yX8_runInTubs, Cond.code yX8_runInTubs cX8_runInTubs 3 none]
def wsX9_hour_r3 : List Cond := [Cond.fieldLink RX8 93 "FlagWash$Plan" "cloth" "[I", Cond.methodLink RX8 83 yX8_washInTubs, Cond.instanceMethod yX8_washInTubs, Cond.selects RX8 yX8_washInTubs yX8_washInTubs, Cond.code yX8_washInTubs cX8_washInTubs 2 none, Cond.methodLink RX8 86 yX8_hangUp, Cond.instanceMethod yX8_hangUp, Cond.selects RX8 yX8_hangUp yX8_hangUp, Cond.code yX8_hangUp cX8_hangUp 2 none, Cond.methodLink RX8 96 yX8_freePegs, Cond.instanceMethod yX8_freePegs, Cond.selects RX8 yX8_freePegs yX8_freePegs, Cond.code yX8_freePegs cX8_freePegs 1 (some .int), Cond.fieldLink RX8 57 "FlagWash$Plan" "pegs" "I", Cond.methodLink RX8 45 yX8_bitsAt, Cond.instanceMethod yX8_bitsAt, Cond.selects RX8 yX8_bitsAt yX8_bitsAt, Cond.code yX8_bitsAt cX8_bitsAt 4 (some .int), Cond.methodLink RX8 52 yJ6_bitCount_0f7a4, Cond.static yJ6_bitCount_0f7a4, Cond.initialized RJ6, Cond.code yJ6_bitCount_0f7a4 cJ6_bitCount_0f7a4 1 (some .int), Cond.constant RJ6 265 (1431655765), Cond.constant RJ6 266 (858993459)]
def wsX9_hour_r4 : List Cond := [Cond.constant RJ6 267 (252645135), Cond.methodLink RX8 99 yX8_wetOf, Cond.static yX8_wetOf, Cond.code yX8_wetOf cX8_wetOf 1 (some .int), Cond.fieldLink RX8 102 "FlagWash$Wash" "WET" "[I"]
def wsX9_hour : List Cond := .code yX9_hour cX9_hour 1 (some .int) :: ((wsX9_hour_r1 ++ (wsX9_hour_r2 ++ (wsX9_hour_r3 ++ wsX9_hour_r4))) ++ wsX90 ++ wsX00 ++ wsX80 ++ wsX40)
def wsX9_wind_r1 : List Cond := [Cond.fieldLink RX9 36 "FlagWash" "now" "LFlagWash$Wash;", Cond.fieldLink RX9 140 "FlagWash$Wash" "wind" "I", Cond.fieldLink RX9 55 "FlagWash" "acts" "LFlagWash$Acts;", Cond.methodLink RX9 120 yX0_remember, Cond.instanceMethod yX0_remember, Cond.selects RX0 yX0_remember yX0_remember, Cond.initialized RX0, Cond.code yX0_remember cX0_remember 2 none, Cond.fieldLink RX0 21 "FlagWash$Acts" "size" "I", Cond.fieldLink RX0 17 "FlagWash$Acts" "first" "I", Cond.fieldLink RX0 11 "FlagWash$Acts" "before" "[LFlagWash$Wash;", Cond.methodLink RX0 27 yX8_copyFrom, Cond.instanceMethod yX8_copyFrom, Cond.selects RX8 yX8_copyFrom yX8_copyFrom, Cond.initialized RX8, Cond.code yX8_copyFrom cX8_copyFrom 2 none, Cond.fieldLink RX8 9 "FlagWash$Wash" "where" "[I", Cond.methodLink RX8 36 arraycopyName, Cond.native arraycopyName, Cond.static arraycopyName, Cond.initialized "java/lang/System", Cond.fieldLink RX8 15 "FlagWash$Wash" "left" "[I", Cond.fieldLink RX8 18 "FlagWash$Wash" "colours" "[I", Cond.fieldLink RX8 21 "FlagWash$Wash" "wind" "I"]
def wsX9_wind_r2 : List Cond := [Cond.fieldLink RX8 25 "FlagWash$Wash" "hour" "I"]
def wsX9_wind : List Cond := .code yX9_wind cX9_wind 3 (some .int) :: ((wsX9_wind_r1 ++ wsX9_wind_r2) ++ wsX90 ++ wsX80 ++ wsX00)
def wsX9_undo_r1 : List Cond := [Cond.fieldLink RX9 55 "FlagWash" "acts" "LFlagWash$Acts;", Cond.fieldLink RX9 36 "FlagWash" "now" "LFlagWash$Wash;", Cond.fieldLink RX9 147 "FlagWash$Acts" "size" "I", Cond.methodLink RX9 143 yX0_takeBack, Cond.instanceMethod yX0_takeBack, Cond.selects RX0 yX0_takeBack yX0_takeBack, Cond.initialized RX0, Cond.code yX0_takeBack cX0_takeBack 2 (some .boolean), Cond.fieldLink RX0 21 "FlagWash$Acts" "size" "I", Cond.fieldLink RX0 11 "FlagWash$Acts" "before" "[LFlagWash$Wash;", Cond.fieldLink RX0 17 "FlagWash$Acts" "first" "I", Cond.methodLink RX0 27 yX8_copyFrom, Cond.instanceMethod yX8_copyFrom, Cond.selects RX8 yX8_copyFrom yX8_copyFrom, Cond.initialized RX8, Cond.code yX8_copyFrom cX8_copyFrom 2 none, Cond.fieldLink RX8 9 "FlagWash$Wash" "where" "[I", Cond.methodLink RX8 36 arraycopyName, Cond.native arraycopyName, Cond.static arraycopyName, Cond.initialized "java/lang/System", Cond.fieldLink RX8 15 "FlagWash$Wash" "left" "[I", Cond.fieldLink RX8 18 "FlagWash$Wash" "colours" "[I", Cond.fieldLink RX8 21 "FlagWash$Wash" "wind" "I"]
def wsX9_undo_r2 : List Cond := [Cond.fieldLink RX8 25 "FlagWash$Wash" "hour" "I"]
def wsX9_undo : List Cond := .code yX9_undo cX9_undo 1 (some .int) :: ((wsX9_undo_r1 ++ wsX9_undo_r2) ++ wsX90 ++ wsX00 ++ wsX80)
def wsX9_peace_r1 : List Cond := [Cond.fieldLink RX9 27 "FlagWash" "plan" "LFlagWash$Plan;", Cond.fieldLink RX9 48 "FlagWash" "forecast" "LFlagWash$Forecast;", Cond.fieldLink RX9 36 "FlagWash" "now" "LFlagWash$Wash;", Cond.methodLink RX9 95 yX4_has, Cond.instanceMethod yX4_has, Cond.selects RX4 yX4_has yX4_has, Cond.initialized RX4, Cond.code yX4_has cX4_has 2 (some .boolean), Cond.fieldLink RX4 21 "FlagWash$Plan" "flags" "I", Cond.methodLink RX9 150 yX2_hoursToFight, Cond.instanceMethod yX2_hoursToFight, Cond.selects RX2 yX2_hoursToFight yX2_hoursToFight, Cond.initialized RX2, Cond.code yX2_hoursToFight cX2_hoursToFight 5 (some .int), Cond.fieldLink RX2 15 "FlagWash$Wash" "plan" "LFlagWash$Plan;", Cond.fieldLink RX2 9 "FlagWash$Forecast" "ahead" "LFlagWash$Wash;", Cond.methodLink RX2 21 yX4_hostilePairs, Cond.instanceMethod yX4_hostilePairs, Cond.selects RX4 yX4_hostilePairs yX4_hostilePairs, Cond.code yX4_hostilePairs cX4_hostilePairs 4 (some .int), Cond.fieldLink RX4 34 "FlagWash$Plan" "hostile" "[I", Cond.methodLink RX4 55 yJ6_bitCount_0f7a4, Cond.static yJ6_bitCount_0f7a4, Cond.initialized RJ6]
def wsX9_peace_r2 : List Cond := [Cond.code yJ6_bitCount_0f7a4 cJ6_bitCount_0f7a4 1 (some .int), Cond.constant RJ6 265 (1431655765), Cond.constant RJ6 266 (858993459), Cond.constant RJ6 267 (252645135), Cond.methodLink RX2 27 yX8_copyFrom, Cond.instanceMethod yX8_copyFrom, Cond.selects RX8 yX8_copyFrom yX8_copyFrom, Cond.initialized RX8, Cond.code yX8_copyFrom cX8_copyFrom 2 none, Cond.fieldLink RX8 9 "FlagWash$Wash" "where" "[I", Cond.methodLink RX8 36 arraycopyName, Cond.native arraycopyName, Cond.static arraycopyName, Cond.initialized "java/lang/System", Cond.fieldLink RX8 15 "FlagWash$Wash" "left" "[I", Cond.fieldLink RX8 18 "FlagWash$Wash" "colours" "[I", Cond.fieldLink RX8 21 "FlagWash$Wash" "wind" "I", Cond.fieldLink RX8 25 "FlagWash$Wash" "hour" "I", Cond.methodLink RX2 31 yX8_putInTub, Cond.instanceMethod yX8_putInTub, Cond.selects RX8 yX8_putInTub yX8_putInTub, Cond.code yX8_putInTub cX8_putInTub 2 none, Cond.fieldLink RX8 28 "FlagWash$Wash" "plan" "LFlagWash$Plan;", Cond.fieldLink RX8 74 "FlagWash$Plan" "hours" "[I"]
def wsX9_peace_r3 : List Cond := [Cond.methodLink RX8 67 yX4_has, Cond.methodLink RX2 35 yX8_homeBits, Cond.instanceMethod yX8_homeBits, Cond.selects RX8 yX8_homeBits yX8_homeBits, Cond.code yX8_homeBits cX8_homeBits 1 (some .int), Cond.methodLink RX8 45 yX8_bitsAt, Cond.instanceMethod yX8_bitsAt, Cond.selects RX8 yX8_bitsAt yX8_bitsAt, Cond.code yX8_bitsAt cX8_bitsAt 4 (some .int), Cond.fieldLink RX8 42 "FlagWash$Plan" "flags" "I", Cond.methodLink RX2 39 yX8_passHour, Cond.instanceMethod yX8_passHour, Cond.selects RX8 yX8_passHour yX8_passHour, Cond.code yX8_passHour cX8_passHour 2 (some .int), Cond.methodLink RX8 77 yX8_dryOnLine, Cond.instanceMethod yX8_dryOnLine, Cond.selects RX8 yX8_dryOnLine yX8_dryOnLine, Cond.code yX8_dryOnLine cX8_dryOnLine 3 (some .int), Cond.methodLink RX8 89 yX8_bringHome, Cond.instanceMethod yX8_bringHome, Cond.selects RX8 yX8_bringHome yX8_bringHome, Cond.code yX8_bringHome cX8_bringHome 2 none, Cond.methodLink RX8 80 yX8_runInTubs, Cond.instanceMethod yX8_runInTubs]
def wsX9_peace_r4 : List Cond := [Cond.selects RX8 yX8_runInTubs yX8_runInTubs, Cond.code yX8_runInTubs cX8_runInTubs 3 none, Cond.fieldLink RX8 93 "FlagWash$Plan" "cloth" "[I", Cond.methodLink RX8 83 yX8_washInTubs, Cond.instanceMethod yX8_washInTubs, Cond.selects RX8 yX8_washInTubs yX8_washInTubs, Cond.code yX8_washInTubs cX8_washInTubs 2 none, Cond.methodLink RX8 86 yX8_hangUp, Cond.instanceMethod yX8_hangUp, Cond.selects RX8 yX8_hangUp yX8_hangUp, Cond.code yX8_hangUp cX8_hangUp 2 none, Cond.methodLink RX8 96 yX8_freePegs, Cond.instanceMethod yX8_freePegs, Cond.selects RX8 yX8_freePegs yX8_freePegs, Cond.code yX8_freePegs cX8_freePegs 1 (some .int), Cond.fieldLink RX8 57 "FlagWash$Plan" "pegs" "I", Cond.methodLink RX8 52 yJ6_bitCount_0f7a4, Cond.methodLink RX8 99 yX8_wetOf, Cond.static yX8_wetOf, Cond.code yX8_wetOf cX8_wetOf 1 (some .int), Cond.fieldLink RX8 102 "FlagWash$Wash" "WET" "[I"]
def wsX9_peace : List Cond := .code yX9_peace cX9_peace 3 (some .int) :: ((wsX9_peace_r1 ++ (wsX9_peace_r2 ++ (wsX9_peace_r3 ++ wsX9_peace_r4))) ++ wsX90 ++ wsX40 ++ wsX80 ++ wsX20)
def wsX9_quiet_r1 : List Cond := [Cond.fieldLink RX9 48 "FlagWash" "forecast" "LFlagWash$Forecast;", Cond.fieldLink RX9 36 "FlagWash" "now" "LFlagWash$Wash;", Cond.methodLink RX9 150 yX2_hoursToFight, Cond.instanceMethod yX2_hoursToFight, Cond.selects RX2 yX2_hoursToFight yX2_hoursToFight, Cond.initialized RX2, Cond.code yX2_hoursToFight cX2_hoursToFight 5 (some .int), Cond.fieldLink RX2 15 "FlagWash$Wash" "plan" "LFlagWash$Plan;", Cond.fieldLink RX2 9 "FlagWash$Forecast" "ahead" "LFlagWash$Wash;", Cond.methodLink RX2 21 yX4_hostilePairs, Cond.instanceMethod yX4_hostilePairs, Cond.selects RX4 yX4_hostilePairs yX4_hostilePairs, Cond.initialized RX4, Cond.code yX4_hostilePairs cX4_hostilePairs 4 (some .int), Cond.fieldLink RX4 21 "FlagWash$Plan" "flags" "I", Cond.fieldLink RX4 34 "FlagWash$Plan" "hostile" "[I", Cond.methodLink RX4 55 yJ6_bitCount_0f7a4, Cond.static yJ6_bitCount_0f7a4, Cond.initialized RJ6, Cond.code yJ6_bitCount_0f7a4 cJ6_bitCount_0f7a4 1 (some .int), Cond.constant RJ6 265 (1431655765), Cond.constant RJ6 266 (858993459), Cond.constant RJ6 267 (252645135), Cond.methodLink RX2 27 yX8_copyFrom]
def wsX9_quiet_r2 : List Cond := [Cond.instanceMethod yX8_copyFrom, Cond.selects RX8 yX8_copyFrom yX8_copyFrom, Cond.initialized RX8, Cond.code yX8_copyFrom cX8_copyFrom 2 none, Cond.fieldLink RX8 9 "FlagWash$Wash" "where" "[I", Cond.methodLink RX8 36 arraycopyName, Cond.native arraycopyName, Cond.static arraycopyName, Cond.initialized "java/lang/System", Cond.fieldLink RX8 15 "FlagWash$Wash" "left" "[I", Cond.fieldLink RX8 18 "FlagWash$Wash" "colours" "[I", Cond.fieldLink RX8 21 "FlagWash$Wash" "wind" "I", Cond.fieldLink RX8 25 "FlagWash$Wash" "hour" "I", Cond.methodLink RX2 31 yX8_putInTub, Cond.instanceMethod yX8_putInTub, Cond.selects RX8 yX8_putInTub yX8_putInTub, Cond.code yX8_putInTub cX8_putInTub 2 none, Cond.fieldLink RX8 28 "FlagWash$Wash" "plan" "LFlagWash$Plan;", Cond.fieldLink RX8 74 "FlagWash$Plan" "hours" "[I", Cond.methodLink RX8 67 yX4_has, Cond.instanceMethod yX4_has, Cond.selects RX4 yX4_has yX4_has, Cond.code yX4_has cX4_has 2 (some .boolean), Cond.methodLink RX2 35 yX8_homeBits]
def wsX9_quiet_r3 : List Cond := [Cond.instanceMethod yX8_homeBits, Cond.selects RX8 yX8_homeBits yX8_homeBits, Cond.code yX8_homeBits cX8_homeBits 1 (some .int), Cond.methodLink RX8 45 yX8_bitsAt, Cond.instanceMethod yX8_bitsAt, Cond.selects RX8 yX8_bitsAt yX8_bitsAt, Cond.code yX8_bitsAt cX8_bitsAt 4 (some .int), Cond.fieldLink RX8 42 "FlagWash$Plan" "flags" "I", Cond.methodLink RX2 39 yX8_passHour, Cond.instanceMethod yX8_passHour, Cond.selects RX8 yX8_passHour yX8_passHour, Cond.code yX8_passHour cX8_passHour 2 (some .int), Cond.methodLink RX8 77 yX8_dryOnLine, Cond.instanceMethod yX8_dryOnLine, Cond.selects RX8 yX8_dryOnLine yX8_dryOnLine, Cond.code yX8_dryOnLine cX8_dryOnLine 3 (some .int), Cond.methodLink RX8 89 yX8_bringHome, Cond.instanceMethod yX8_bringHome, Cond.selects RX8 yX8_bringHome yX8_bringHome, Cond.code yX8_bringHome cX8_bringHome 2 none, Cond.methodLink RX8 80 yX8_runInTubs, Cond.instanceMethod yX8_runInTubs, Cond.selects RX8 yX8_runInTubs yX8_runInTubs, Cond.code yX8_runInTubs cX8_runInTubs 3 none]
def wsX9_quiet_r4 : List Cond := [Cond.fieldLink RX8 93 "FlagWash$Plan" "cloth" "[I", Cond.methodLink RX8 83 yX8_washInTubs, Cond.instanceMethod yX8_washInTubs, Cond.selects RX8 yX8_washInTubs yX8_washInTubs, Cond.code yX8_washInTubs cX8_washInTubs 2 none, Cond.methodLink RX8 86 yX8_hangUp, Cond.instanceMethod yX8_hangUp, Cond.selects RX8 yX8_hangUp yX8_hangUp, Cond.code yX8_hangUp cX8_hangUp 2 none, Cond.methodLink RX8 96 yX8_freePegs, Cond.instanceMethod yX8_freePegs, Cond.selects RX8 yX8_freePegs yX8_freePegs, Cond.code yX8_freePegs cX8_freePegs 1 (some .int), Cond.fieldLink RX8 57 "FlagWash$Plan" "pegs" "I", Cond.methodLink RX8 52 yJ6_bitCount_0f7a4, Cond.methodLink RX8 99 yX8_wetOf, Cond.static yX8_wetOf, Cond.code yX8_wetOf cX8_wetOf 1 (some .int), Cond.fieldLink RX8 102 "FlagWash$Wash" "WET" "[I"]
def wsX9_quiet : List Cond := .code yX9_quiet cX9_quiet 1 (some .int) :: ((wsX9_quiet_r1 ++ (wsX9_quiet_r2 ++ (wsX9_quiet_r3 ++ wsX9_quiet_r4))) ++ wsX90 ++ wsX80 ++ wsX20 ++ wsX40)
def wsX9_sending_r1 : List Cond := [Cond.fieldLink RX9 48 "FlagWash" "forecast" "LFlagWash$Forecast;", Cond.fieldLink RX9 36 "FlagWash" "now" "LFlagWash$Wash;", Cond.methodLink RX9 154 yX2_bestToSend, Cond.instanceMethod yX2_bestToSend, Cond.selects RX2 yX2_bestToSend yX2_bestToSend, Cond.initialized RX2, Cond.code yX2_bestToSend cX2_bestToSend 9 (some .int), Cond.methodLink RX2 35 yX8_homeBits, Cond.instanceMethod yX8_homeBits, Cond.selects RX8 yX8_homeBits yX8_homeBits, Cond.initialized RX8, Cond.code yX8_homeBits cX8_homeBits 1 (some .int), Cond.methodLink RX8 45 yX8_bitsAt, Cond.instanceMethod yX8_bitsAt, Cond.selects RX8 yX8_bitsAt yX8_bitsAt, Cond.code yX8_bitsAt cX8_bitsAt 4 (some .int), Cond.fieldLink RX8 28 "FlagWash$Wash" "plan" "LFlagWash$Plan;", Cond.fieldLink RX8 42 "FlagWash$Plan" "flags" "I", Cond.fieldLink RX8 9 "FlagWash$Wash" "where" "[I", Cond.methodLink RX2 42 yX8_freeTubs, Cond.instanceMethod yX8_freeTubs, Cond.selects RX8 yX8_freeTubs yX8_freeTubs, Cond.code yX8_freeTubs cX8_freeTubs 1 (some .int), Cond.fieldLink RX8 49 "FlagWash$Plan" "tubs" "I"]
def wsX9_sending_r2 : List Cond := [Cond.methodLink RX8 52 yJ6_bitCount_0f7a4, Cond.static yJ6_bitCount_0f7a4, Cond.initialized RJ6, Cond.code yJ6_bitCount_0f7a4 cJ6_bitCount_0f7a4 1 (some .int), Cond.constant RJ6 265 (1431655765), Cond.constant RJ6 266 (858993459), Cond.constant RJ6 267 (252645135), Cond.static yX9_isWithin, Cond.initialized RX9, Cond.code yX9_isWithin cX9_isWithin 2 (some .boolean), Cond.methodLink RX2 49 yJ6_bitCount_0f7a4, Cond.methodLink RX2 54 yX2_hoursToFight, Cond.instanceMethod yX2_hoursToFight, Cond.selects RX2 yX2_hoursToFight yX2_hoursToFight, Cond.code yX2_hoursToFight cX2_hoursToFight 5 (some .int), Cond.fieldLink RX2 15 "FlagWash$Wash" "plan" "LFlagWash$Plan;", Cond.fieldLink RX2 9 "FlagWash$Forecast" "ahead" "LFlagWash$Wash;", Cond.methodLink RX2 21 yX4_hostilePairs, Cond.instanceMethod yX4_hostilePairs, Cond.selects RX4 yX4_hostilePairs yX4_hostilePairs, Cond.initialized RX4, Cond.code yX4_hostilePairs cX4_hostilePairs 4 (some .int), Cond.fieldLink RX4 21 "FlagWash$Plan" "flags" "I", Cond.fieldLink RX4 34 "FlagWash$Plan" "hostile" "[I"]
def wsX9_sending_r3 : List Cond := [Cond.methodLink RX4 55 yJ6_bitCount_0f7a4, Cond.methodLink RX2 27 yX8_copyFrom, Cond.instanceMethod yX8_copyFrom, Cond.selects RX8 yX8_copyFrom yX8_copyFrom, Cond.code yX8_copyFrom cX8_copyFrom 2 none, Cond.methodLink RX8 36 arraycopyName, Cond.native arraycopyName, Cond.static arraycopyName, Cond.initialized "java/lang/System", Cond.fieldLink RX8 15 "FlagWash$Wash" "left" "[I", Cond.fieldLink RX8 18 "FlagWash$Wash" "colours" "[I", Cond.fieldLink RX8 21 "FlagWash$Wash" "wind" "I", Cond.fieldLink RX8 25 "FlagWash$Wash" "hour" "I", Cond.methodLink RX2 31 yX8_putInTub, Cond.instanceMethod yX8_putInTub, Cond.selects RX8 yX8_putInTub yX8_putInTub, Cond.code yX8_putInTub cX8_putInTub 2 none, Cond.fieldLink RX8 74 "FlagWash$Plan" "hours" "[I", Cond.methodLink RX8 67 yX4_has, Cond.instanceMethod yX4_has, Cond.selects RX4 yX4_has yX4_has, Cond.code yX4_has cX4_has 2 (some .boolean), Cond.methodLink RX2 39 yX8_passHour, Cond.instanceMethod yX8_passHour]
def wsX9_sending_r4 : List Cond := [Cond.selects RX8 yX8_passHour yX8_passHour, Cond.code yX8_passHour cX8_passHour 2 (some .int), Cond.methodLink RX8 77 yX8_dryOnLine, Cond.instanceMethod yX8_dryOnLine, Cond.selects RX8 yX8_dryOnLine yX8_dryOnLine, Cond.code yX8_dryOnLine cX8_dryOnLine 3 (some .int), Cond.methodLink RX8 89 yX8_bringHome, Cond.instanceMethod yX8_bringHome, Cond.selects RX8 yX8_bringHome yX8_bringHome, Cond.code yX8_bringHome cX8_bringHome 2 none, Cond.methodLink RX8 80 yX8_runInTubs, Cond.instanceMethod yX8_runInTubs, Cond.selects RX8 yX8_runInTubs yX8_runInTubs, Cond.code yX8_runInTubs cX8_runInTubs 3 none, Cond.fieldLink RX8 93 "FlagWash$Plan" "cloth" "[I", Cond.methodLink RX8 83 yX8_washInTubs, Cond.instanceMethod yX8_washInTubs, Cond.selects RX8 yX8_washInTubs yX8_washInTubs, Cond.code yX8_washInTubs cX8_washInTubs 2 none, Cond.methodLink RX8 86 yX8_hangUp, Cond.instanceMethod yX8_hangUp, Cond.selects RX8 yX8_hangUp yX8_hangUp, Cond.code yX8_hangUp cX8_hangUp 2 none, Cond.methodLink RX8 96 yX8_freePegs]
def wsX9_sending_r5 : List Cond := [Cond.instanceMethod yX8_freePegs, Cond.selects RX8 yX8_freePegs yX8_freePegs, Cond.code yX8_freePegs cX8_freePegs 1 (some .int), Cond.fieldLink RX8 57 "FlagWash$Plan" "pegs" "I", Cond.methodLink RX8 99 yX8_wetOf, Cond.static yX8_wetOf, Cond.code yX8_wetOf cX8_wetOf 1 (some .int), Cond.fieldLink RX8 102 "FlagWash$Wash" "WET" "[I", Cond.static yX9_isFewer, Cond.code yX9_isFewer cX9_isFewer 2 (some .boolean), Cond.methodLink RX9 255 yJ6_bitCount_0f7a4, Cond.methodLink RX9 150 yX2_hoursToFight]
def wsX9_sending : List Cond := .code yX9_sending cX9_sending 3 (some .int) :: ((wsX9_sending_r1 ++ (wsX9_sending_r2 ++ (wsX9_sending_r3 ++ (wsX9_sending_r4 ++ wsX9_sending_r5)))) ++ wsX90 ++ wsX80 ++ wsX40 ++ wsX20)
def wsX9_cover_r1 : List Cond := [Cond.fieldLink RX9 36 "FlagWash" "now" "LFlagWash$Wash;", Cond.fieldLink RX9 27 "FlagWash" "plan" "LFlagWash$Plan;", Cond.methodLink RX9 158 yX8_homeBits, Cond.instanceMethod yX8_homeBits, Cond.selects RX8 yX8_homeBits yX8_homeBits, Cond.initialized RX8, Cond.code yX8_homeBits cX8_homeBits 1 (some .int), Cond.methodLink RX8 45 yX8_bitsAt, Cond.instanceMethod yX8_bitsAt, Cond.selects RX8 yX8_bitsAt yX8_bitsAt, Cond.code yX8_bitsAt cX8_bitsAt 4 (some .int), Cond.fieldLink RX8 28 "FlagWash$Wash" "plan" "LFlagWash$Plan;", Cond.fieldLink RX8 42 "FlagWash$Plan" "flags" "I", Cond.fieldLink RX8 9 "FlagWash$Wash" "where" "[I", Cond.methodLink RX9 161 yX9_isWithin, Cond.static yX9_isWithin, Cond.initialized RX9, Cond.code yX9_isWithin cX9_isWithin 2 (some .boolean), Cond.methodLink RX9 165 yX4_hostilePairs, Cond.instanceMethod yX4_hostilePairs, Cond.selects RX4 yX4_hostilePairs yX4_hostilePairs, Cond.initialized RX4, Cond.code yX4_hostilePairs cX4_hostilePairs 4 (some .int), Cond.fieldLink RX4 21 "FlagWash$Plan" "flags" "I"]
def wsX9_cover_r2 : List Cond := [Cond.fieldLink RX4 34 "FlagWash$Plan" "hostile" "[I", Cond.methodLink RX4 55 yJ6_bitCount_0f7a4, Cond.static yJ6_bitCount_0f7a4, Cond.initialized RJ6, Cond.code yJ6_bitCount_0f7a4 cJ6_bitCount_0f7a4 1 (some .int), Cond.constant RJ6 265 (1431655765), Cond.constant RJ6 266 (858993459), Cond.constant RJ6 267 (252645135), Cond.methodLink RX9 169 yX9_isFewer, Cond.static yX9_isFewer, Cond.code yX9_isFewer cX9_isFewer 2 (some .boolean), Cond.methodLink RX9 255 yJ6_bitCount_0f7a4]
def wsX9_cover : List Cond := .code yX9_cover cX9_cover 5 (some .int) :: ((wsX9_cover_r1 ++ wsX9_cover_r2) ++ wsX90 ++ wsX80 ++ wsX40)
def wsX9_ran_r1 : List Cond := [Cond.fieldLink RX9 27 "FlagWash" "plan" "LFlagWash$Plan;", Cond.fieldLink RX9 36 "FlagWash" "now" "LFlagWash$Wash;", Cond.methodLink RX9 95 yX4_has, Cond.instanceMethod yX4_has, Cond.selects RX4 yX4_has yX4_has, Cond.initialized RX4, Cond.code yX4_has cX4_has 2 (some .boolean), Cond.fieldLink RX4 21 "FlagWash$Plan" "flags" "I", Cond.methodLink RX9 172 yX9_areColours, Cond.static yX9_areColours, Cond.initialized RX9, Cond.code yX9_areColours cX9_areColours 1 (some .boolean), Cond.methodLink RX9 175 yX4_allBits, Cond.instanceMethod yX4_allBits, Cond.selects RX4 yX4_allBits yX4_allBits, Cond.code yX4_allBits cX4_allBits 1 (some .int), Cond.methodLink RX9 161 yX9_isWithin, Cond.static yX9_isWithin, Cond.code yX9_isWithin cX9_isWithin 2 (some .boolean), Cond.methodLink RX9 178 yX8_coloursOf, Cond.instanceMethod yX8_coloursOf, Cond.selects RX8 yX8_coloursOf yX8_coloursOf, Cond.initialized RX8, Cond.code yX8_coloursOf cX8_coloursOf 4 (some .int)]
def wsX9_ran_r2 : List Cond := [Cond.fieldLink RX8 28 "FlagWash$Wash" "plan" "LFlagWash$Plan;", Cond.fieldLink RX8 42 "FlagWash$Plan" "flags" "I", Cond.fieldLink RX8 18 "FlagWash$Wash" "colours" "[I", Cond.methodLink RX9 169 yX9_isFewer, Cond.static yX9_isFewer, Cond.code yX9_isFewer cX9_isFewer 2 (some .boolean), Cond.methodLink RX9 255 yJ6_bitCount_0f7a4, Cond.static yJ6_bitCount_0f7a4, Cond.initialized RJ6, Cond.code yJ6_bitCount_0f7a4 cJ6_bitCount_0f7a4 1 (some .int), Cond.constant RJ6 265 (1431655765), Cond.constant RJ6 266 (858993459), Cond.constant RJ6 267 (252645135)]
def wsX9_ran : List Cond := .code yX9_ran cX9_ran 7 (some .int) :: ((wsX9_ran_r1 ++ wsX9_ran_r2) ++ wsX90 ++ wsX40 ++ wsX80)
def wsX9_withoutLastFigures : List Cond := .code yX9_withoutLastFigures cX9_withoutLastFigures 4 (some .int) :: ([])
def wsX9_judge_r1 : List Cond := [Cond.fieldLink RX9 40 "FlagWash" "trial" "LFlagWash$Wash;", Cond.fieldLink RX9 36 "FlagWash" "now" "LFlagWash$Wash;", Cond.methodLink RX9 181 yX9_withoutLastFigures, Cond.static yX9_withoutLastFigures, Cond.initialized RX9, Cond.code yX9_withoutLastFigures cX9_withoutLastFigures 4 (some .int), Cond.methodLink RX9 185 yX8_copyFrom, Cond.instanceMethod yX8_copyFrom, Cond.selects RX8 yX8_copyFrom yX8_copyFrom, Cond.initialized RX8, Cond.code yX8_copyFrom cX8_copyFrom 2 none, Cond.fieldLink RX8 9 "FlagWash$Wash" "where" "[I", Cond.methodLink RX8 36 arraycopyName, Cond.native arraycopyName, Cond.static arraycopyName, Cond.initialized "java/lang/System", Cond.fieldLink RX8 15 "FlagWash$Wash" "left" "[I", Cond.fieldLink RX8 18 "FlagWash$Wash" "colours" "[I", Cond.fieldLink RX8 21 "FlagWash$Wash" "wind" "I", Cond.fieldLink RX8 25 "FlagWash$Wash" "hour" "I", Cond.methodLink RX9 187 yX8_doFigure, Cond.instanceMethod yX8_doFigure, Cond.selects RX8 yX8_doFigure yX8_doFigure, Cond.code yX8_doFigure cX8_doFigure 3 (some .boolean)]
def wsX9_judge_r2 : List Cond := [Cond.methodLink RX8 105 yX8_passHour, Cond.instanceMethod yX8_passHour, Cond.selects RX8 yX8_passHour yX8_passHour, Cond.code yX8_passHour cX8_passHour 2 (some .int), Cond.methodLink RX8 77 yX8_dryOnLine, Cond.instanceMethod yX8_dryOnLine, Cond.selects RX8 yX8_dryOnLine yX8_dryOnLine, Cond.code yX8_dryOnLine cX8_dryOnLine 3 (some .int), Cond.fieldLink RX8 28 "FlagWash$Wash" "plan" "LFlagWash$Plan;", Cond.fieldLink RX8 42 "FlagWash$Plan" "flags" "I", Cond.methodLink RX8 89 yX8_bringHome, Cond.instanceMethod yX8_bringHome, Cond.selects RX8 yX8_bringHome yX8_bringHome, Cond.code yX8_bringHome cX8_bringHome 2 none, Cond.methodLink RX8 67 yX4_has, Cond.instanceMethod yX4_has, Cond.selects RX4 yX4_has yX4_has, Cond.initialized RX4, Cond.code yX4_has cX4_has 2 (some .boolean), Cond.fieldLink RX4 21 "FlagWash$Plan" "flags" "I", Cond.methodLink RX8 80 yX8_runInTubs, Cond.instanceMethod yX8_runInTubs, Cond.selects RX8 yX8_runInTubs yX8_runInTubs, Cond.code yX8_runInTubs cX8_runInTubs 3 none]
def wsX9_judge_r3 : List Cond := [Cond.fieldLink RX8 93 "FlagWash$Plan" "cloth" "[I", Cond.methodLink RX8 83 yX8_washInTubs, Cond.instanceMethod yX8_washInTubs, Cond.selects RX8 yX8_washInTubs yX8_washInTubs, Cond.code yX8_washInTubs cX8_washInTubs 2 none, Cond.methodLink RX8 86 yX8_hangUp, Cond.instanceMethod yX8_hangUp, Cond.selects RX8 yX8_hangUp yX8_hangUp, Cond.code yX8_hangUp cX8_hangUp 2 none, Cond.methodLink RX8 96 yX8_freePegs, Cond.instanceMethod yX8_freePegs, Cond.selects RX8 yX8_freePegs yX8_freePegs, Cond.code yX8_freePegs cX8_freePegs 1 (some .int), Cond.fieldLink RX8 57 "FlagWash$Plan" "pegs" "I", Cond.methodLink RX8 45 yX8_bitsAt, Cond.instanceMethod yX8_bitsAt, Cond.selects RX8 yX8_bitsAt yX8_bitsAt, Cond.code yX8_bitsAt cX8_bitsAt 4 (some .int), Cond.methodLink RX8 52 yJ6_bitCount_0f7a4, Cond.static yJ6_bitCount_0f7a4, Cond.initialized RJ6, Cond.code yJ6_bitCount_0f7a4 cJ6_bitCount_0f7a4 1 (some .int), Cond.constant RJ6 265 (1431655765), Cond.constant RJ6 266 (858993459)]
def wsX9_judge_r4 : List Cond := [Cond.constant RJ6 267 (252645135), Cond.methodLink RX8 99 yX8_wetOf, Cond.static yX8_wetOf, Cond.code yX8_wetOf cX8_wetOf 1 (some .int), Cond.fieldLink RX8 102 "FlagWash$Wash" "WET" "[I", Cond.methodLink RX8 108 yX8_sendIfItCan, Cond.instanceMethod yX8_sendIfItCan, Cond.selects RX8 yX8_sendIfItCan yX8_sendIfItCan, Cond.code yX8_sendIfItCan cX8_sendIfItCan 3 (some .boolean), Cond.methodLink RX8 114 yX8_canBeSent, Cond.instanceMethod yX8_canBeSent, Cond.selects RX8 yX8_canBeSent yX8_canBeSent, Cond.code yX8_canBeSent cX8_canBeSent 2 (some .boolean), Cond.methodLink RX8 71 yX8_freeTubs, Cond.instanceMethod yX8_freeTubs, Cond.selects RX8 yX8_freeTubs yX8_freeTubs, Cond.code yX8_freeTubs cX8_freeTubs 1 (some .int), Cond.fieldLink RX8 49 "FlagWash$Plan" "tubs" "I", Cond.methodLink RX8 117 yX8_putInTub, Cond.instanceMethod yX8_putInTub, Cond.selects RX8 yX8_putInTub yX8_putInTub, Cond.code yX8_putInTub cX8_putInTub 2 none, Cond.fieldLink RX8 74 "FlagWash$Plan" "hours" "[I", Cond.methodLink RX8 111 yX8_canBePulled]
def wsX9_judge_r5 : List Cond := [Cond.instanceMethod yX8_canBePulled, Cond.selects RX8 yX8_canBePulled yX8_canBePulled, Cond.code yX8_canBePulled cX8_canBePulled 2 (some .boolean)]
def wsX9_judge : List Cond := .code yX9_judge cX9_judge 5 (some .int) :: ((wsX9_judge_r1 ++ (wsX9_judge_r2 ++ (wsX9_judge_r3 ++ (wsX9_judge_r4 ++ wsX9_judge_r5)))) ++ wsX90 ++ wsX80 ++ wsX40)
def wsX9_see_r1 : List Cond := [Cond.fieldLink RX9 27 "FlagWash" "plan" "LFlagWash$Plan;", Cond.fieldLink RX9 62 "FlagWash" "sightings" "LFlagWash$Sightings;", Cond.fieldLink RX9 194 "FlagWash$Sightings" "size" "I", Cond.methodLink RX9 95 yX4_has, Cond.instanceMethod yX4_has, Cond.selects RX4 yX4_has yX4_has, Cond.initialized RX4, Cond.code yX4_has cX4_has 2 (some .boolean), Cond.fieldLink RX4 21 "FlagWash$Plan" "flags" "I", Cond.methodLink RX9 172 yX9_areColours, Cond.static yX9_areColours, Cond.initialized RX9, Cond.code yX9_areColours cX9_areColours 1 (some .boolean), Cond.methodLink RX9 161 yX9_isWithin, Cond.static yX9_isWithin, Cond.code yX9_isWithin cX9_isWithin 2 (some .boolean), Cond.methodLink RX9 190 yX7_add, Cond.instanceMethod yX7_add, Cond.selects RX7 yX7_add yX7_add, Cond.initialized RX7, Cond.code yX7_add cX7_add 4 (some .boolean), Cond.fieldLink RX7 21 "FlagWash$Sightings" "size" "I", Cond.fieldLink RX7 9 "FlagWash$Sightings" "flag" "[I", Cond.fieldLink RX7 15 "FlagWash$Sightings" "colours" "[I"]
def wsX9_see_r2 : List Cond := [Cond.fieldLink RX7 18 "FlagWash$Sightings" "with" "[I"]
def wsX9_see : List Cond := .code yX9_see cX9_see 4 (some .int) :: ((wsX9_see_r1 ++ wsX9_see_r2) ++ wsX90 ++ wsX70 ++ wsX40)
def wsX9_unsee : List Cond := .code yX9_unsee cX9_unsee 2 (some .int) :: ([.fieldLink RX9 62 "FlagWash" "sightings" "LFlagWash$Sightings;", .fieldLink RX9 194 "FlagWash$Sightings" "size" "I", .methodLink RX9 195 yX7_forgetAll, .instanceMethod yX7_forgetAll, .selects RX7 yX7_forgetAll yX7_forgetAll, .initialized RX7, .code yX7_forgetAll cX7_forgetAll 1 none, .fieldLink RX7 21 "FlagWash$Sightings" "size" "I"] ++ wsX90 ++ wsX70)
def wsX9_had_r1 : List Cond := [Cond.fieldLink RX9 27 "FlagWash" "plan" "LFlagWash$Plan;", Cond.fieldLink RX9 62 "FlagWash" "sightings" "LFlagWash$Sightings;", Cond.fieldLink RX9 36 "FlagWash" "now" "LFlagWash$Wash;", Cond.methodLink RX9 95 yX4_has, Cond.instanceMethod yX4_has, Cond.selects RX4 yX4_has yX4_has, Cond.initialized RX4, Cond.code yX4_has cX4_has 2 (some .boolean), Cond.fieldLink RX4 21 "FlagWash$Plan" "flags" "I", Cond.methodLink RX9 196 yX7_howManySets, Cond.instanceMethod yX7_howManySets, Cond.selects RX7 yX7_howManySets yX7_howManySets, Cond.initialized RX7, Cond.code yX7_howManySets cX7_howManySets 5 (some .int), Cond.methodLink RX7 25 yX7_fitsAll, Cond.instanceMethod yX7_fitsAll, Cond.selects RX7 yX7_fitsAll yX7_fitsAll, Cond.code yX7_fitsAll cX7_fitsAll 6 (some .boolean), Cond.fieldLink RX7 21 "FlagWash$Sightings" "size" "I", Cond.fieldLink RX7 9 "FlagWash$Sightings" "flag" "[I", Cond.fieldLink RX7 18 "FlagWash$Sightings" "with" "[I", Cond.fieldLink RX7 29 "FlagWash$Wash" "plan" "LFlagWash$Plan;", Cond.fieldLink RX7 15 "FlagWash$Sightings" "colours" "[I", Cond.methodLink RX7 35 yX4_allBits]
def wsX9_had_r2 : List Cond := [Cond.instanceMethod yX4_allBits, Cond.selects RX4 yX4_allBits yX4_allBits, Cond.code yX4_allBits cX4_allBits 1 (some .int), Cond.static yX9_isWithin, Cond.initialized RX9, Cond.code yX9_isWithin cX9_isWithin 2 (some .boolean), Cond.methodLink RX7 45 yX8_coloursOf, Cond.instanceMethod yX8_coloursOf, Cond.selects RX8 yX8_coloursOf yX8_coloursOf, Cond.initialized RX8, Cond.code yX8_coloursOf cX8_coloursOf 4 (some .int), Cond.fieldLink RX8 28 "FlagWash$Wash" "plan" "LFlagWash$Plan;", Cond.fieldLink RX8 42 "FlagWash$Plan" "flags" "I", Cond.fieldLink RX8 18 "FlagWash$Wash" "colours" "[I", Cond.methodLink RX9 200 yX7_coloursInAll, Cond.instanceMethod yX7_coloursInAll, Cond.selects RX7 yX7_coloursInAll yX7_coloursInAll, Cond.code yX7_coloursInAll cX7_coloursInAll 5 (some .int), Cond.methodLink RX9 203 yX7_coloursInNone, Cond.instanceMethod yX7_coloursInNone, Cond.selects RX7 yX7_coloursInNone yX7_coloursInNone, Cond.code yX7_coloursInNone cX7_coloursInNone 5 (some .int)]
def wsX9_had : List Cond := .code yX9_had cX9_had 3 (some .int) :: ((wsX9_had_r1 ++ wsX9_had_r2) ++ wsX90 ++ wsX40 ++ wsX70 ++ wsX80)
def wsX9_greatestCommon : List Cond := .code yX9_greatestCommon cX9_greatestCommon 6 (some .int) :: ([])
def wsX9_toldFraction : List Cond := .code yX9_toldFraction cX9_toldFraction 4 (some .int) :: ([.methodLink RX9 260 yX9_greatestCommon, .static yX9_greatestCommon, .initialized RX9, .code yX9_greatestCommon cX9_greatestCommon 6 (some .int)])
def wsX9_share_r1 : List Cond := [Cond.fieldLink RX9 27 "FlagWash" "plan" "LFlagWash$Plan;", Cond.fieldLink RX9 92 "FlagWash$Plan" "flags" "I", Cond.methodLink RX9 95 yX4_has, Cond.instanceMethod yX4_has, Cond.selects RX4 yX4_has yX4_has, Cond.initialized RX4, Cond.code yX4_has cX4_has 2 (some .boolean), Cond.fieldLink RX4 21 "FlagWash$Plan" "flags" "I", Cond.methodLink RX9 206 yX6_gainInAllOrders, Cond.static yX6_gainInAllOrders, Cond.initialized RX6, Cond.code yX6_gainInAllOrders cX6_gainInAllOrders 6 (some .int), Cond.fieldLink RX6 38 "FlagWash$Plan" "flags" "I", Cond.methodLink RX6 15 yX4_allBits, Cond.instanceMethod yX4_allBits, Cond.selects RX4 yX4_allBits yX4_allBits, Cond.code yX4_allBits cX4_allBits 1 (some .int), Cond.static yX9_isWithin, Cond.initialized RX9, Cond.code yX9_isWithin cX9_isWithin 2 (some .boolean), Cond.methodLink RX6 25 yJ6_bitCount_0f7a4, Cond.static yJ6_bitCount_0f7a4, Cond.initialized RJ6, Cond.code yJ6_bitCount_0f7a4 cJ6_bitCount_0f7a4 1 (some .int)]
def wsX9_share_r2 : List Cond := [Cond.constant RJ6 265 (1431655765), Cond.constant RJ6 266 (858993459), Cond.constant RJ6 267 (252645135), Cond.methodLink RX6 31 yX6_inPeace, Cond.static yX6_inPeace, Cond.code yX6_inPeace cX6_inPeace 5 (some .int), Cond.fieldLink RX6 42 "FlagWash$Plan" "hostile" "[I", Cond.methodLink RX6 35 yX6_orders, Cond.static yX6_orders, Cond.code yX6_orders cX6_orders 1 (some .int), Cond.fieldLink RX6 9 "FlagWash$Shares" "ORDERS" "[I", Cond.methodLink RX9 212 yX6_orders, Cond.methodLink RX9 215 yX9_toldFraction, Cond.static yX9_toldFraction, Cond.code yX9_toldFraction cX9_toldFraction 4 (some .int), Cond.methodLink RX9 260 yX9_greatestCommon, Cond.static yX9_greatestCommon, Cond.code yX9_greatestCommon cX9_greatestCommon 6 (some .int)]
def wsX9_share : List Cond := .code yX9_share cX9_share 3 (some .int) :: ((wsX9_share_r1 ++ wsX9_share_r2) ++ wsX90 ++ wsX40)
def wsX9_rests_r1 : List Cond := [Cond.fieldLink RX9 27 "FlagWash" "plan" "LFlagWash$Plan;", Cond.methodLink RX9 95 yX4_has, Cond.instanceMethod yX4_has, Cond.selects RX4 yX4_has yX4_has, Cond.initialized RX4, Cond.code yX4_has cX4_has 2 (some .boolean), Cond.fieldLink RX4 21 "FlagWash$Plan" "flags" "I", Cond.methodLink RX9 219 yX3_howManyRests, Cond.static yX3_howManyRests, Cond.initialized RX3, Cond.code yX3_howManyRests cX3_howManyRests 6 (some .int), Cond.methodLink RX3 11 yX3_isRest, Cond.static yX3_isRest, Cond.code yX3_isRest cX3_isRest 5 (some .boolean), Cond.methodLink RX3 15 yX3_gain, Cond.static yX3_gain, Cond.code yX3_gain cX3_gain 5 (some .int), Cond.fieldLink RX3 25 "FlagWash$Plan" "hours" "[I", Cond.methodLink RX3 19 yX4_has, Cond.methodLink RX3 29 yX4_areHostile, Cond.instanceMethod yX4_areHostile, Cond.selects RX4 yX4_areHostile yX4_areHostile, Cond.code yX4_areHostile cX4_areHostile 3 (some .boolean), Cond.fieldLink RX4 34 "FlagWash$Plan" "hostile" "[I"]
def wsX9_rests_r2 : List Cond := [Cond.methodLink RX4 43 yX4_has, Cond.methodLink RX9 225 yX3_firstRest, Cond.static yX3_firstRest, Cond.code yX3_firstRest cX3_firstRest 5 (some .int)]
def wsX9_rests : List Cond := .code yX9_rests cX9_rests 4 (some .int) :: ((wsX9_rests_r1 ++ wsX9_rests_r2) ++ wsX90 ++ wsX40)
def wsX9_dry_r1 : List Cond := [Cond.fieldLink RX9 27 "FlagWash" "plan" "LFlagWash$Plan;", Cond.fieldLink RX9 36 "FlagWash" "now" "LFlagWash$Wash;", Cond.fieldLink RX9 108 "FlagWash$Wash" "where" "[I", Cond.fieldLink RX9 111 "FlagWash$Wash" "left" "[I", Cond.methodLink RX9 95 yX4_has, Cond.instanceMethod yX4_has, Cond.selects RX4 yX4_has yX4_has, Cond.initialized RX4, Cond.code yX4_has cX4_has 2 (some .boolean), Cond.fieldLink RX4 21 "FlagWash$Plan" "flags" "I", Cond.methodLink RX9 228 yX1_waysToDry, Cond.static yX1_waysToDry, Cond.initialized RX1, Cond.code yX1_waysToDry cX1_waysToDry 5 (some .int), Cond.methodLink RX1 7 yX1_choices, Cond.static yX1_choices, Cond.code yX1_choices cX1_choices 4 (some .int), Cond.methodLink RX1 13 yX1_power, Cond.static yX1_power, Cond.code yX1_power cX1_power 4 (some .int), Cond.methodLink RX9 234 yX1_power, Cond.methodLink RX9 215 yX9_toldFraction, Cond.static yX9_toldFraction, Cond.initialized RX9]
def wsX9_dry_r2 : List Cond := [Cond.code yX9_toldFraction cX9_toldFraction 4 (some .int), Cond.methodLink RX9 260 yX9_greatestCommon, Cond.static yX9_greatestCommon, Cond.code yX9_greatestCommon cX9_greatestCommon 6 (some .int)]
def wsX9_dry : List Cond := .code yX9_dry cX9_dry 5 (some .int) :: ((wsX9_dry_r1 ++ wsX9_dry_r2) ++ wsX90 ++ wsX80 ++ wsX40)
def wsX9_seed : List Cond := .code yX9_seed cX9_seed 5 (some .long) :: ([.fieldLink RX9 74 "FlagWash" "seedNow" "J"] ++ wsX90)
def wsX9_weeks_r1 : List Cond := [Cond.fieldLink RX9 40 "FlagWash" "trial" "LFlagWash$Wash;", Cond.fieldLink RX9 36 "FlagWash" "now" "LFlagWash$Wash;", Cond.fieldLink RX9 74 "FlagWash" "seedNow" "J", Cond.constantLong RX9 237 (6364136223846793005), Cond.constantLong RX9 239 (1442695040888963407), Cond.constantLong RX9 241 (10), Cond.methodLink RX9 185 yX8_copyFrom, Cond.instanceMethod yX8_copyFrom, Cond.selects RX8 yX8_copyFrom yX8_copyFrom, Cond.initialized RX8, Cond.code yX8_copyFrom cX8_copyFrom 2 none, Cond.fieldLink RX8 9 "FlagWash$Wash" "where" "[I", Cond.methodLink RX8 36 arraycopyName, Cond.native arraycopyName, Cond.static arraycopyName, Cond.initialized "java/lang/System", Cond.fieldLink RX8 15 "FlagWash$Wash" "left" "[I", Cond.fieldLink RX8 18 "FlagWash$Wash" "colours" "[I", Cond.fieldLink RX8 21 "FlagWash$Wash" "wind" "I", Cond.fieldLink RX8 25 "FlagWash$Wash" "hour" "I", Cond.methodLink RX9 243 yX8_doByChance, Cond.instanceMethod yX8_doByChance, Cond.selects RX8 yX8_doByChance yX8_doByChance, Cond.code yX8_doByChance cX8_doByChance 2 none]
def wsX9_weeks_r2 : List Cond := [Cond.methodLink RX8 108 yX8_sendIfItCan, Cond.instanceMethod yX8_sendIfItCan, Cond.selects RX8 yX8_sendIfItCan yX8_sendIfItCan, Cond.code yX8_sendIfItCan cX8_sendIfItCan 3 (some .boolean), Cond.methodLink RX8 114 yX8_canBeSent, Cond.instanceMethod yX8_canBeSent, Cond.selects RX8 yX8_canBeSent yX8_canBeSent, Cond.code yX8_canBeSent cX8_canBeSent 2 (some .boolean), Cond.fieldLink RX8 28 "FlagWash$Wash" "plan" "LFlagWash$Plan;", Cond.methodLink RX8 67 yX4_has, Cond.instanceMethod yX4_has, Cond.selects RX4 yX4_has yX4_has, Cond.initialized RX4, Cond.code yX4_has cX4_has 2 (some .boolean), Cond.fieldLink RX4 21 "FlagWash$Plan" "flags" "I", Cond.methodLink RX8 71 yX8_freeTubs, Cond.instanceMethod yX8_freeTubs, Cond.selects RX8 yX8_freeTubs yX8_freeTubs, Cond.code yX8_freeTubs cX8_freeTubs 1 (some .int), Cond.fieldLink RX8 49 "FlagWash$Plan" "tubs" "I", Cond.methodLink RX8 45 yX8_bitsAt, Cond.instanceMethod yX8_bitsAt, Cond.selects RX8 yX8_bitsAt yX8_bitsAt, Cond.code yX8_bitsAt cX8_bitsAt 4 (some .int)]
def wsX9_weeks_r3 : List Cond := [Cond.fieldLink RX8 42 "FlagWash$Plan" "flags" "I", Cond.methodLink RX8 52 yJ6_bitCount_0f7a4, Cond.static yJ6_bitCount_0f7a4, Cond.initialized RJ6, Cond.code yJ6_bitCount_0f7a4 cJ6_bitCount_0f7a4 1 (some .int), Cond.constant RJ6 265 (1431655765), Cond.constant RJ6 266 (858993459), Cond.constant RJ6 267 (252645135), Cond.methodLink RX8 117 yX8_putInTub, Cond.instanceMethod yX8_putInTub, Cond.selects RX8 yX8_putInTub yX8_putInTub, Cond.code yX8_putInTub cX8_putInTub 2 none, Cond.fieldLink RX8 74 "FlagWash$Plan" "hours" "[I", Cond.methodLink RX8 105 yX8_passHour, Cond.instanceMethod yX8_passHour, Cond.selects RX8 yX8_passHour yX8_passHour, Cond.code yX8_passHour cX8_passHour 2 (some .int), Cond.methodLink RX8 77 yX8_dryOnLine, Cond.instanceMethod yX8_dryOnLine, Cond.selects RX8 yX8_dryOnLine yX8_dryOnLine, Cond.code yX8_dryOnLine cX8_dryOnLine 3 (some .int), Cond.methodLink RX8 89 yX8_bringHome, Cond.instanceMethod yX8_bringHome, Cond.selects RX8 yX8_bringHome yX8_bringHome]
def wsX9_weeks_r4 : List Cond := [Cond.code yX8_bringHome cX8_bringHome 2 none, Cond.methodLink RX8 80 yX8_runInTubs, Cond.instanceMethod yX8_runInTubs, Cond.selects RX8 yX8_runInTubs yX8_runInTubs, Cond.code yX8_runInTubs cX8_runInTubs 3 none, Cond.fieldLink RX8 93 "FlagWash$Plan" "cloth" "[I", Cond.methodLink RX8 83 yX8_washInTubs, Cond.instanceMethod yX8_washInTubs, Cond.selects RX8 yX8_washInTubs yX8_washInTubs, Cond.code yX8_washInTubs cX8_washInTubs 2 none, Cond.methodLink RX8 86 yX8_hangUp, Cond.instanceMethod yX8_hangUp, Cond.selects RX8 yX8_hangUp yX8_hangUp, Cond.code yX8_hangUp cX8_hangUp 2 none, Cond.methodLink RX8 96 yX8_freePegs, Cond.instanceMethod yX8_freePegs, Cond.selects RX8 yX8_freePegs yX8_freePegs, Cond.code yX8_freePegs cX8_freePegs 1 (some .int), Cond.fieldLink RX8 57 "FlagWash$Plan" "pegs" "I", Cond.methodLink RX8 99 yX8_wetOf, Cond.static yX8_wetOf, Cond.code yX8_wetOf cX8_wetOf 1 (some .int), Cond.fieldLink RX8 102 "FlagWash$Wash" "WET" "[I", Cond.methodLink RX9 246 yX8_pairsThatMayFight]
def wsX9_weeks_r5 : List Cond := [Cond.instanceMethod yX8_pairsThatMayFight, Cond.selects RX8 yX8_pairsThatMayFight yX8_pairsThatMayFight, Cond.code yX8_pairsThatMayFight cX8_pairsThatMayFight 1 (some .int), Cond.methodLink RX8 60 yX8_homeBits, Cond.instanceMethod yX8_homeBits, Cond.selects RX8 yX8_homeBits yX8_homeBits, Cond.code yX8_homeBits cX8_homeBits 1 (some .int), Cond.methodLink RX8 64 yX4_hostilePairs, Cond.instanceMethod yX4_hostilePairs, Cond.selects RX4 yX4_hostilePairs yX4_hostilePairs, Cond.code yX4_hostilePairs cX4_hostilePairs 4 (some .int), Cond.fieldLink RX4 34 "FlagWash$Plan" "hostile" "[I", Cond.methodLink RX4 55 yJ6_bitCount_0f7a4]
def wsX9_weeks : List Cond := .code yX9_weeks cX9_weeks 4 (some .int) :: ((wsX9_weeks_r1 ++ (wsX9_weeks_r2 ++ (wsX9_weeks_r3 ++ (wsX9_weeks_r4 ++ wsX9_weeks_r5)))) ++ wsX90 ++ wsX80 ++ wsX40)
def wsX9_keep : List Cond := .code yX9_keep cX9_keep 2 (some .int) :: ([.fieldLink RX9 66 "FlagWash" "slots" "[LFlagWash$Wash;", .fieldLink RX9 36 "FlagWash" "now" "LFlagWash$Wash;", .fieldLink RX9 70 "FlagWash" "kept" "[Z", .fieldLink RX9 249 "FlagWash$Wash" "hour" "I", .methodLink RX9 185 yX8_copyFrom, .instanceMethod yX8_copyFrom, .selects RX8 yX8_copyFrom yX8_copyFrom, .initialized RX8, .code yX8_copyFrom cX8_copyFrom 2 none, .fieldLink RX8 9 "FlagWash$Wash" "where" "[I", .methodLink RX8 36 arraycopyName, .native arraycopyName, .static arraycopyName, .initialized "java/lang/System", .fieldLink RX8 15 "FlagWash$Wash" "left" "[I", .fieldLink RX8 18 "FlagWash$Wash" "colours" "[I", .fieldLink RX8 21 "FlagWash$Wash" "wind" "I", .fieldLink RX8 25 "FlagWash$Wash" "hour" "I"] ++ wsX90 ++ wsX80)
def wsX9_again_r1 : List Cond := [Cond.fieldLink RX9 70 "FlagWash" "kept" "[Z", Cond.fieldLink RX9 36 "FlagWash" "now" "LFlagWash$Wash;", Cond.fieldLink RX9 66 "FlagWash" "slots" "[LFlagWash$Wash;", Cond.fieldLink RX9 55 "FlagWash" "acts" "LFlagWash$Acts;", Cond.fieldLink RX9 249 "FlagWash$Wash" "hour" "I", Cond.methodLink RX9 185 yX8_copyFrom, Cond.instanceMethod yX8_copyFrom, Cond.selects RX8 yX8_copyFrom yX8_copyFrom, Cond.initialized RX8, Cond.code yX8_copyFrom cX8_copyFrom 2 none, Cond.fieldLink RX8 9 "FlagWash$Wash" "where" "[I", Cond.methodLink RX8 36 arraycopyName, Cond.native arraycopyName, Cond.static arraycopyName, Cond.initialized "java/lang/System", Cond.fieldLink RX8 15 "FlagWash$Wash" "left" "[I", Cond.fieldLink RX8 18 "FlagWash$Wash" "colours" "[I", Cond.fieldLink RX8 21 "FlagWash$Wash" "wind" "I", Cond.fieldLink RX8 25 "FlagWash$Wash" "hour" "I", Cond.methodLink RX9 89 yX0_forgetAll, Cond.instanceMethod yX0_forgetAll, Cond.selects RX0 yX0_forgetAll yX0_forgetAll, Cond.initialized RX0, Cond.code yX0_forgetAll cX0_forgetAll 1 none]
def wsX9_again_r2 : List Cond := [Cond.fieldLink RX0 17 "FlagWash$Acts" "first" "I", Cond.fieldLink RX0 21 "FlagWash$Acts" "size" "I"]
def wsX9_again : List Cond := .code yX9_again cX9_again 2 (some .int) :: ((wsX9_again_r1 ++ wsX9_again_r2) ++ wsX90 ++ wsX80 ++ wsX00)
def wsX9_count_r1 : List Cond := [Cond.fieldLink RX9 13 "FlagWash" "length" "I", Cond.fieldLink RX9 27 "FlagWash" "plan" "LFlagWash$Plan;", Cond.fieldLink RX9 92 "FlagWash$Plan" "flags" "I", Cond.fieldLink RX9 36 "FlagWash" "now" "LFlagWash$Wash;", Cond.fieldLink RX9 140 "FlagWash$Wash" "wind" "I", Cond.fieldLink RX9 249 "FlagWash$Wash" "hour" "I", Cond.fieldLink RX9 55 "FlagWash" "acts" "LFlagWash$Acts;", Cond.fieldLink RX9 147 "FlagWash$Acts" "size" "I", Cond.fieldLink RX9 62 "FlagWash" "sightings" "LFlagWash$Sightings;", Cond.fieldLink RX9 194 "FlagWash$Sightings" "size" "I", Cond.methodLink RX9 127 yX8_freeTubs, Cond.instanceMethod yX8_freeTubs, Cond.selects RX8 yX8_freeTubs yX8_freeTubs, Cond.initialized RX8, Cond.code yX8_freeTubs cX8_freeTubs 1 (some .int), Cond.fieldLink RX8 28 "FlagWash$Wash" "plan" "LFlagWash$Plan;", Cond.fieldLink RX8 49 "FlagWash$Plan" "tubs" "I", Cond.methodLink RX8 45 yX8_bitsAt, Cond.instanceMethod yX8_bitsAt, Cond.selects RX8 yX8_bitsAt yX8_bitsAt, Cond.code yX8_bitsAt cX8_bitsAt 4 (some .int), Cond.fieldLink RX8 42 "FlagWash$Plan" "flags" "I", Cond.fieldLink RX8 9 "FlagWash$Wash" "where" "[I", Cond.methodLink RX8 52 yJ6_bitCount_0f7a4]
def wsX9_count_r2 : List Cond := [Cond.static yJ6_bitCount_0f7a4, Cond.initialized RJ6, Cond.code yJ6_bitCount_0f7a4 cJ6_bitCount_0f7a4 1 (some .int), Cond.constant RJ6 265 (1431655765), Cond.constant RJ6 266 (858993459), Cond.constant RJ6 267 (252645135), Cond.methodLink RX9 252 yX8_freePegs, Cond.instanceMethod yX8_freePegs, Cond.selects RX8 yX8_freePegs yX8_freePegs, Cond.code yX8_freePegs cX8_freePegs 1 (some .int), Cond.fieldLink RX8 57 "FlagWash$Plan" "pegs" "I", Cond.methodLink RX9 158 yX8_homeBits, Cond.instanceMethod yX8_homeBits, Cond.selects RX8 yX8_homeBits yX8_homeBits, Cond.code yX8_homeBits cX8_homeBits 1 (some .int), Cond.methodLink RX9 246 yX8_pairsThatMayFight, Cond.instanceMethod yX8_pairsThatMayFight, Cond.selects RX8 yX8_pairsThatMayFight yX8_pairsThatMayFight, Cond.code yX8_pairsThatMayFight cX8_pairsThatMayFight 1 (some .int), Cond.methodLink RX8 60 yX8_homeBits, Cond.methodLink RX8 64 yX4_hostilePairs, Cond.instanceMethod yX4_hostilePairs, Cond.selects RX4 yX4_hostilePairs yX4_hostilePairs, Cond.initialized RX4]
def wsX9_count_r3 : List Cond := [Cond.code yX4_hostilePairs cX4_hostilePairs 4 (some .int), Cond.fieldLink RX4 21 "FlagWash$Plan" "flags" "I", Cond.fieldLink RX4 34 "FlagWash$Plan" "hostile" "[I", Cond.methodLink RX4 55 yJ6_bitCount_0f7a4]
def wsX9_count : List Cond := .code yX9_count cX9_count 2 (some .int) :: ((wsX9_count_r1 ++ (wsX9_count_r2 ++ wsX9_count_r3)) ++ wsX90 ++ wsX40 ++ wsX80 ++ wsX00 ++ wsX70)
def wsX10_init : List Cond := .code yX10_init cX10_init 1 none :: ([.methodLink RX10 1 objectInit, .instanceMethod objectInit, .code objectInit ⟨#[0xb1]⟩ 1 none, .arrayClass .int, .fieldLink RX10 7 "FlagWashModel" "cloth" "[I", .fieldLink RX10 13 "FlagWashModel" "washed" "[I", .fieldLink RX10 16 "FlagWashModel" "hostile" "[I", .fieldLink RX10 19 "FlagWashModel" "now" "[I", .fieldLink RX10 22 "FlagWashModel" "readOf" "[I", .fieldLink RX10 25 "FlagWashModel" "readHostile" "[I", .fieldLink RX10 28 "FlagWashModel" "text" "[I", .fieldLink RX10 31 "FlagWashModel" "row" "[I", .fieldLink RX10 34 "FlagWashModel" "seenOf" "[I", .fieldLink RX10 37 "FlagWashModel" "seenColours" "[I", .fieldLink RX10 40 "FlagWashModel" "seenWith" "[I", .arrayClass .boolean, .fieldLink RX10 43 "FlagWashModel" "isKept" "[Z", .fieldLink RX10 47 "FlagWashModel" "kept" "[I", .fieldLink RX10 50 "FlagWashModel" "tubs" "I", .fieldLink RX10 54 "FlagWashModel" "pegs" "I"] ++ wsX100)
def wsX10_in : List Cond := .code yX10_in cX10_in 6 (some .boolean) :: ([])
def wsX10_has : List Cond := .code yX10_has cX10_has 2 (some .boolean) :: ([])
def wsX10_ones : List Cond := .code yX10_ones cX10_ones 3 (some .int) :: ([])
def wsX10_write : List Cond := .code yX10_write cX10_write 2 (some .int) :: ([.constantLong RX10 57 (255), .fieldLink RX10 63 "FlagWashModel" "length" "I", .fieldLink RX10 28 "FlagWashModel" "text" "[I", .methodLink RX10 59 yX10_in, .static yX10_in, .initialized RX10, .code yX10_in cX10_in 6 (some .boolean)] ++ wsX100)
def wsX10_wipe : List Cond := .code yX10_wipe cX10_wipe 2 (some .int) :: ([.fieldLink RX10 63 "FlagWashModel" "length" "I"] ++ wsX100)
def wsX10_takeOf : List Cond := .code yX10_takeOf cX10_takeOf 4 (some .int) :: ([.fieldLink RX10 66 "FlagWashModel" "faultAt" "I", .fieldLink RX10 69 "FlagWashModel" "at" "I", .fieldLink RX10 63 "FlagWashModel" "length" "I", .fieldLink RX10 28 "FlagWashModel" "text" "[I", .constantLong RX10 72 (15), .methodLink RX10 59 yX10_in, .static yX10_in, .initialized RX10, .code yX10_in cX10_in 6 (some .boolean), .methodLink RX10 74 yX10_has, .static yX10_has, .code yX10_has cX10_has 2 (some .boolean)] ++ wsX100)
def wsX10_left : List Cond := .code yX10_left cX10_left 2 (some .int) :: ([.fieldLink RX10 78 "FlagWashModel" "readFlags" "I", .fieldLink RX10 25 "FlagWashModel" "readHostile" "[I"] ++ wsX100)
def wsX10_firstsLeft : List Cond := .code yX10_firstsLeft cX10_firstsLeft 3 (some .int) :: ([.fieldLink RX10 78 "FlagWashModel" "readFlags" "I", .methodLink RX10 81 yX10_left, .instanceMethod yX10_left, .selects RX10 yX10_left yX10_left, .initialized RX10, .code yX10_left cX10_left 2 (some .int), .fieldLink RX10 25 "FlagWashModel" "readHostile" "[I"] ++ wsX100)
def wsX10_readPart_r1 : List Cond := [Cond.fieldLink RX10 78 "FlagWashModel" "readFlags" "I", Cond.fieldLink RX10 69 "FlagWashModel" "at" "I", Cond.fieldLink RX10 22 "FlagWashModel" "readOf" "[I", Cond.constant RX10 93 (65535), Cond.fieldLink RX10 25 "FlagWashModel" "readHostile" "[I", Cond.fieldLink RX10 66 "FlagWashModel" "faultAt" "I", Cond.methodLink RX10 85 yX10_takeOf, Cond.instanceMethod yX10_takeOf, Cond.selects RX10 yX10_takeOf yX10_takeOf, Cond.initialized RX10, Cond.code yX10_takeOf cX10_takeOf 4 (some .int), Cond.fieldLink RX10 63 "FlagWashModel" "length" "I", Cond.fieldLink RX10 28 "FlagWashModel" "text" "[I", Cond.constantLong RX10 72 (15), Cond.methodLink RX10 59 yX10_in, Cond.static yX10_in, Cond.code yX10_in cX10_in 6 (some .boolean), Cond.methodLink RX10 74 yX10_has, Cond.static yX10_has, Cond.code yX10_has cX10_has 2 (some .boolean), Cond.methodLink RX10 94 yX10_firstsLeft, Cond.instanceMethod yX10_firstsLeft, Cond.selects RX10 yX10_firstsLeft yX10_firstsLeft, Cond.code yX10_firstsLeft cX10_firstsLeft 3 (some .int)]
def wsX10_readPart_r2 : List Cond := [Cond.methodLink RX10 81 yX10_left, Cond.instanceMethod yX10_left, Cond.selects RX10 yX10_left yX10_left, Cond.code yX10_left cX10_left 2 (some .int)]
def wsX10_readPart : List Cond := .code yX10_readPart cX10_readPart 4 none :: ((wsX10_readPart_r1 ++ wsX10_readPart_r2) ++ wsX100)
def wsX10_readText_r1 : List Cond := [Cond.fieldLink RX10 69 "FlagWashModel" "at" "I", Cond.fieldLink RX10 66 "FlagWashModel" "faultAt" "I", Cond.fieldLink RX10 78 "FlagWashModel" "readFlags" "I", Cond.fieldLink RX10 25 "FlagWashModel" "readHostile" "[I", Cond.fieldLink RX10 63 "FlagWashModel" "length" "I", Cond.fieldLink RX10 28 "FlagWashModel" "text" "[I", Cond.methodLink RX10 85 yX10_takeOf, Cond.instanceMethod yX10_takeOf, Cond.selects RX10 yX10_takeOf yX10_takeOf, Cond.initialized RX10, Cond.code yX10_takeOf cX10_takeOf 4 (some .int), Cond.constantLong RX10 72 (15), Cond.methodLink RX10 59 yX10_in, Cond.static yX10_in, Cond.code yX10_in cX10_in 6 (some .boolean), Cond.methodLink RX10 74 yX10_has, Cond.static yX10_has, Cond.code yX10_has cX10_has 2 (some .boolean), Cond.methodLink RX10 89 yX10_readPart, Cond.instanceMethod yX10_readPart, Cond.selects RX10 yX10_readPart yX10_readPart, Cond.code yX10_readPart cX10_readPart 4 none, Cond.fieldLink RX10 22 "FlagWashModel" "readOf" "[I", Cond.constant RX10 93 (65535)]
def wsX10_readText_r2 : List Cond := [Cond.methodLink RX10 94 yX10_firstsLeft, Cond.instanceMethod yX10_firstsLeft, Cond.selects RX10 yX10_firstsLeft yX10_firstsLeft, Cond.code yX10_firstsLeft cX10_firstsLeft 3 (some .int), Cond.methodLink RX10 81 yX10_left, Cond.instanceMethod yX10_left, Cond.selects RX10 yX10_left yX10_left, Cond.code yX10_left cX10_left 2 (some .int)]
def wsX10_readText : List Cond := .code yX10_readText cX10_readText 2 (some .int) :: ((wsX10_readText_r1 ++ wsX10_readText_r2) ++ wsX100)
def wsX10_fault_r1 : List Cond := [Cond.methodLink RX10 98 yX10_readText, Cond.instanceMethod yX10_readText, Cond.selects RX10 yX10_readText yX10_readText, Cond.initialized RX10, Cond.code yX10_readText cX10_readText 2 (some .int), Cond.fieldLink RX10 69 "FlagWashModel" "at" "I", Cond.fieldLink RX10 66 "FlagWashModel" "faultAt" "I", Cond.fieldLink RX10 78 "FlagWashModel" "readFlags" "I", Cond.fieldLink RX10 25 "FlagWashModel" "readHostile" "[I", Cond.fieldLink RX10 63 "FlagWashModel" "length" "I", Cond.fieldLink RX10 28 "FlagWashModel" "text" "[I", Cond.methodLink RX10 85 yX10_takeOf, Cond.instanceMethod yX10_takeOf, Cond.selects RX10 yX10_takeOf yX10_takeOf, Cond.code yX10_takeOf cX10_takeOf 4 (some .int), Cond.constantLong RX10 72 (15), Cond.methodLink RX10 59 yX10_in, Cond.static yX10_in, Cond.code yX10_in cX10_in 6 (some .boolean), Cond.methodLink RX10 74 yX10_has, Cond.static yX10_has, Cond.code yX10_has cX10_has 2 (some .boolean), Cond.methodLink RX10 89 yX10_readPart, Cond.instanceMethod yX10_readPart]
def wsX10_fault_r2 : List Cond := [Cond.selects RX10 yX10_readPart yX10_readPart, Cond.code yX10_readPart cX10_readPart 4 none, Cond.fieldLink RX10 22 "FlagWashModel" "readOf" "[I", Cond.constant RX10 93 (65535), Cond.methodLink RX10 94 yX10_firstsLeft, Cond.instanceMethod yX10_firstsLeft, Cond.selects RX10 yX10_firstsLeft yX10_firstsLeft, Cond.code yX10_firstsLeft cX10_firstsLeft 3 (some .int), Cond.methodLink RX10 81 yX10_left, Cond.instanceMethod yX10_left, Cond.selects RX10 yX10_left yX10_left, Cond.code yX10_left cX10_left 2 (some .int)]
def wsX10_fault : List Cond := .code yX10_fault cX10_fault 1 (some .int) :: ((wsX10_fault_r1 ++ wsX10_fault_r2) ++ wsX100)
def wsX10_laundry_r1 : List Cond := [Cond.fieldLink RX10 78 "FlagWashModel" "readFlags" "I", Cond.fieldLink RX10 101 "FlagWashModel" "flags" "I", Cond.fieldLink RX10 28 "FlagWashModel" "text" "[I", Cond.fieldLink RX10 50 "FlagWashModel" "tubs" "I", Cond.fieldLink RX10 54 "FlagWashModel" "pegs" "I", Cond.fieldLink RX10 19 "FlagWashModel" "now" "[I", Cond.fieldLink RX10 22 "FlagWashModel" "readOf" "[I", Cond.fieldLink RX10 7 "FlagWashModel" "cloth" "[I", Cond.fieldLink RX10 13 "FlagWashModel" "washed" "[I", Cond.fieldLink RX10 16 "FlagWashModel" "hostile" "[I", Cond.fieldLink RX10 25 "FlagWashModel" "readHostile" "[I", Cond.fieldLink RX10 104 "FlagWashModel" "acts" "I", Cond.fieldLink RX10 43 "FlagWashModel" "isKept" "[Z", Cond.methodLink RX10 98 yX10_readText, Cond.instanceMethod yX10_readText, Cond.selects RX10 yX10_readText yX10_readText, Cond.initialized RX10, Cond.code yX10_readText cX10_readText 2 (some .int), Cond.fieldLink RX10 69 "FlagWashModel" "at" "I", Cond.fieldLink RX10 66 "FlagWashModel" "faultAt" "I", Cond.fieldLink RX10 63 "FlagWashModel" "length" "I", Cond.methodLink RX10 85 yX10_takeOf, Cond.instanceMethod yX10_takeOf, Cond.selects RX10 yX10_takeOf yX10_takeOf]
def wsX10_laundry_r2 : List Cond := [Cond.code yX10_takeOf cX10_takeOf 4 (some .int), Cond.constantLong RX10 72 (15), Cond.methodLink RX10 59 yX10_in, Cond.static yX10_in, Cond.code yX10_in cX10_in 6 (some .boolean), Cond.methodLink RX10 74 yX10_has, Cond.static yX10_has, Cond.code yX10_has cX10_has 2 (some .boolean), Cond.methodLink RX10 89 yX10_readPart, Cond.instanceMethod yX10_readPart, Cond.selects RX10 yX10_readPart yX10_readPart, Cond.code yX10_readPart cX10_readPart 4 none, Cond.constant RX10 93 (65535), Cond.methodLink RX10 94 yX10_firstsLeft, Cond.instanceMethod yX10_firstsLeft, Cond.selects RX10 yX10_firstsLeft yX10_firstsLeft, Cond.code yX10_firstsLeft cX10_firstsLeft 3 (some .int), Cond.methodLink RX10 81 yX10_left, Cond.instanceMethod yX10_left, Cond.selects RX10 yX10_left yX10_left, Cond.code yX10_left cX10_left 2 (some .int)]
def wsX10_laundry : List Cond := .code yX10_laundry cX10_laundry 2 (some .int) :: ((wsX10_laundry_r1 ++ wsX10_laundry_r2) ++ wsX100)
def wsX10_isFlag : List Cond := .code yX10_isFlag cX10_isFlag 2 (some .boolean) :: ([.fieldLink RX10 101 "FlagWashModel" "flags" "I", .methodLink RX10 59 yX10_in, .static yX10_in, .initialized RX10, .code yX10_in cX10_in 6 (some .boolean)] ++ wsX100)
def wsX10_areIn : List Cond := .code yX10_areIn cX10_areIn 5 (some .int) :: ([.fieldLink RX10 101 "FlagWashModel" "flags" "I", .fieldLink RX10 19 "FlagWashModel" "now" "[I"] ++ wsX100)
def wsX10_free : List Cond := .code yX10_free cX10_free 3 (some .int) :: ([.fieldLink RX10 50 "FlagWashModel" "tubs" "I", .fieldLink RX10 54 "FlagWashModel" "pegs" "I", .methodLink RX10 107 yX10_areIn, .instanceMethod yX10_areIn, .selects RX10 yX10_areIn yX10_areIn, .initialized RX10, .code yX10_areIn cX10_areIn 5 (some .int), .fieldLink RX10 101 "FlagWashModel" "flags" "I", .fieldLink RX10 19 "FlagWashModel" "now" "[I", .methodLink RX10 110 yX10_ones, .static yX10_ones, .code yX10_ones cX10_ones 3 (some .int)] ++ wsX100)
def wsX10_fights : List Cond := .code yX10_fights cX10_fights 4 (some .int) :: ([.fieldLink RX10 101 "FlagWashModel" "flags" "I", .fieldLink RX10 16 "FlagWashModel" "hostile" "[I", .methodLink RX10 74 yX10_has, .static yX10_has, .initialized RX10, .code yX10_has cX10_has 2 (some .boolean), .methodLink RX10 110 yX10_ones, .static yX10_ones, .code yX10_ones cX10_ones 3 (some .int)] ++ wsX100)
def wsX10_wetOf : List Cond := .code yX10_wetOf cX10_wetOf 2 (some .int) :: ([.fieldLink RX10 7 "FlagWashModel" "cloth" "[I"] ++ wsX100)
def wsX10_coloursOf : List Cond := .code yX10_coloursOf cX10_coloursOf 5 (some .int) :: ([.fieldLink RX10 101 "FlagWashModel" "flags" "I", .fieldLink RX10 19 "FlagWashModel" "now" "[I", .methodLink RX10 74 yX10_has, .static yX10_has, .initialized RX10, .code yX10_has cX10_has 2 (some .boolean)] ++ wsX100)
def wsX10_hangOn : List Cond := .code yX10_hangOn cX10_hangOn 3 none :: ([.fieldLink RX10 19 "FlagWashModel" "now" "[I", .methodLink RX10 120 yX10_free, .instanceMethod yX10_free, .selects RX10 yX10_free yX10_free, .initialized RX10, .code yX10_free cX10_free 3 (some .int), .fieldLink RX10 50 "FlagWashModel" "tubs" "I", .fieldLink RX10 54 "FlagWashModel" "pegs" "I", .methodLink RX10 107 yX10_areIn, .instanceMethod yX10_areIn, .selects RX10 yX10_areIn yX10_areIn, .code yX10_areIn cX10_areIn 5 (some .int), .fieldLink RX10 101 "FlagWashModel" "flags" "I", .methodLink RX10 110 yX10_ones, .static yX10_ones, .code yX10_ones cX10_ones 3 (some .int), .methodLink RX10 123 yX10_wetOf, .instanceMethod yX10_wetOf, .selects RX10 yX10_wetOf yX10_wetOf, .code yX10_wetOf cX10_wetOf 2 (some .int), .fieldLink RX10 7 "FlagWashModel" "cloth" "[I"] ++ wsX100)
def wsX10_passOn_r1 : List Cond := [Cond.fieldLink RX10 101 "FlagWashModel" "flags" "I", Cond.fieldLink RX10 19 "FlagWashModel" "now" "[I", Cond.fieldLink RX10 7 "FlagWashModel" "cloth" "[I", Cond.methodLink RX10 107 yX10_areIn, Cond.instanceMethod yX10_areIn, Cond.selects RX10 yX10_areIn yX10_areIn, Cond.initialized RX10, Cond.code yX10_areIn cX10_areIn 5 (some .int), Cond.methodLink RX10 74 yX10_has, Cond.static yX10_has, Cond.code yX10_has cX10_has 2 (some .boolean), Cond.methodLink RX10 113 yX10_coloursOf, Cond.instanceMethod yX10_coloursOf, Cond.selects RX10 yX10_coloursOf yX10_coloursOf, Cond.code yX10_coloursOf cX10_coloursOf 5 (some .int), Cond.methodLink RX10 116 yX10_hangOn, Cond.instanceMethod yX10_hangOn, Cond.selects RX10 yX10_hangOn yX10_hangOn, Cond.code yX10_hangOn cX10_hangOn 3 none, Cond.methodLink RX10 120 yX10_free, Cond.instanceMethod yX10_free, Cond.selects RX10 yX10_free yX10_free, Cond.code yX10_free cX10_free 3 (some .int), Cond.fieldLink RX10 50 "FlagWashModel" "tubs" "I"]
def wsX10_passOn_r2 : List Cond := [Cond.fieldLink RX10 54 "FlagWashModel" "pegs" "I", Cond.methodLink RX10 110 yX10_ones, Cond.static yX10_ones, Cond.code yX10_ones cX10_ones 3 (some .int), Cond.methodLink RX10 123 yX10_wetOf, Cond.instanceMethod yX10_wetOf, Cond.selects RX10 yX10_wetOf yX10_wetOf, Cond.code yX10_wetOf cX10_wetOf 2 (some .int)]
def wsX10_passOn : List Cond := .code yX10_passOn cX10_passOn 8 (some .int) :: ((wsX10_passOn_r1 ++ wsX10_passOn_r2) ++ wsX100)
def wsX10_canSend : List Cond := .code yX10_canSend cX10_canSend 3 (some .boolean) :: ([.fieldLink RX10 19 "FlagWashModel" "now" "[I", .methodLink RX10 126 yX10_isFlag, .instanceMethod yX10_isFlag, .selects RX10 yX10_isFlag yX10_isFlag, .initialized RX10, .code yX10_isFlag cX10_isFlag 2 (some .boolean), .fieldLink RX10 101 "FlagWashModel" "flags" "I", .methodLink RX10 59 yX10_in, .static yX10_in, .code yX10_in cX10_in 6 (some .boolean), .methodLink RX10 120 yX10_free, .instanceMethod yX10_free, .selects RX10 yX10_free yX10_free, .code yX10_free cX10_free 3 (some .int), .fieldLink RX10 50 "FlagWashModel" "tubs" "I", .fieldLink RX10 54 "FlagWashModel" "pegs" "I", .methodLink RX10 107 yX10_areIn, .instanceMethod yX10_areIn, .selects RX10 yX10_areIn yX10_areIn, .code yX10_areIn cX10_areIn 5 (some .int), .methodLink RX10 110 yX10_ones, .static yX10_ones, .code yX10_ones cX10_ones 3 (some .int)] ++ wsX100)
def wsX10_sendOn : List Cond := .code yX10_sendOn cX10_sendOn 3 none :: ([.fieldLink RX10 19 "FlagWashModel" "now" "[I", .fieldLink RX10 13 "FlagWashModel" "washed" "[I"] ++ wsX100)
def wsX10_flag : List Cond := .code yX10_flag cX10_flag 3 (some .int) :: ([.fieldLink RX10 19 "FlagWashModel" "now" "[I", .fieldLink RX10 7 "FlagWashModel" "cloth" "[I", .fieldLink RX10 13 "FlagWashModel" "washed" "[I", .fieldLink RX10 16 "FlagWashModel" "hostile" "[I", .methodLink RX10 126 yX10_isFlag, .instanceMethod yX10_isFlag, .selects RX10 yX10_isFlag yX10_isFlag, .initialized RX10, .code yX10_isFlag cX10_isFlag 2 (some .boolean), .fieldLink RX10 101 "FlagWashModel" "flags" "I", .methodLink RX10 59 yX10_in, .static yX10_in, .code yX10_in cX10_in 6 (some .boolean)] ++ wsX100)
def wsX10_keepAct : List Cond := .code yX10_keepAct cX10_keepAct 2 none :: ([.fieldLink RX10 31 "FlagWashModel" "row" "[I", .fieldLink RX10 130 "FlagWashModel" "next" "I", .fieldLink RX10 19 "FlagWashModel" "now" "[I", .fieldLink RX10 104 "FlagWashModel" "acts" "I"] ++ wsX100)
def wsX10_send_r1 : List Cond := [Cond.methodLink RX10 126 yX10_isFlag, Cond.instanceMethod yX10_isFlag, Cond.selects RX10 yX10_isFlag yX10_isFlag, Cond.initialized RX10, Cond.code yX10_isFlag cX10_isFlag 2 (some .boolean), Cond.fieldLink RX10 101 "FlagWashModel" "flags" "I", Cond.methodLink RX10 59 yX10_in, Cond.static yX10_in, Cond.code yX10_in cX10_in 6 (some .boolean), Cond.methodLink RX10 133 yX10_canSend, Cond.instanceMethod yX10_canSend, Cond.selects RX10 yX10_canSend yX10_canSend, Cond.code yX10_canSend cX10_canSend 3 (some .boolean), Cond.fieldLink RX10 19 "FlagWashModel" "now" "[I", Cond.methodLink RX10 120 yX10_free, Cond.instanceMethod yX10_free, Cond.selects RX10 yX10_free yX10_free, Cond.code yX10_free cX10_free 3 (some .int), Cond.fieldLink RX10 50 "FlagWashModel" "tubs" "I", Cond.fieldLink RX10 54 "FlagWashModel" "pegs" "I", Cond.methodLink RX10 107 yX10_areIn, Cond.instanceMethod yX10_areIn, Cond.selects RX10 yX10_areIn yX10_areIn, Cond.code yX10_areIn cX10_areIn 5 (some .int)]
def wsX10_send_r2 : List Cond := [Cond.methodLink RX10 110 yX10_ones, Cond.static yX10_ones, Cond.code yX10_ones cX10_ones 3 (some .int), Cond.methodLink RX10 136 yX10_keepAct, Cond.instanceMethod yX10_keepAct, Cond.selects RX10 yX10_keepAct yX10_keepAct, Cond.code yX10_keepAct cX10_keepAct 2 none, Cond.fieldLink RX10 31 "FlagWashModel" "row" "[I", Cond.fieldLink RX10 130 "FlagWashModel" "next" "I", Cond.fieldLink RX10 104 "FlagWashModel" "acts" "I", Cond.methodLink RX10 139 yX10_sendOn, Cond.instanceMethod yX10_sendOn, Cond.selects RX10 yX10_sendOn yX10_sendOn, Cond.code yX10_sendOn cX10_sendOn 3 none, Cond.fieldLink RX10 13 "FlagWashModel" "washed" "[I"]
def wsX10_send : List Cond := .code yX10_send cX10_send 2 (some .int) :: ((wsX10_send_r1 ++ wsX10_send_r2) ++ wsX100)
def wsX10_pullOn : List Cond := .code yX10_pullOn cX10_pullOn 3 none :: ([.fieldLink RX10 19 "FlagWashModel" "now" "[I"] ++ wsX100)
def wsX10_pull : List Cond := .code yX10_pull cX10_pull 3 (some .int) :: ([.fieldLink RX10 19 "FlagWashModel" "now" "[I", .methodLink RX10 126 yX10_isFlag, .instanceMethod yX10_isFlag, .selects RX10 yX10_isFlag yX10_isFlag, .initialized RX10, .code yX10_isFlag cX10_isFlag 2 (some .boolean), .fieldLink RX10 101 "FlagWashModel" "flags" "I", .methodLink RX10 59 yX10_in, .static yX10_in, .code yX10_in cX10_in 6 (some .boolean), .methodLink RX10 136 yX10_keepAct, .instanceMethod yX10_keepAct, .selects RX10 yX10_keepAct yX10_keepAct, .code yX10_keepAct cX10_keepAct 2 none, .fieldLink RX10 31 "FlagWashModel" "row" "[I", .fieldLink RX10 130 "FlagWashModel" "next" "I", .fieldLink RX10 104 "FlagWashModel" "acts" "I", .methodLink RX10 142 yX10_pullOn, .instanceMethod yX10_pullOn, .selects RX10 yX10_pullOn yX10_pullOn, .code yX10_pullOn cX10_pullOn 3 none] ++ wsX100)
def wsX10_hour_r1 : List Cond := [Cond.methodLink RX10 136 yX10_keepAct, Cond.instanceMethod yX10_keepAct, Cond.selects RX10 yX10_keepAct yX10_keepAct, Cond.initialized RX10, Cond.code yX10_keepAct cX10_keepAct 2 none, Cond.fieldLink RX10 31 "FlagWashModel" "row" "[I", Cond.fieldLink RX10 130 "FlagWashModel" "next" "I", Cond.fieldLink RX10 19 "FlagWashModel" "now" "[I", Cond.fieldLink RX10 104 "FlagWashModel" "acts" "I", Cond.methodLink RX10 145 yX10_passOn, Cond.instanceMethod yX10_passOn, Cond.selects RX10 yX10_passOn yX10_passOn, Cond.code yX10_passOn cX10_passOn 8 (some .int), Cond.fieldLink RX10 101 "FlagWashModel" "flags" "I", Cond.fieldLink RX10 7 "FlagWashModel" "cloth" "[I", Cond.methodLink RX10 107 yX10_areIn, Cond.instanceMethod yX10_areIn, Cond.selects RX10 yX10_areIn yX10_areIn, Cond.code yX10_areIn cX10_areIn 5 (some .int), Cond.methodLink RX10 74 yX10_has, Cond.static yX10_has, Cond.code yX10_has cX10_has 2 (some .boolean), Cond.methodLink RX10 113 yX10_coloursOf, Cond.instanceMethod yX10_coloursOf]
def wsX10_hour_r2 : List Cond := [Cond.selects RX10 yX10_coloursOf yX10_coloursOf, Cond.code yX10_coloursOf cX10_coloursOf 5 (some .int), Cond.methodLink RX10 116 yX10_hangOn, Cond.instanceMethod yX10_hangOn, Cond.selects RX10 yX10_hangOn yX10_hangOn, Cond.code yX10_hangOn cX10_hangOn 3 none, Cond.methodLink RX10 120 yX10_free, Cond.instanceMethod yX10_free, Cond.selects RX10 yX10_free yX10_free, Cond.code yX10_free cX10_free 3 (some .int), Cond.fieldLink RX10 50 "FlagWashModel" "tubs" "I", Cond.fieldLink RX10 54 "FlagWashModel" "pegs" "I", Cond.methodLink RX10 110 yX10_ones, Cond.static yX10_ones, Cond.code yX10_ones cX10_ones 3 (some .int), Cond.methodLink RX10 123 yX10_wetOf, Cond.instanceMethod yX10_wetOf, Cond.selects RX10 yX10_wetOf yX10_wetOf, Cond.code yX10_wetOf cX10_wetOf 2 (some .int)]
def wsX10_hour : List Cond := .code yX10_hour cX10_hour 1 (some .int) :: ((wsX10_hour_r1 ++ wsX10_hour_r2) ++ wsX100)
def wsX10_wind : List Cond := .code yX10_wind cX10_wind 3 (some .int) :: ([.constantLong RX10 148 (2), .fieldLink RX10 19 "FlagWashModel" "now" "[I", .methodLink RX10 59 yX10_in, .static yX10_in, .initialized RX10, .code yX10_in cX10_in 6 (some .boolean), .methodLink RX10 136 yX10_keepAct, .instanceMethod yX10_keepAct, .selects RX10 yX10_keepAct yX10_keepAct, .code yX10_keepAct cX10_keepAct 2 none, .fieldLink RX10 31 "FlagWashModel" "row" "[I", .fieldLink RX10 130 "FlagWashModel" "next" "I", .fieldLink RX10 104 "FlagWashModel" "acts" "I"] ++ wsX100)
def wsX10_undo : List Cond := .code yX10_undo cX10_undo 2 (some .int) :: ([.fieldLink RX10 104 "FlagWashModel" "acts" "I", .fieldLink RX10 130 "FlagWashModel" "next" "I", .fieldLink RX10 19 "FlagWashModel" "now" "[I", .fieldLink RX10 31 "FlagWashModel" "row" "[I"] ++ wsX100)
def wsX10_layTrial : List Cond := .code yX10_layTrial cX10_layTrial 2 none :: ([.fieldLink RX10 19 "FlagWashModel" "now" "[I"] ++ wsX100)
def wsX10_quietOf_r1 : List Cond := [Cond.methodLink RX10 107 yX10_areIn, Cond.instanceMethod yX10_areIn, Cond.selects RX10 yX10_areIn yX10_areIn, Cond.initialized RX10, Cond.code yX10_areIn cX10_areIn 5 (some .int), Cond.fieldLink RX10 101 "FlagWashModel" "flags" "I", Cond.fieldLink RX10 19 "FlagWashModel" "now" "[I", Cond.methodLink RX10 150 yX10_fights, Cond.instanceMethod yX10_fights, Cond.selects RX10 yX10_fights yX10_fights, Cond.code yX10_fights cX10_fights 4 (some .int), Cond.fieldLink RX10 16 "FlagWashModel" "hostile" "[I", Cond.methodLink RX10 74 yX10_has, Cond.static yX10_has, Cond.code yX10_has cX10_has 2 (some .boolean), Cond.methodLink RX10 110 yX10_ones, Cond.static yX10_ones, Cond.code yX10_ones cX10_ones 3 (some .int), Cond.methodLink RX10 145 yX10_passOn, Cond.instanceMethod yX10_passOn, Cond.selects RX10 yX10_passOn yX10_passOn, Cond.code yX10_passOn cX10_passOn 8 (some .int), Cond.fieldLink RX10 7 "FlagWashModel" "cloth" "[I", Cond.methodLink RX10 113 yX10_coloursOf]
def wsX10_quietOf_r2 : List Cond := [Cond.instanceMethod yX10_coloursOf, Cond.selects RX10 yX10_coloursOf yX10_coloursOf, Cond.code yX10_coloursOf cX10_coloursOf 5 (some .int), Cond.methodLink RX10 116 yX10_hangOn, Cond.instanceMethod yX10_hangOn, Cond.selects RX10 yX10_hangOn yX10_hangOn, Cond.code yX10_hangOn cX10_hangOn 3 none, Cond.methodLink RX10 120 yX10_free, Cond.instanceMethod yX10_free, Cond.selects RX10 yX10_free yX10_free, Cond.code yX10_free cX10_free 3 (some .int), Cond.fieldLink RX10 50 "FlagWashModel" "tubs" "I", Cond.fieldLink RX10 54 "FlagWashModel" "pegs" "I", Cond.methodLink RX10 123 yX10_wetOf, Cond.instanceMethod yX10_wetOf, Cond.selects RX10 yX10_wetOf yX10_wetOf, Cond.code yX10_wetOf cX10_wetOf 2 (some .int)]
def wsX10_quietOf : List Cond := .code yX10_quietOf cX10_quietOf 3 (some .int) :: ((wsX10_quietOf_r1 ++ wsX10_quietOf_r2) ++ wsX100)
def wsX10_peace_r1 : List Cond := [Cond.fieldLink RX10 16 "FlagWashModel" "hostile" "[I", Cond.methodLink RX10 126 yX10_isFlag, Cond.instanceMethod yX10_isFlag, Cond.selects RX10 yX10_isFlag yX10_isFlag, Cond.initialized RX10, Cond.code yX10_isFlag cX10_isFlag 2 (some .boolean), Cond.fieldLink RX10 101 "FlagWashModel" "flags" "I", Cond.methodLink RX10 59 yX10_in, Cond.static yX10_in, Cond.code yX10_in cX10_in 6 (some .boolean), Cond.methodLink RX10 153 yX10_layTrial, Cond.instanceMethod yX10_layTrial, Cond.selects RX10 yX10_layTrial yX10_layTrial, Cond.code yX10_layTrial cX10_layTrial 2 none, Cond.fieldLink RX10 19 "FlagWashModel" "now" "[I", Cond.methodLink RX10 74 yX10_has, Cond.static yX10_has, Cond.code yX10_has cX10_has 2 (some .boolean), Cond.methodLink RX10 156 yX10_quietOf, Cond.instanceMethod yX10_quietOf, Cond.selects RX10 yX10_quietOf yX10_quietOf, Cond.code yX10_quietOf cX10_quietOf 3 (some .int), Cond.methodLink RX10 107 yX10_areIn, Cond.instanceMethod yX10_areIn]
def wsX10_peace_r2 : List Cond := [Cond.selects RX10 yX10_areIn yX10_areIn, Cond.code yX10_areIn cX10_areIn 5 (some .int), Cond.methodLink RX10 150 yX10_fights, Cond.instanceMethod yX10_fights, Cond.selects RX10 yX10_fights yX10_fights, Cond.code yX10_fights cX10_fights 4 (some .int), Cond.methodLink RX10 110 yX10_ones, Cond.static yX10_ones, Cond.code yX10_ones cX10_ones 3 (some .int), Cond.methodLink RX10 145 yX10_passOn, Cond.instanceMethod yX10_passOn, Cond.selects RX10 yX10_passOn yX10_passOn, Cond.code yX10_passOn cX10_passOn 8 (some .int), Cond.fieldLink RX10 7 "FlagWashModel" "cloth" "[I", Cond.methodLink RX10 113 yX10_coloursOf, Cond.instanceMethod yX10_coloursOf, Cond.selects RX10 yX10_coloursOf yX10_coloursOf, Cond.code yX10_coloursOf cX10_coloursOf 5 (some .int), Cond.methodLink RX10 116 yX10_hangOn, Cond.instanceMethod yX10_hangOn, Cond.selects RX10 yX10_hangOn yX10_hangOn, Cond.code yX10_hangOn cX10_hangOn 3 none, Cond.methodLink RX10 120 yX10_free, Cond.instanceMethod yX10_free]
def wsX10_peace_r3 : List Cond := [Cond.selects RX10 yX10_free yX10_free, Cond.code yX10_free cX10_free 3 (some .int), Cond.fieldLink RX10 50 "FlagWashModel" "tubs" "I", Cond.fieldLink RX10 54 "FlagWashModel" "pegs" "I", Cond.methodLink RX10 123 yX10_wetOf, Cond.instanceMethod yX10_wetOf, Cond.selects RX10 yX10_wetOf yX10_wetOf, Cond.code yX10_wetOf cX10_wetOf 2 (some .int)]
def wsX10_peace : List Cond := .code yX10_peace cX10_peace 3 (some .int) :: ((wsX10_peace_r1 ++ (wsX10_peace_r2 ++ wsX10_peace_r3)) ++ wsX100)
def wsX10_quiet_r1 : List Cond := [Cond.methodLink RX10 153 yX10_layTrial, Cond.instanceMethod yX10_layTrial, Cond.selects RX10 yX10_layTrial yX10_layTrial, Cond.initialized RX10, Cond.code yX10_layTrial cX10_layTrial 2 none, Cond.fieldLink RX10 19 "FlagWashModel" "now" "[I", Cond.methodLink RX10 156 yX10_quietOf, Cond.instanceMethod yX10_quietOf, Cond.selects RX10 yX10_quietOf yX10_quietOf, Cond.code yX10_quietOf cX10_quietOf 3 (some .int), Cond.methodLink RX10 107 yX10_areIn, Cond.instanceMethod yX10_areIn, Cond.selects RX10 yX10_areIn yX10_areIn, Cond.code yX10_areIn cX10_areIn 5 (some .int), Cond.fieldLink RX10 101 "FlagWashModel" "flags" "I", Cond.methodLink RX10 150 yX10_fights, Cond.instanceMethod yX10_fights, Cond.selects RX10 yX10_fights yX10_fights, Cond.code yX10_fights cX10_fights 4 (some .int), Cond.fieldLink RX10 16 "FlagWashModel" "hostile" "[I", Cond.methodLink RX10 74 yX10_has, Cond.static yX10_has, Cond.code yX10_has cX10_has 2 (some .boolean), Cond.methodLink RX10 110 yX10_ones]
def wsX10_quiet_r2 : List Cond := [Cond.static yX10_ones, Cond.code yX10_ones cX10_ones 3 (some .int), Cond.methodLink RX10 145 yX10_passOn, Cond.instanceMethod yX10_passOn, Cond.selects RX10 yX10_passOn yX10_passOn, Cond.code yX10_passOn cX10_passOn 8 (some .int), Cond.fieldLink RX10 7 "FlagWashModel" "cloth" "[I", Cond.methodLink RX10 113 yX10_coloursOf, Cond.instanceMethod yX10_coloursOf, Cond.selects RX10 yX10_coloursOf yX10_coloursOf, Cond.code yX10_coloursOf cX10_coloursOf 5 (some .int), Cond.methodLink RX10 116 yX10_hangOn, Cond.instanceMethod yX10_hangOn, Cond.selects RX10 yX10_hangOn yX10_hangOn, Cond.code yX10_hangOn cX10_hangOn 3 none, Cond.methodLink RX10 120 yX10_free, Cond.instanceMethod yX10_free, Cond.selects RX10 yX10_free yX10_free, Cond.code yX10_free cX10_free 3 (some .int), Cond.fieldLink RX10 50 "FlagWashModel" "tubs" "I", Cond.fieldLink RX10 54 "FlagWashModel" "pegs" "I", Cond.methodLink RX10 123 yX10_wetOf, Cond.instanceMethod yX10_wetOf, Cond.selects RX10 yX10_wetOf yX10_wetOf]
def wsX10_quiet_r3 : List Cond := [Cond.code yX10_wetOf cX10_wetOf 2 (some .int)]
def wsX10_quiet : List Cond := .code yX10_quiet cX10_quiet 1 (some .int) :: ((wsX10_quiet_r1 ++ (wsX10_quiet_r2 ++ wsX10_quiet_r3)) ++ wsX100)
def wsX10_quietBy_r1 : List Cond := [Cond.fieldLink RX10 101 "FlagWashModel" "flags" "I", Cond.methodLink RX10 153 yX10_layTrial, Cond.instanceMethod yX10_layTrial, Cond.selects RX10 yX10_layTrial yX10_layTrial, Cond.initialized RX10, Cond.code yX10_layTrial cX10_layTrial 2 none, Cond.fieldLink RX10 19 "FlagWashModel" "now" "[I", Cond.methodLink RX10 74 yX10_has, Cond.static yX10_has, Cond.code yX10_has cX10_has 2 (some .boolean), Cond.methodLink RX10 139 yX10_sendOn, Cond.instanceMethod yX10_sendOn, Cond.selects RX10 yX10_sendOn yX10_sendOn, Cond.code yX10_sendOn cX10_sendOn 3 none, Cond.fieldLink RX10 13 "FlagWashModel" "washed" "[I", Cond.methodLink RX10 156 yX10_quietOf, Cond.instanceMethod yX10_quietOf, Cond.selects RX10 yX10_quietOf yX10_quietOf, Cond.code yX10_quietOf cX10_quietOf 3 (some .int), Cond.methodLink RX10 107 yX10_areIn, Cond.instanceMethod yX10_areIn, Cond.selects RX10 yX10_areIn yX10_areIn, Cond.code yX10_areIn cX10_areIn 5 (some .int), Cond.methodLink RX10 150 yX10_fights]
def wsX10_quietBy_r2 : List Cond := [Cond.instanceMethod yX10_fights, Cond.selects RX10 yX10_fights yX10_fights, Cond.code yX10_fights cX10_fights 4 (some .int), Cond.fieldLink RX10 16 "FlagWashModel" "hostile" "[I", Cond.methodLink RX10 110 yX10_ones, Cond.static yX10_ones, Cond.code yX10_ones cX10_ones 3 (some .int), Cond.methodLink RX10 145 yX10_passOn, Cond.instanceMethod yX10_passOn, Cond.selects RX10 yX10_passOn yX10_passOn, Cond.code yX10_passOn cX10_passOn 8 (some .int), Cond.fieldLink RX10 7 "FlagWashModel" "cloth" "[I", Cond.methodLink RX10 113 yX10_coloursOf, Cond.instanceMethod yX10_coloursOf, Cond.selects RX10 yX10_coloursOf yX10_coloursOf, Cond.code yX10_coloursOf cX10_coloursOf 5 (some .int), Cond.methodLink RX10 116 yX10_hangOn, Cond.instanceMethod yX10_hangOn, Cond.selects RX10 yX10_hangOn yX10_hangOn, Cond.code yX10_hangOn cX10_hangOn 3 none, Cond.methodLink RX10 120 yX10_free, Cond.instanceMethod yX10_free, Cond.selects RX10 yX10_free yX10_free, Cond.code yX10_free cX10_free 3 (some .int)]
def wsX10_quietBy_r3 : List Cond := [Cond.fieldLink RX10 50 "FlagWashModel" "tubs" "I", Cond.fieldLink RX10 54 "FlagWashModel" "pegs" "I", Cond.methodLink RX10 123 yX10_wetOf, Cond.instanceMethod yX10_wetOf, Cond.selects RX10 yX10_wetOf yX10_wetOf, Cond.code yX10_wetOf cX10_wetOf 2 (some .int)]
def wsX10_quietBy : List Cond := .code yX10_quietBy cX10_quietBy 3 (some .int) :: ((wsX10_quietBy_r1 ++ (wsX10_quietBy_r2 ++ wsX10_quietBy_r3)) ++ wsX100)
def wsX10_sending_r1 : List Cond := [Cond.methodLink RX10 107 yX10_areIn, Cond.instanceMethod yX10_areIn, Cond.selects RX10 yX10_areIn yX10_areIn, Cond.initialized RX10, Cond.code yX10_areIn cX10_areIn 5 (some .int), Cond.fieldLink RX10 101 "FlagWashModel" "flags" "I", Cond.fieldLink RX10 19 "FlagWashModel" "now" "[I", Cond.methodLink RX10 159 yX10_quietBy, Cond.instanceMethod yX10_quietBy, Cond.selects RX10 yX10_quietBy yX10_quietBy, Cond.code yX10_quietBy cX10_quietBy 3 (some .int), Cond.methodLink RX10 153 yX10_layTrial, Cond.instanceMethod yX10_layTrial, Cond.selects RX10 yX10_layTrial yX10_layTrial, Cond.code yX10_layTrial cX10_layTrial 2 none, Cond.methodLink RX10 74 yX10_has, Cond.static yX10_has, Cond.code yX10_has cX10_has 2 (some .boolean), Cond.methodLink RX10 139 yX10_sendOn, Cond.instanceMethod yX10_sendOn, Cond.selects RX10 yX10_sendOn yX10_sendOn, Cond.code yX10_sendOn cX10_sendOn 3 none, Cond.fieldLink RX10 13 "FlagWashModel" "washed" "[I", Cond.methodLink RX10 156 yX10_quietOf]
def wsX10_sending_r2 : List Cond := [Cond.instanceMethod yX10_quietOf, Cond.selects RX10 yX10_quietOf yX10_quietOf, Cond.code yX10_quietOf cX10_quietOf 3 (some .int), Cond.methodLink RX10 150 yX10_fights, Cond.instanceMethod yX10_fights, Cond.selects RX10 yX10_fights yX10_fights, Cond.code yX10_fights cX10_fights 4 (some .int), Cond.fieldLink RX10 16 "FlagWashModel" "hostile" "[I", Cond.methodLink RX10 110 yX10_ones, Cond.static yX10_ones, Cond.code yX10_ones cX10_ones 3 (some .int), Cond.methodLink RX10 145 yX10_passOn, Cond.instanceMethod yX10_passOn, Cond.selects RX10 yX10_passOn yX10_passOn, Cond.code yX10_passOn cX10_passOn 8 (some .int), Cond.fieldLink RX10 7 "FlagWashModel" "cloth" "[I", Cond.methodLink RX10 113 yX10_coloursOf, Cond.instanceMethod yX10_coloursOf, Cond.selects RX10 yX10_coloursOf yX10_coloursOf, Cond.code yX10_coloursOf cX10_coloursOf 5 (some .int), Cond.methodLink RX10 116 yX10_hangOn, Cond.instanceMethod yX10_hangOn, Cond.selects RX10 yX10_hangOn yX10_hangOn, Cond.code yX10_hangOn cX10_hangOn 3 none]
def wsX10_sending_r3 : List Cond := [Cond.methodLink RX10 120 yX10_free, Cond.instanceMethod yX10_free, Cond.selects RX10 yX10_free yX10_free, Cond.code yX10_free cX10_free 3 (some .int), Cond.fieldLink RX10 50 "FlagWashModel" "tubs" "I", Cond.fieldLink RX10 54 "FlagWashModel" "pegs" "I", Cond.methodLink RX10 123 yX10_wetOf, Cond.instanceMethod yX10_wetOf, Cond.selects RX10 yX10_wetOf yX10_wetOf, Cond.code yX10_wetOf cX10_wetOf 2 (some .int)]
def wsX10_sending : List Cond := .code yX10_sending cX10_sending 9 (some .int) :: ((wsX10_sending_r1 ++ (wsX10_sending_r2 ++ wsX10_sending_r3)) ++ wsX100)
def wsX10_cover : List Cond := .code yX10_cover cX10_cover 5 (some .int) :: ([.methodLink RX10 107 yX10_areIn, .instanceMethod yX10_areIn, .selects RX10 yX10_areIn yX10_areIn, .initialized RX10, .code yX10_areIn cX10_areIn 5 (some .int), .fieldLink RX10 101 "FlagWashModel" "flags" "I", .fieldLink RX10 19 "FlagWashModel" "now" "[I", .methodLink RX10 110 yX10_ones, .static yX10_ones, .code yX10_ones cX10_ones 3 (some .int), .methodLink RX10 150 yX10_fights, .instanceMethod yX10_fights, .selects RX10 yX10_fights yX10_fights, .code yX10_fights cX10_fights 4 (some .int), .fieldLink RX10 16 "FlagWashModel" "hostile" "[I", .methodLink RX10 74 yX10_has, .static yX10_has, .code yX10_has cX10_has 2 (some .boolean)] ++ wsX100)
def wsX10_ran : List Cond := .code yX10_ran cX10_ran 6 (some .int) :: ([.constantLong RX10 72 (15), .fieldLink RX10 101 "FlagWashModel" "flags" "I", .fieldLink RX10 19 "FlagWashModel" "now" "[I", .methodLink RX10 126 yX10_isFlag, .instanceMethod yX10_isFlag, .selects RX10 yX10_isFlag yX10_isFlag, .initialized RX10, .code yX10_isFlag cX10_isFlag 2 (some .boolean), .methodLink RX10 59 yX10_in, .static yX10_in, .code yX10_in cX10_in 6 (some .boolean), .methodLink RX10 74 yX10_has, .static yX10_has, .code yX10_has cX10_has 2 (some .boolean), .methodLink RX10 110 yX10_ones, .static yX10_ones, .code yX10_ones cX10_ones 3 (some .int), .methodLink RX10 113 yX10_coloursOf, .instanceMethod yX10_coloursOf, .selects RX10 yX10_coloursOf yX10_coloursOf, .code yX10_coloursOf cX10_coloursOf 5 (some .int)] ++ wsX100)
def wsX10_tenTo : List Cond := .code yX10_tenTo cX10_tenTo 3 (some .int) :: ([])
def wsX10_tryThing_r1 : List Cond := [Cond.fieldLink RX10 19 "FlagWashModel" "now" "[I", Cond.methodLink RX10 145 yX10_passOn, Cond.instanceMethod yX10_passOn, Cond.selects RX10 yX10_passOn yX10_passOn, Cond.initialized RX10, Cond.code yX10_passOn cX10_passOn 8 (some .int), Cond.fieldLink RX10 101 "FlagWashModel" "flags" "I", Cond.fieldLink RX10 7 "FlagWashModel" "cloth" "[I", Cond.methodLink RX10 107 yX10_areIn, Cond.instanceMethod yX10_areIn, Cond.selects RX10 yX10_areIn yX10_areIn, Cond.code yX10_areIn cX10_areIn 5 (some .int), Cond.methodLink RX10 74 yX10_has, Cond.static yX10_has, Cond.code yX10_has cX10_has 2 (some .boolean), Cond.methodLink RX10 113 yX10_coloursOf, Cond.instanceMethod yX10_coloursOf, Cond.selects RX10 yX10_coloursOf yX10_coloursOf, Cond.code yX10_coloursOf cX10_coloursOf 5 (some .int), Cond.methodLink RX10 116 yX10_hangOn, Cond.instanceMethod yX10_hangOn, Cond.selects RX10 yX10_hangOn yX10_hangOn, Cond.code yX10_hangOn cX10_hangOn 3 none, Cond.methodLink RX10 120 yX10_free]
def wsX10_tryThing_r2 : List Cond := [Cond.instanceMethod yX10_free, Cond.selects RX10 yX10_free yX10_free, Cond.code yX10_free cX10_free 3 (some .int), Cond.fieldLink RX10 50 "FlagWashModel" "tubs" "I", Cond.fieldLink RX10 54 "FlagWashModel" "pegs" "I", Cond.methodLink RX10 110 yX10_ones, Cond.static yX10_ones, Cond.code yX10_ones cX10_ones 3 (some .int), Cond.methodLink RX10 123 yX10_wetOf, Cond.instanceMethod yX10_wetOf, Cond.selects RX10 yX10_wetOf yX10_wetOf, Cond.code yX10_wetOf cX10_wetOf 2 (some .int), Cond.methodLink RX10 133 yX10_canSend, Cond.instanceMethod yX10_canSend, Cond.selects RX10 yX10_canSend yX10_canSend, Cond.code yX10_canSend cX10_canSend 3 (some .boolean), Cond.methodLink RX10 126 yX10_isFlag, Cond.instanceMethod yX10_isFlag, Cond.selects RX10 yX10_isFlag yX10_isFlag, Cond.code yX10_isFlag cX10_isFlag 2 (some .boolean), Cond.methodLink RX10 59 yX10_in, Cond.static yX10_in, Cond.code yX10_in cX10_in 6 (some .boolean), Cond.methodLink RX10 139 yX10_sendOn]
def wsX10_tryThing_r3 : List Cond := [Cond.instanceMethod yX10_sendOn, Cond.selects RX10 yX10_sendOn yX10_sendOn, Cond.code yX10_sendOn cX10_sendOn 3 none, Cond.fieldLink RX10 13 "FlagWashModel" "washed" "[I", Cond.methodLink RX10 142 yX10_pullOn, Cond.instanceMethod yX10_pullOn, Cond.selects RX10 yX10_pullOn yX10_pullOn, Cond.code yX10_pullOn cX10_pullOn 3 none]
def wsX10_tryThing : List Cond := .code yX10_tryThing cX10_tryThing 3 (some .boolean) :: ((wsX10_tryThing_r1 ++ (wsX10_tryThing_r2 ++ wsX10_tryThing_r3)) ++ wsX100)
def wsX10_judge_r1 : List Cond := [Cond.constantLong RX10 162 (6), Cond.methodLink RX10 59 yX10_in, Cond.static yX10_in, Cond.initialized RX10, Cond.code yX10_in cX10_in 6 (some .boolean), Cond.methodLink RX10 164 yX10_tenTo, Cond.static yX10_tenTo, Cond.code yX10_tenTo cX10_tenTo 3 (some .int), Cond.methodLink RX10 153 yX10_layTrial, Cond.instanceMethod yX10_layTrial, Cond.selects RX10 yX10_layTrial yX10_layTrial, Cond.code yX10_layTrial cX10_layTrial 2 none, Cond.fieldLink RX10 19 "FlagWashModel" "now" "[I", Cond.methodLink RX10 167 yX10_tryThing, Cond.instanceMethod yX10_tryThing, Cond.selects RX10 yX10_tryThing yX10_tryThing, Cond.code yX10_tryThing cX10_tryThing 3 (some .boolean), Cond.methodLink RX10 145 yX10_passOn, Cond.instanceMethod yX10_passOn, Cond.selects RX10 yX10_passOn yX10_passOn, Cond.code yX10_passOn cX10_passOn 8 (some .int), Cond.fieldLink RX10 101 "FlagWashModel" "flags" "I", Cond.fieldLink RX10 7 "FlagWashModel" "cloth" "[I", Cond.methodLink RX10 107 yX10_areIn]
def wsX10_judge_r2 : List Cond := [Cond.instanceMethod yX10_areIn, Cond.selects RX10 yX10_areIn yX10_areIn, Cond.code yX10_areIn cX10_areIn 5 (some .int), Cond.methodLink RX10 74 yX10_has, Cond.static yX10_has, Cond.code yX10_has cX10_has 2 (some .boolean), Cond.methodLink RX10 113 yX10_coloursOf, Cond.instanceMethod yX10_coloursOf, Cond.selects RX10 yX10_coloursOf yX10_coloursOf, Cond.code yX10_coloursOf cX10_coloursOf 5 (some .int), Cond.methodLink RX10 116 yX10_hangOn, Cond.instanceMethod yX10_hangOn, Cond.selects RX10 yX10_hangOn yX10_hangOn, Cond.code yX10_hangOn cX10_hangOn 3 none, Cond.methodLink RX10 120 yX10_free, Cond.instanceMethod yX10_free, Cond.selects RX10 yX10_free yX10_free, Cond.code yX10_free cX10_free 3 (some .int), Cond.fieldLink RX10 50 "FlagWashModel" "tubs" "I", Cond.fieldLink RX10 54 "FlagWashModel" "pegs" "I", Cond.methodLink RX10 110 yX10_ones, Cond.static yX10_ones, Cond.code yX10_ones cX10_ones 3 (some .int), Cond.methodLink RX10 123 yX10_wetOf]
def wsX10_judge_r3 : List Cond := [Cond.instanceMethod yX10_wetOf, Cond.selects RX10 yX10_wetOf yX10_wetOf, Cond.code yX10_wetOf cX10_wetOf 2 (some .int), Cond.methodLink RX10 133 yX10_canSend, Cond.instanceMethod yX10_canSend, Cond.selects RX10 yX10_canSend yX10_canSend, Cond.code yX10_canSend cX10_canSend 3 (some .boolean), Cond.methodLink RX10 126 yX10_isFlag, Cond.instanceMethod yX10_isFlag, Cond.selects RX10 yX10_isFlag yX10_isFlag, Cond.code yX10_isFlag cX10_isFlag 2 (some .boolean), Cond.methodLink RX10 139 yX10_sendOn, Cond.instanceMethod yX10_sendOn, Cond.selects RX10 yX10_sendOn yX10_sendOn, Cond.code yX10_sendOn cX10_sendOn 3 none, Cond.fieldLink RX10 13 "FlagWashModel" "washed" "[I", Cond.methodLink RX10 142 yX10_pullOn, Cond.instanceMethod yX10_pullOn, Cond.selects RX10 yX10_pullOn yX10_pullOn, Cond.code yX10_pullOn cX10_pullOn 3 none]
def wsX10_judge : List Cond := .code yX10_judge cX10_judge 4 (some .int) :: ((wsX10_judge_r1 ++ (wsX10_judge_r2 ++ wsX10_judge_r3)) ++ wsX100)
def wsX10_see : List Cond := .code yX10_see cX10_see 4 (some .int) :: ([.constantLong RX10 72 (15), .constantLong RX10 170 (31), .fieldLink RX10 172 "FlagWashModel" "seen" "I", .fieldLink RX10 34 "FlagWashModel" "seenOf" "[I", .fieldLink RX10 37 "FlagWashModel" "seenColours" "[I", .fieldLink RX10 40 "FlagWashModel" "seenWith" "[I", .methodLink RX10 126 yX10_isFlag, .instanceMethod yX10_isFlag, .selects RX10 yX10_isFlag yX10_isFlag, .initialized RX10, .code yX10_isFlag cX10_isFlag 2 (some .boolean), .fieldLink RX10 101 "FlagWashModel" "flags" "I", .methodLink RX10 59 yX10_in, .static yX10_in, .code yX10_in cX10_in 6 (some .boolean), .methodLink RX10 74 yX10_has, .static yX10_has, .code yX10_has cX10_has 2 (some .boolean)] ++ wsX100)
def wsX10_unsee : List Cond := .code yX10_unsee cX10_unsee 2 (some .int) :: ([.fieldLink RX10 172 "FlagWashModel" "seen" "I"] ++ wsX100)
def wsX10_mayHave : List Cond := .code yX10_mayHave cX10_mayHave 6 (some .boolean) :: ([.fieldLink RX10 172 "FlagWashModel" "seen" "I", .fieldLink RX10 34 "FlagWashModel" "seenOf" "[I", .fieldLink RX10 40 "FlagWashModel" "seenWith" "[I", .fieldLink RX10 101 "FlagWashModel" "flags" "I", .fieldLink RX10 37 "FlagWashModel" "seenColours" "[I", .methodLink RX10 113 yX10_coloursOf, .instanceMethod yX10_coloursOf, .selects RX10 yX10_coloursOf yX10_coloursOf, .initialized RX10, .code yX10_coloursOf cX10_coloursOf 5 (some .int), .fieldLink RX10 19 "FlagWashModel" "now" "[I", .methodLink RX10 74 yX10_has, .static yX10_has, .code yX10_has cX10_has 2 (some .boolean)] ++ wsX100)
def wsX10_had_r1 : List Cond := [Cond.constantLong RX10 148 (2), Cond.methodLink RX10 126 yX10_isFlag, Cond.instanceMethod yX10_isFlag, Cond.selects RX10 yX10_isFlag yX10_isFlag, Cond.initialized RX10, Cond.code yX10_isFlag cX10_isFlag 2 (some .boolean), Cond.fieldLink RX10 101 "FlagWashModel" "flags" "I", Cond.methodLink RX10 59 yX10_in, Cond.static yX10_in, Cond.code yX10_in cX10_in 6 (some .boolean), Cond.methodLink RX10 175 yX10_mayHave, Cond.instanceMethod yX10_mayHave, Cond.selects RX10 yX10_mayHave yX10_mayHave, Cond.code yX10_mayHave cX10_mayHave 6 (some .boolean), Cond.fieldLink RX10 172 "FlagWashModel" "seen" "I", Cond.fieldLink RX10 34 "FlagWashModel" "seenOf" "[I", Cond.fieldLink RX10 40 "FlagWashModel" "seenWith" "[I", Cond.fieldLink RX10 37 "FlagWashModel" "seenColours" "[I", Cond.methodLink RX10 113 yX10_coloursOf, Cond.instanceMethod yX10_coloursOf, Cond.selects RX10 yX10_coloursOf yX10_coloursOf, Cond.code yX10_coloursOf cX10_coloursOf 5 (some .int), Cond.fieldLink RX10 19 "FlagWashModel" "now" "[I", Cond.methodLink RX10 74 yX10_has]
def wsX10_had_r2 : List Cond := [Cond.static yX10_has, Cond.code yX10_has cX10_has 2 (some .boolean)]
def wsX10_had : List Cond := .code yX10_had cX10_had 7 (some .int) :: ((wsX10_had_r1 ++ wsX10_had_r2) ++ wsX100)
def wsX10_factorial : List Cond := .code yX10_factorial cX10_factorial 3 (some .int) :: ([])
def wsX10_common : List Cond := .code yX10_common cX10_common 5 (some .int) :: ([])
def wsX10_calm : List Cond := .code yX10_calm cX10_calm 4 (some .int) :: ([.fieldLink RX10 101 "FlagWashModel" "flags" "I", .fieldLink RX10 16 "FlagWashModel" "hostile" "[I", .methodLink RX10 74 yX10_has, .static yX10_has, .initialized RX10, .code yX10_has cX10_has 2 (some .boolean)] ++ wsX100)
def wsX10_share_r1 : List Cond := [Cond.fieldLink RX10 101 "FlagWashModel" "flags" "I", Cond.methodLink RX10 126 yX10_isFlag, Cond.instanceMethod yX10_isFlag, Cond.selects RX10 yX10_isFlag yX10_isFlag, Cond.initialized RX10, Cond.code yX10_isFlag cX10_isFlag 2 (some .boolean), Cond.methodLink RX10 59 yX10_in, Cond.static yX10_in, Cond.code yX10_in cX10_in 6 (some .boolean), Cond.methodLink RX10 74 yX10_has, Cond.static yX10_has, Cond.code yX10_has cX10_has 2 (some .boolean), Cond.methodLink RX10 110 yX10_ones, Cond.static yX10_ones, Cond.code yX10_ones cX10_ones 3 (some .int), Cond.methodLink RX10 178 yX10_factorial, Cond.static yX10_factorial, Cond.code yX10_factorial cX10_factorial 3 (some .int), Cond.methodLink RX10 181 yX10_calm, Cond.instanceMethod yX10_calm, Cond.selects RX10 yX10_calm yX10_calm, Cond.code yX10_calm cX10_calm 4 (some .int), Cond.fieldLink RX10 16 "FlagWashModel" "hostile" "[I", Cond.methodLink RX10 184 yX10_common]
def wsX10_share_r2 : List Cond := [Cond.static yX10_common, Cond.code yX10_common cX10_common 5 (some .int)]
def wsX10_share : List Cond := .code yX10_share cX10_share 6 (some .int) :: ((wsX10_share_r1 ++ wsX10_share_r2) ++ wsX100)
def wsX10_gain : List Cond := .code yX10_gain cX10_gain 5 (some .int) :: ([.fieldLink RX10 13 "FlagWashModel" "washed" "[I", .fieldLink RX10 16 "FlagWashModel" "hostile" "[I", .methodLink RX10 74 yX10_has, .static yX10_has, .initialized RX10, .code yX10_has cX10_has 2 (some .boolean)] ++ wsX100)
def wsX10_isRest : List Cond := .code yX10_isRest cX10_isRest 5 (some .boolean) :: ([.methodLink RX10 187 yX10_gain, .instanceMethod yX10_gain, .selects RX10 yX10_gain yX10_gain, .initialized RX10, .code yX10_gain cX10_gain 5 (some .int), .fieldLink RX10 13 "FlagWashModel" "washed" "[I", .fieldLink RX10 16 "FlagWashModel" "hostile" "[I", .methodLink RX10 74 yX10_has, .static yX10_has, .code yX10_has cX10_has 2 (some .boolean)] ++ wsX100)
def wsX10_rests : List Cond := .code yX10_rests cX10_rests 7 (some .int) :: ([.methodLink RX10 126 yX10_isFlag, .instanceMethod yX10_isFlag, .selects RX10 yX10_isFlag yX10_isFlag, .initialized RX10, .code yX10_isFlag cX10_isFlag 2 (some .boolean), .fieldLink RX10 101 "FlagWashModel" "flags" "I", .methodLink RX10 59 yX10_in, .static yX10_in, .code yX10_in cX10_in 6 (some .boolean), .methodLink RX10 191 yX10_isRest, .instanceMethod yX10_isRest, .selects RX10 yX10_isRest yX10_isRest, .code yX10_isRest cX10_isRest 5 (some .boolean), .methodLink RX10 187 yX10_gain, .instanceMethod yX10_gain, .selects RX10 yX10_gain yX10_gain, .code yX10_gain cX10_gain 5 (some .int), .fieldLink RX10 13 "FlagWashModel" "washed" "[I", .fieldLink RX10 16 "FlagWashModel" "hostile" "[I", .methodLink RX10 74 yX10_has, .static yX10_has, .code yX10_has cX10_has 2 (some .boolean)] ++ wsX100)
def wsX10_dry : List Cond := .code yX10_dry cX10_dry 11 (some .int) :: ([.constantLong RX10 162 (6), .constantLong RX10 195 (10), .fieldLink RX10 19 "FlagWashModel" "now" "[I", .methodLink RX10 126 yX10_isFlag, .instanceMethod yX10_isFlag, .selects RX10 yX10_isFlag yX10_isFlag, .initialized RX10, .code yX10_isFlag cX10_isFlag 2 (some .boolean), .fieldLink RX10 101 "FlagWashModel" "flags" "I", .methodLink RX10 59 yX10_in, .static yX10_in, .code yX10_in cX10_in 6 (some .boolean), .methodLink RX10 74 yX10_has, .static yX10_has, .code yX10_has cX10_has 2 (some .boolean), .methodLink RX10 184 yX10_common, .static yX10_common, .code yX10_common cX10_common 5 (some .int)] ++ wsX100)
def wsX10_seed : List Cond := .code yX10_seed cX10_seed 5 (some .long) :: ([.fieldLink RX10 197 "FlagWashModel" "seed" "J"] ++ wsX100)
def wsX10_weeks_r1 : List Cond := [Cond.constantLong RX10 201 (30), Cond.fieldLink RX10 197 "FlagWashModel" "seed" "J", Cond.constantLong RX10 203 (6364136223846793005), Cond.constantLong RX10 205 (1442695040888963407), Cond.constantLong RX10 195 (10), Cond.fieldLink RX10 19 "FlagWashModel" "now" "[I", Cond.methodLink RX10 59 yX10_in, Cond.static yX10_in, Cond.initialized RX10, Cond.code yX10_in cX10_in 6 (some .boolean), Cond.methodLink RX10 153 yX10_layTrial, Cond.instanceMethod yX10_layTrial, Cond.selects RX10 yX10_layTrial yX10_layTrial, Cond.code yX10_layTrial cX10_layTrial 2 none, Cond.methodLink RX10 145 yX10_passOn, Cond.instanceMethod yX10_passOn, Cond.selects RX10 yX10_passOn yX10_passOn, Cond.code yX10_passOn cX10_passOn 8 (some .int), Cond.fieldLink RX10 101 "FlagWashModel" "flags" "I", Cond.fieldLink RX10 7 "FlagWashModel" "cloth" "[I", Cond.methodLink RX10 107 yX10_areIn, Cond.instanceMethod yX10_areIn, Cond.selects RX10 yX10_areIn yX10_areIn, Cond.code yX10_areIn cX10_areIn 5 (some .int)]
def wsX10_weeks_r2 : List Cond := [Cond.methodLink RX10 74 yX10_has, Cond.static yX10_has, Cond.code yX10_has cX10_has 2 (some .boolean), Cond.methodLink RX10 113 yX10_coloursOf, Cond.instanceMethod yX10_coloursOf, Cond.selects RX10 yX10_coloursOf yX10_coloursOf, Cond.code yX10_coloursOf cX10_coloursOf 5 (some .int), Cond.methodLink RX10 116 yX10_hangOn, Cond.instanceMethod yX10_hangOn, Cond.selects RX10 yX10_hangOn yX10_hangOn, Cond.code yX10_hangOn cX10_hangOn 3 none, Cond.methodLink RX10 120 yX10_free, Cond.instanceMethod yX10_free, Cond.selects RX10 yX10_free yX10_free, Cond.code yX10_free cX10_free 3 (some .int), Cond.fieldLink RX10 50 "FlagWashModel" "tubs" "I", Cond.fieldLink RX10 54 "FlagWashModel" "pegs" "I", Cond.methodLink RX10 110 yX10_ones, Cond.static yX10_ones, Cond.code yX10_ones cX10_ones 3 (some .int), Cond.methodLink RX10 123 yX10_wetOf, Cond.instanceMethod yX10_wetOf, Cond.selects RX10 yX10_wetOf yX10_wetOf, Cond.code yX10_wetOf cX10_wetOf 2 (some .int)]
def wsX10_weeks_r3 : List Cond := [Cond.methodLink RX10 133 yX10_canSend, Cond.instanceMethod yX10_canSend, Cond.selects RX10 yX10_canSend yX10_canSend, Cond.code yX10_canSend cX10_canSend 3 (some .boolean), Cond.methodLink RX10 126 yX10_isFlag, Cond.instanceMethod yX10_isFlag, Cond.selects RX10 yX10_isFlag yX10_isFlag, Cond.code yX10_isFlag cX10_isFlag 2 (some .boolean), Cond.methodLink RX10 139 yX10_sendOn, Cond.instanceMethod yX10_sendOn, Cond.selects RX10 yX10_sendOn yX10_sendOn, Cond.code yX10_sendOn cX10_sendOn 3 none, Cond.fieldLink RX10 13 "FlagWashModel" "washed" "[I", Cond.methodLink RX10 150 yX10_fights, Cond.instanceMethod yX10_fights, Cond.selects RX10 yX10_fights yX10_fights, Cond.code yX10_fights cX10_fights 4 (some .int), Cond.fieldLink RX10 16 "FlagWashModel" "hostile" "[I"]
def wsX10_weeks : List Cond := .code yX10_weeks cX10_weeks 5 (some .int) :: ((wsX10_weeks_r1 ++ (wsX10_weeks_r2 ++ wsX10_weeks_r3)) ++ wsX100)
def wsX10_keep : List Cond := .code yX10_keep cX10_keep 3 (some .int) :: ([.fieldLink RX10 43 "FlagWashModel" "isKept" "[Z", .fieldLink RX10 47 "FlagWashModel" "kept" "[I", .fieldLink RX10 19 "FlagWashModel" "now" "[I", .methodLink RX10 59 yX10_in, .static yX10_in, .initialized RX10, .code yX10_in cX10_in 6 (some .boolean)] ++ wsX100)
def wsX10_again : List Cond := .code yX10_again cX10_again 3 (some .int) :: ([.fieldLink RX10 43 "FlagWashModel" "isKept" "[Z", .fieldLink RX10 19 "FlagWashModel" "now" "[I", .fieldLink RX10 47 "FlagWashModel" "kept" "[I", .fieldLink RX10 104 "FlagWashModel" "acts" "I", .methodLink RX10 59 yX10_in, .static yX10_in, .initialized RX10, .code yX10_in cX10_in 6 (some .boolean)] ++ wsX100)
def wsX10_count_r1 : List Cond := [Cond.fieldLink RX10 63 "FlagWashModel" "length" "I", Cond.fieldLink RX10 101 "FlagWashModel" "flags" "I", Cond.fieldLink RX10 19 "FlagWashModel" "now" "[I", Cond.fieldLink RX10 104 "FlagWashModel" "acts" "I", Cond.fieldLink RX10 172 "FlagWashModel" "seen" "I", Cond.methodLink RX10 120 yX10_free, Cond.instanceMethod yX10_free, Cond.selects RX10 yX10_free yX10_free, Cond.initialized RX10, Cond.code yX10_free cX10_free 3 (some .int), Cond.fieldLink RX10 50 "FlagWashModel" "tubs" "I", Cond.fieldLink RX10 54 "FlagWashModel" "pegs" "I", Cond.methodLink RX10 107 yX10_areIn, Cond.instanceMethod yX10_areIn, Cond.selects RX10 yX10_areIn yX10_areIn, Cond.code yX10_areIn cX10_areIn 5 (some .int), Cond.methodLink RX10 110 yX10_ones, Cond.static yX10_ones, Cond.code yX10_ones cX10_ones 3 (some .int), Cond.methodLink RX10 150 yX10_fights, Cond.instanceMethod yX10_fights, Cond.selects RX10 yX10_fights yX10_fights, Cond.code yX10_fights cX10_fights 4 (some .int), Cond.fieldLink RX10 16 "FlagWashModel" "hostile" "[I"]
def wsX10_count_r2 : List Cond := [Cond.methodLink RX10 74 yX10_has, Cond.static yX10_has, Cond.code yX10_has cX10_has 2 (some .boolean)]
def wsX10_count : List Cond := .code yX10_count cX10_count 2 (some .int) :: ((wsX10_count_r1 ++ wsX10_count_r2) ++ wsX100)
def wsL_law_r1 : List Cond := [Cond.classLink RL 7 RX9, Cond.instantiable RX9 12, Cond.initialized RX9, Cond.classLink RL 10 RX10, Cond.instantiable RX10 24, Cond.initialized RX10, Cond.constantLong RL 108 (4294967295), Cond.methodLink RL 9 yX9_init, Cond.instanceMethod yX9_init, Cond.code yX9_init cX9_init 2 none, Cond.methodLink RX9 1 objectInit, Cond.instanceMethod objectInit, Cond.code objectInit ⟨#[0xb1]⟩ 1 none, Cond.arrayClass .int, Cond.fieldLink RX9 9 "FlagWash" "letters" "[I", Cond.fieldLink RX9 13 "FlagWash" "length" "I", Cond.classLink RX9 17 RX5, Cond.instantiable RX5 5, Cond.initialized RX5, Cond.fieldLink RX9 20 "FlagWash" "reader" "LFlagWash$Reader;", Cond.classLink RX9 24 RX4, Cond.instantiable RX4 8, Cond.initialized RX4, Cond.fieldLink RX9 27 "FlagWash" "plan" "LFlagWash$Plan;"]
def wsL_law_r2 : List Cond := [Cond.classLink RX9 31 RX8, Cond.instantiable RX8 6, Cond.initialized RX8, Cond.fieldLink RX9 36 "FlagWash" "now" "LFlagWash$Wash;", Cond.fieldLink RX9 40 "FlagWash" "trial" "LFlagWash$Wash;", Cond.classLink RX9 43 RX2, Cond.instantiable RX2 1, Cond.initialized RX2, Cond.fieldLink RX9 48 "FlagWash" "forecast" "LFlagWash$Forecast;", Cond.classLink RX9 52 RX0, Cond.instantiable RX0 3, Cond.initialized RX0, Cond.fieldLink RX9 55 "FlagWash" "acts" "LFlagWash$Acts;", Cond.classLink RX9 59 RX7, Cond.instantiable RX7 4, Cond.initialized RX7, Cond.fieldLink RX9 62 "FlagWash" "sightings" "LFlagWash$Sightings;", Cond.fieldLink RX9 66 "FlagWash" "slots" "[LFlagWash$Wash;", Cond.arrayClass .boolean, Cond.fieldLink RX9 70 "FlagWash" "kept" "[Z", Cond.fieldLink RX9 74 "FlagWash" "seedNow" "J", Cond.instanceMethod yX5_init, Cond.code yX5_init cX5_init 1 none, Cond.methodLink RX5 3 objectInit]
def wsL_law_r3 : List Cond := [Cond.classLink RX5 9 RX4, Cond.fieldLink RX5 12 "FlagWash$Reader" "plan" "LFlagWash$Plan;", Cond.fieldLink RX5 18 "FlagWash$Reader" "stage" "I", Cond.fieldLink RX5 22 "FlagWash$Reader" "colours" "I", Cond.fieldLink RX5 25 "FlagWash$Reader" "cloth" "I", Cond.fieldLink RX5 28 "FlagWash$Reader" "one" "I", Cond.instanceMethod yX4_init, Cond.code yX4_init cX4_init 1 none, Cond.methodLink RX4 3 objectInit, Cond.fieldLink RX4 9 "FlagWash$Plan" "tubs" "I", Cond.fieldLink RX4 15 "FlagWash$Plan" "pegs" "I", Cond.fieldLink RX4 18 "FlagWash$Plan" "wind" "I", Cond.fieldLink RX4 21 "FlagWash$Plan" "flags" "I", Cond.fieldLink RX4 24 "FlagWash$Plan" "colours" "[I", Cond.fieldLink RX4 28 "FlagWash$Plan" "cloth" "[I", Cond.fieldLink RX4 31 "FlagWash$Plan" "hours" "[I", Cond.fieldLink RX4 34 "FlagWash$Plan" "hostile" "[I", Cond.methodLink RX9 33 yX8_init, Cond.instanceMethod yX8_init, Cond.code yX8_init cX8_init 2 none, Cond.methodLink RX8 3 objectInit, Cond.fieldLink RX8 9 "FlagWash$Wash" "where" "[I", Cond.fieldLink RX8 15 "FlagWash$Wash" "left" "[I", Cond.fieldLink RX8 18 "FlagWash$Wash" "colours" "[I"]
def wsL_law_r4 : List Cond := [Cond.fieldLink RX8 21 "FlagWash$Wash" "wind" "I", Cond.fieldLink RX8 25 "FlagWash$Wash" "hour" "I", Cond.fieldLink RX8 28 "FlagWash$Wash" "plan" "LFlagWash$Plan;", Cond.methodLink RX9 45 yX2_init, Cond.instanceMethod yX2_init, Cond.code yX2_init cX2_init 2 none, Cond.methodLink RX2 3 objectInit, Cond.fieldLink RX2 9 "FlagWash$Forecast" "ahead" "LFlagWash$Wash;", Cond.methodLink RX9 54 yX0_init, Cond.instanceMethod yX0_init, Cond.code yX0_init cX0_init 3 none, Cond.methodLink RX0 3 objectInit, Cond.classLink RX0 9 RX8, Cond.fieldLink RX0 11 "FlagWash$Acts" "before" "[LFlagWash$Wash;", Cond.fieldLink RX0 17 "FlagWash$Acts" "first" "I", Cond.fieldLink RX0 21 "FlagWash$Acts" "size" "I", Cond.methodLink RX0 24 yX8_init, Cond.instanceMethod yX7_init, Cond.code yX7_init cX7_init 1 none, Cond.methodLink RX7 3 objectInit, Cond.fieldLink RX7 9 "FlagWash$Sightings" "flag" "[I", Cond.fieldLink RX7 15 "FlagWash$Sightings" "colours" "[I", Cond.fieldLink RX7 18 "FlagWash$Sightings" "with" "[I", Cond.fieldLink RX7 21 "FlagWash$Sightings" "size" "I"]
def wsL_law_r5 : List Cond := [Cond.methodLink RL 12 yX10_init, Cond.instanceMethod yX10_init, Cond.code yX10_init cX10_init 1 none, Cond.methodLink RX10 1 objectInit, Cond.fieldLink RX10 7 "FlagWashModel" "cloth" "[I", Cond.fieldLink RX10 13 "FlagWashModel" "washed" "[I", Cond.fieldLink RX10 16 "FlagWashModel" "hostile" "[I", Cond.fieldLink RX10 19 "FlagWashModel" "now" "[I", Cond.fieldLink RX10 22 "FlagWashModel" "readOf" "[I", Cond.fieldLink RX10 25 "FlagWashModel" "readHostile" "[I", Cond.fieldLink RX10 28 "FlagWashModel" "text" "[I", Cond.fieldLink RX10 31 "FlagWashModel" "row" "[I", Cond.fieldLink RX10 34 "FlagWashModel" "seenOf" "[I", Cond.fieldLink RX10 37 "FlagWashModel" "seenColours" "[I", Cond.fieldLink RX10 40 "FlagWashModel" "seenWith" "[I", Cond.fieldLink RX10 43 "FlagWashModel" "isKept" "[Z", Cond.fieldLink RX10 47 "FlagWashModel" "kept" "[I", Cond.fieldLink RX10 50 "FlagWashModel" "tubs" "I", Cond.fieldLink RX10 54 "FlagWashModel" "pegs" "I", Cond.methodLink RL 13 yX9_write, Cond.instanceMethod yX9_write, Cond.selects RX9 yX9_write yX9_write, Cond.code yX9_write cX9_write 2 (some .int), Cond.methodLink RL 17 yX10_write]
def wsL_law_r6 : List Cond := [Cond.instanceMethod yX10_write, Cond.selects RX10 yX10_write yX10_write, Cond.code yX10_write cX10_write 2 (some .int), Cond.constantLong RX10 57 (255), Cond.fieldLink RX10 63 "FlagWashModel" "length" "I", Cond.methodLink RX10 59 yX10_in, Cond.static yX10_in, Cond.code yX10_in cX10_in 6 (some .boolean), Cond.methodLink RL 18 yX9_wipe, Cond.instanceMethod yX9_wipe, Cond.selects RX9 yX9_wipe yX9_wipe, Cond.code yX9_wipe cX9_wipe 2 (some .int), Cond.methodLink RL 22 yX10_wipe, Cond.instanceMethod yX10_wipe, Cond.selects RX10 yX10_wipe yX10_wipe, Cond.code yX10_wipe cX10_wipe 2 (some .int), Cond.methodLink RL 23 yX9_fault, Cond.instanceMethod yX9_fault, Cond.selects RX9 yX9_fault yX9_fault, Cond.code yX9_fault cX9_fault 1 (some .int), Cond.methodLink RX9 78 yX5_firstFault, Cond.instanceMethod yX5_firstFault, Cond.selects RX5 yX5_firstFault yX5_firstFault, Cond.code yX5_firstFault cX5_firstFault 4 (some .int)]
def wsL_law_r7 : List Cond := [Cond.fieldLink RX5 31 "FlagWash$Plan" "flags" "I", Cond.methodLink RX5 34 yX5_takes, Cond.instanceMethod yX5_takes, Cond.selects RX5 yX5_takes yX5_takes, Cond.code yX5_takes cX5_takes 2 (some .boolean), Cond.methodLink RX5 38 yX5_takesPart, Cond.instanceMethod yX5_takesPart, Cond.selects RX5 yX5_takesPart yX5_takesPart, Cond.code yX5_takesPart cX5_takesPart 2 (some .boolean), Cond.methodLink RX5 50 yX5_goOn, Cond.instanceMethod yX5_goOn, Cond.selects RX5 yX5_goOn yX5_goOn, Cond.code yX5_goOn cX5_goOn 3 (some .boolean), Cond.methodLink RX5 63 yX4_anyNotYetHostile, Cond.instanceMethod yX4_anyNotYetHostile, Cond.selects RX4 yX4_anyNotYetHostile yX4_anyNotYetHostile, Cond.code yX4_anyNotYetHostile cX4_anyNotYetHostile 2 (some .boolean), Cond.methodLink RX4 51 yX4_notYetHostile, Cond.instanceMethod yX4_notYetHostile, Cond.selects RX4 yX4_notYetHostile yX4_notYetHostile, Cond.code yX4_notYetHostile cX4_notYetHostile 2 (some .int), Cond.methodLink RX4 43 yX4_has, Cond.instanceMethod yX4_has, Cond.selects RX4 yX4_has yX4_has]
def wsL_law_r8 : List Cond := [Cond.code yX4_has cX4_has 2 (some .boolean), Cond.methodLink RX4 47 yX4_allBits, Cond.instanceMethod yX4_allBits, Cond.selects RX4 yX4_allBits yX4_allBits, Cond.code yX4_allBits cX4_allBits 1 (some .int), Cond.methodLink RX5 41 yX5_takesOfFlag, Cond.instanceMethod yX5_takesOfFlag, Cond.selects RX5 yX5_takesOfFlag yX5_takesOfFlag, Cond.code yX5_takesOfFlag cX5_takesOfFlag 3 (some .boolean), Cond.static yX9_areColours, Cond.code yX9_areColours cX9_areColours 1 (some .boolean), Cond.methodLink RX5 70 yX4_addFlag, Cond.instanceMethod yX4_addFlag, Cond.selects RX4 yX4_addFlag yX4_addFlag, Cond.code yX4_addFlag cX4_addFlag 4 none, Cond.methodLink RX5 44 yX5_takesOfHostile, Cond.instanceMethod yX5_takesOfHostile, Cond.selects RX5 yX5_takesOfHostile yX5_takesOfHostile, Cond.code yX5_takesOfHostile cX5_takesOfHostile 2 (some .boolean), Cond.methodLink RX5 74 yX4_notYetHostile, Cond.methodLink RX5 78 yX4_has, Cond.methodLink RX5 81 yX4_makeHostile, Cond.instanceMethod yX4_makeHostile, Cond.selects RX4 yX4_makeHostile yX4_makeHostile]
def wsL_law_r9 : List Cond := [Cond.code yX4_makeHostile cX4_makeHostile 3 none, Cond.methodLink RX5 47 yX5_takesOfHead, Cond.instanceMethod yX5_takesOfHead, Cond.selects RX5 yX5_takesOfHead yX5_takesOfHead, Cond.code yX5_takesOfHead cX5_takesOfHead 3 (some .boolean), Cond.fieldLink RX5 54 "FlagWash$Plan" "tubs" "I", Cond.fieldLink RX5 57 "FlagWash$Plan" "pegs" "I", Cond.fieldLink RX5 60 "FlagWash$Plan" "wind" "I", Cond.methodLink RL 26 yX10_fault, Cond.instanceMethod yX10_fault, Cond.selects RX10 yX10_fault yX10_fault, Cond.code yX10_fault cX10_fault 1 (some .int), Cond.methodLink RX10 98 yX10_readText, Cond.instanceMethod yX10_readText, Cond.selects RX10 yX10_readText yX10_readText, Cond.code yX10_readText cX10_readText 2 (some .int), Cond.fieldLink RX10 69 "FlagWashModel" "at" "I", Cond.fieldLink RX10 66 "FlagWashModel" "faultAt" "I", Cond.fieldLink RX10 78 "FlagWashModel" "readFlags" "I", Cond.methodLink RX10 85 yX10_takeOf, Cond.instanceMethod yX10_takeOf, Cond.selects RX10 yX10_takeOf yX10_takeOf, Cond.code yX10_takeOf cX10_takeOf 4 (some .int), Cond.constantLong RX10 72 (15)]
def wsL_law_r10 : List Cond := [Cond.methodLink RX10 74 yX10_has, Cond.static yX10_has, Cond.code yX10_has cX10_has 2 (some .boolean), Cond.methodLink RX10 89 yX10_readPart, Cond.instanceMethod yX10_readPart, Cond.selects RX10 yX10_readPart yX10_readPart, Cond.code yX10_readPart cX10_readPart 4 none, Cond.constant RX10 93 (65535), Cond.methodLink RX10 94 yX10_firstsLeft, Cond.instanceMethod yX10_firstsLeft, Cond.selects RX10 yX10_firstsLeft yX10_firstsLeft, Cond.code yX10_firstsLeft cX10_firstsLeft 3 (some .int), Cond.methodLink RX10 81 yX10_left, Cond.instanceMethod yX10_left, Cond.selects RX10 yX10_left yX10_left, Cond.code yX10_left cX10_left 2 (some .int), Cond.methodLink RL 27 yX9_laundry, Cond.instanceMethod yX9_laundry, Cond.selects RX9 yX9_laundry yX9_laundry, Cond.code yX9_laundry cX9_laundry 2 (some .int), Cond.fieldLink RX9 82 "FlagWash$Reader" "plan" "LFlagWash$Plan;", Cond.fieldLink RX9 92 "FlagWash$Plan" "flags" "I", Cond.methodLink RX9 83 yX4_copyFrom, Cond.instanceMethod yX4_copyFrom]
def wsL_law_r11 : List Cond := [Cond.selects RX4 yX4_copyFrom yX4_copyFrom, Cond.code yX4_copyFrom cX4_copyFrom 2 none, Cond.methodLink RX4 37 arraycopyName, Cond.native arraycopyName, Cond.static arraycopyName, Cond.initialized "java/lang/System", Cond.methodLink RX9 86 yX8_startAnew, Cond.instanceMethod yX8_startAnew, Cond.selects RX8 yX8_startAnew yX8_startAnew, Cond.code yX8_startAnew cX8_startAnew 2 none, Cond.fieldLink RX8 32 "FlagWash$Plan" "colours" "[I", Cond.fieldLink RX8 35 "FlagWash$Plan" "wind" "I", Cond.methodLink RX9 89 yX0_forgetAll, Cond.instanceMethod yX0_forgetAll, Cond.selects RX0 yX0_forgetAll yX0_forgetAll, Cond.code yX0_forgetAll cX0_forgetAll 1 none, Cond.methodLink RL 30 yX10_laundry, Cond.instanceMethod yX10_laundry, Cond.selects RX10 yX10_laundry yX10_laundry, Cond.code yX10_laundry cX10_laundry 2 (some .int), Cond.fieldLink RX10 101 "FlagWashModel" "flags" "I", Cond.fieldLink RX10 104 "FlagWashModel" "acts" "I", Cond.methodLink RL 31 yX9_flag, Cond.instanceMethod yX9_flag]
def wsL_law_r12 : List Cond := [Cond.selects RX9 yX9_flag yX9_flag, Cond.code yX9_flag cX9_flag 3 (some .int), Cond.fieldLink RX9 99 "FlagWash$Wash" "colours" "[I", Cond.fieldLink RX9 102 "FlagWash$Plan" "cloth" "[I", Cond.fieldLink RX9 105 "FlagWash$Plan" "hours" "[I", Cond.fieldLink RX9 108 "FlagWash$Wash" "where" "[I", Cond.fieldLink RX9 111 "FlagWash$Wash" "left" "[I", Cond.fieldLink RX9 114 "FlagWash$Plan" "hostile" "[I", Cond.methodLink RX9 95 yX4_has, Cond.methodLink RL 35 yX10_flag, Cond.instanceMethod yX10_flag, Cond.selects RX10 yX10_flag yX10_flag, Cond.code yX10_flag cX10_flag 3 (some .int), Cond.methodLink RX10 126 yX10_isFlag, Cond.instanceMethod yX10_isFlag, Cond.selects RX10 yX10_isFlag yX10_isFlag, Cond.code yX10_isFlag cX10_isFlag 2 (some .boolean), Cond.methodLink RL 36 yX9_send, Cond.instanceMethod yX9_send, Cond.selects RX9 yX9_send yX9_send, Cond.code yX9_send cX9_send 2 (some .int), Cond.methodLink RX9 117 yX8_canBeSent, Cond.instanceMethod yX8_canBeSent, Cond.selects RX8 yX8_canBeSent yX8_canBeSent]
def wsL_law_r13 : List Cond := [Cond.code yX8_canBeSent cX8_canBeSent 2 (some .boolean), Cond.methodLink RX8 67 yX4_has, Cond.methodLink RX8 71 yX8_freeTubs, Cond.instanceMethod yX8_freeTubs, Cond.selects RX8 yX8_freeTubs yX8_freeTubs, Cond.code yX8_freeTubs cX8_freeTubs 1 (some .int), Cond.fieldLink RX8 49 "FlagWash$Plan" "tubs" "I", Cond.methodLink RX8 45 yX8_bitsAt, Cond.instanceMethod yX8_bitsAt, Cond.selects RX8 yX8_bitsAt yX8_bitsAt, Cond.code yX8_bitsAt cX8_bitsAt 4 (some .int), Cond.fieldLink RX8 42 "FlagWash$Plan" "flags" "I", Cond.methodLink RX8 52 yJ6_bitCount_0f7a4, Cond.static yJ6_bitCount_0f7a4, Cond.initialized RJ6, Cond.code yJ6_bitCount_0f7a4 cJ6_bitCount_0f7a4 1 (some .int), Cond.constant RJ6 265 (1431655765), Cond.constant RJ6 266 (858993459), Cond.constant RJ6 267 (252645135), Cond.methodLink RX9 120 yX0_remember, Cond.instanceMethod yX0_remember, Cond.selects RX0 yX0_remember yX0_remember, Cond.code yX0_remember cX0_remember 2 none, Cond.methodLink RX0 27 yX8_copyFrom]
def wsL_law_r14 : List Cond := [Cond.instanceMethod yX8_copyFrom, Cond.selects RX8 yX8_copyFrom yX8_copyFrom, Cond.code yX8_copyFrom cX8_copyFrom 2 none, Cond.methodLink RX8 36 arraycopyName, Cond.methodLink RX9 123 yX8_putInTub, Cond.instanceMethod yX8_putInTub, Cond.selects RX8 yX8_putInTub yX8_putInTub, Cond.code yX8_putInTub cX8_putInTub 2 none, Cond.fieldLink RX8 74 "FlagWash$Plan" "hours" "[I", Cond.methodLink RX9 127 yX8_freeTubs, Cond.methodLink RL 39 yX10_send, Cond.instanceMethod yX10_send, Cond.selects RX10 yX10_send yX10_send, Cond.code yX10_send cX10_send 2 (some .int), Cond.methodLink RX10 133 yX10_canSend, Cond.instanceMethod yX10_canSend, Cond.selects RX10 yX10_canSend yX10_canSend, Cond.code yX10_canSend cX10_canSend 3 (some .boolean), Cond.methodLink RX10 120 yX10_free, Cond.instanceMethod yX10_free, Cond.selects RX10 yX10_free yX10_free, Cond.code yX10_free cX10_free 3 (some .int), Cond.methodLink RX10 107 yX10_areIn, Cond.instanceMethod yX10_areIn]
def wsL_law_r15 : List Cond := [Cond.selects RX10 yX10_areIn yX10_areIn, Cond.code yX10_areIn cX10_areIn 5 (some .int), Cond.methodLink RX10 110 yX10_ones, Cond.static yX10_ones, Cond.code yX10_ones cX10_ones 3 (some .int), Cond.methodLink RX10 136 yX10_keepAct, Cond.instanceMethod yX10_keepAct, Cond.selects RX10 yX10_keepAct yX10_keepAct, Cond.code yX10_keepAct cX10_keepAct 2 none, Cond.fieldLink RX10 130 "FlagWashModel" "next" "I", Cond.methodLink RX10 139 yX10_sendOn, Cond.instanceMethod yX10_sendOn, Cond.selects RX10 yX10_sendOn yX10_sendOn, Cond.code yX10_sendOn cX10_sendOn 3 none, Cond.methodLink RL 40 yX9_pull, Cond.instanceMethod yX9_pull, Cond.selects RX9 yX9_pull yX9_pull, Cond.code yX9_pull cX9_pull 3 (some .int), Cond.methodLink RX9 131 yX8_canBePulled, Cond.instanceMethod yX8_canBePulled, Cond.selects RX8 yX8_canBePulled yX8_canBePulled, Cond.code yX8_canBePulled cX8_canBePulled 2 (some .boolean), Cond.methodLink RX9 134 yX8_bringHome, Cond.instanceMethod yX8_bringHome]
def wsL_law_r16 : List Cond := [Cond.selects RX8 yX8_bringHome yX8_bringHome, Cond.code yX8_bringHome cX8_bringHome 2 none, Cond.methodLink RL 43 yX10_pull, Cond.instanceMethod yX10_pull, Cond.selects RX10 yX10_pull yX10_pull, Cond.code yX10_pull cX10_pull 3 (some .int), Cond.methodLink RX10 142 yX10_pullOn, Cond.instanceMethod yX10_pullOn, Cond.selects RX10 yX10_pullOn yX10_pullOn, Cond.code yX10_pullOn cX10_pullOn 3 none, Cond.methodLink RL 44 yX9_hour, Cond.instanceMethod yX9_hour, Cond.selects RX9 yX9_hour yX9_hour, Cond.code yX9_hour cX9_hour 1 (some .int), Cond.methodLink RX9 137 yX8_passHour, Cond.instanceMethod yX8_passHour, Cond.selects RX8 yX8_passHour yX8_passHour, Cond.code yX8_passHour cX8_passHour 2 (some .int), Cond.methodLink RX8 77 yX8_dryOnLine, Cond.instanceMethod yX8_dryOnLine, Cond.selects RX8 yX8_dryOnLine yX8_dryOnLine, Cond.code yX8_dryOnLine cX8_dryOnLine 3 (some .int), Cond.methodLink RX8 89 yX8_bringHome, Cond.methodLink RX8 80 yX8_runInTubs]
def wsL_law_r17 : List Cond := [Cond.instanceMethod yX8_runInTubs, Cond.selects RX8 yX8_runInTubs yX8_runInTubs, Cond.code yX8_runInTubs cX8_runInTubs 3 none, Cond.fieldLink RX8 93 "FlagWash$Plan" "cloth" "[I", Cond.methodLink RX8 83 yX8_washInTubs, Cond.instanceMethod yX8_washInTubs, Cond.selects RX8 yX8_washInTubs yX8_washInTubs, Cond.code yX8_washInTubs cX8_washInTubs 2 none, Cond.methodLink RX8 86 yX8_hangUp, Cond.instanceMethod yX8_hangUp, Cond.selects RX8 yX8_hangUp yX8_hangUp, Cond.code yX8_hangUp cX8_hangUp 2 none, Cond.methodLink RX8 96 yX8_freePegs, Cond.instanceMethod yX8_freePegs, Cond.selects RX8 yX8_freePegs yX8_freePegs, Cond.code yX8_freePegs cX8_freePegs 1 (some .int), Cond.fieldLink RX8 57 "FlagWash$Plan" "pegs" "I", Cond.methodLink RX8 99 yX8_wetOf, Cond.static yX8_wetOf, Cond.code yX8_wetOf cX8_wetOf 1 (some .int), Cond.fieldLink RX8 102 "FlagWash$Wash" "WET" "[I", Cond.methodLink RL 47 yX10_hour, Cond.instanceMethod yX10_hour, Cond.selects RX10 yX10_hour yX10_hour]
def wsL_law_r18 : List Cond := [Cond.code yX10_hour cX10_hour 1 (some .int), Cond.methodLink RX10 145 yX10_passOn, Cond.instanceMethod yX10_passOn, Cond.selects RX10 yX10_passOn yX10_passOn, Cond.code yX10_passOn cX10_passOn 8 (some .int), Cond.methodLink RX10 113 yX10_coloursOf, Cond.instanceMethod yX10_coloursOf, Cond.selects RX10 yX10_coloursOf yX10_coloursOf, Cond.code yX10_coloursOf cX10_coloursOf 5 (some .int), Cond.methodLink RX10 116 yX10_hangOn, Cond.instanceMethod yX10_hangOn, Cond.selects RX10 yX10_hangOn yX10_hangOn, Cond.code yX10_hangOn cX10_hangOn 3 none, Cond.methodLink RX10 123 yX10_wetOf, Cond.instanceMethod yX10_wetOf, Cond.selects RX10 yX10_wetOf yX10_wetOf, Cond.code yX10_wetOf cX10_wetOf 2 (some .int), Cond.methodLink RL 48 yX9_wind, Cond.instanceMethod yX9_wind, Cond.selects RX9 yX9_wind yX9_wind, Cond.code yX9_wind cX9_wind 3 (some .int), Cond.fieldLink RX9 140 "FlagWash$Wash" "wind" "I", Cond.methodLink RL 51 yX10_wind, Cond.instanceMethod yX10_wind]
def wsL_law_r19 : List Cond := [Cond.selects RX10 yX10_wind yX10_wind, Cond.code yX10_wind cX10_wind 3 (some .int), Cond.constantLong RX10 148 (2), Cond.methodLink RL 52 yX9_undo, Cond.instanceMethod yX9_undo, Cond.selects RX9 yX9_undo yX9_undo, Cond.code yX9_undo cX9_undo 1 (some .int), Cond.fieldLink RX9 147 "FlagWash$Acts" "size" "I", Cond.methodLink RX9 143 yX0_takeBack, Cond.instanceMethod yX0_takeBack, Cond.selects RX0 yX0_takeBack yX0_takeBack, Cond.code yX0_takeBack cX0_takeBack 2 (some .boolean), Cond.methodLink RL 55 yX10_undo, Cond.instanceMethod yX10_undo, Cond.selects RX10 yX10_undo yX10_undo, Cond.code yX10_undo cX10_undo 2 (some .int), Cond.methodLink RL 56 yX9_peace, Cond.instanceMethod yX9_peace, Cond.selects RX9 yX9_peace yX9_peace, Cond.code yX9_peace cX9_peace 3 (some .int), Cond.methodLink RX9 150 yX2_hoursToFight, Cond.instanceMethod yX2_hoursToFight, Cond.selects RX2 yX2_hoursToFight yX2_hoursToFight, Cond.code yX2_hoursToFight cX2_hoursToFight 5 (some .int)]
def wsL_law_r20 : List Cond := [Cond.fieldLink RX2 15 "FlagWash$Wash" "plan" "LFlagWash$Plan;", Cond.methodLink RX2 21 yX4_hostilePairs, Cond.instanceMethod yX4_hostilePairs, Cond.selects RX4 yX4_hostilePairs yX4_hostilePairs, Cond.code yX4_hostilePairs cX4_hostilePairs 4 (some .int), Cond.methodLink RX4 55 yJ6_bitCount_0f7a4, Cond.methodLink RX2 27 yX8_copyFrom, Cond.methodLink RX2 31 yX8_putInTub, Cond.methodLink RX2 35 yX8_homeBits, Cond.instanceMethod yX8_homeBits, Cond.selects RX8 yX8_homeBits yX8_homeBits, Cond.code yX8_homeBits cX8_homeBits 1 (some .int), Cond.methodLink RX2 39 yX8_passHour, Cond.methodLink RL 59 yX10_peace, Cond.instanceMethod yX10_peace, Cond.selects RX10 yX10_peace yX10_peace, Cond.code yX10_peace cX10_peace 3 (some .int), Cond.methodLink RX10 153 yX10_layTrial, Cond.instanceMethod yX10_layTrial, Cond.selects RX10 yX10_layTrial yX10_layTrial, Cond.code yX10_layTrial cX10_layTrial 2 none, Cond.methodLink RX10 156 yX10_quietOf, Cond.instanceMethod yX10_quietOf, Cond.selects RX10 yX10_quietOf yX10_quietOf]
def wsL_law_r21 : List Cond := [Cond.code yX10_quietOf cX10_quietOf 3 (some .int), Cond.methodLink RX10 150 yX10_fights, Cond.instanceMethod yX10_fights, Cond.selects RX10 yX10_fights yX10_fights, Cond.code yX10_fights cX10_fights 4 (some .int), Cond.methodLink RL 60 yX9_quiet, Cond.instanceMethod yX9_quiet, Cond.selects RX9 yX9_quiet yX9_quiet, Cond.code yX9_quiet cX9_quiet 1 (some .int), Cond.methodLink RL 63 yX10_quiet, Cond.instanceMethod yX10_quiet, Cond.selects RX10 yX10_quiet yX10_quiet, Cond.code yX10_quiet cX10_quiet 1 (some .int), Cond.methodLink RL 64 yX9_sending, Cond.instanceMethod yX9_sending, Cond.selects RX9 yX9_sending yX9_sending, Cond.code yX9_sending cX9_sending 3 (some .int), Cond.methodLink RX9 154 yX2_bestToSend, Cond.instanceMethod yX2_bestToSend, Cond.selects RX2 yX2_bestToSend yX2_bestToSend, Cond.code yX2_bestToSend cX2_bestToSend 9 (some .int), Cond.methodLink RX2 42 yX8_freeTubs, Cond.static yX9_isWithin, Cond.code yX9_isWithin cX9_isWithin 2 (some .boolean)]
def wsL_law_r22 : List Cond := [Cond.methodLink RX2 49 yJ6_bitCount_0f7a4, Cond.methodLink RX2 54 yX2_hoursToFight, Cond.static yX9_isFewer, Cond.code yX9_isFewer cX9_isFewer 2 (some .boolean), Cond.methodLink RX9 255 yJ6_bitCount_0f7a4, Cond.methodLink RL 68 yX10_sending, Cond.instanceMethod yX10_sending, Cond.selects RX10 yX10_sending yX10_sending, Cond.code yX10_sending cX10_sending 9 (some .int), Cond.methodLink RX10 159 yX10_quietBy, Cond.instanceMethod yX10_quietBy, Cond.selects RX10 yX10_quietBy yX10_quietBy, Cond.code yX10_quietBy cX10_quietBy 3 (some .int), Cond.methodLink RL 69 yX9_cover, Cond.instanceMethod yX9_cover, Cond.selects RX9 yX9_cover yX9_cover, Cond.code yX9_cover cX9_cover 5 (some .int), Cond.methodLink RX9 158 yX8_homeBits, Cond.methodLink RX9 161 yX9_isWithin, Cond.methodLink RX9 165 yX4_hostilePairs, Cond.methodLink RX9 169 yX9_isFewer, Cond.methodLink RL 72 yX10_cover, Cond.instanceMethod yX10_cover, Cond.selects RX10 yX10_cover yX10_cover]
def wsL_law_r23 : List Cond := [Cond.code yX10_cover cX10_cover 5 (some .int), Cond.methodLink RL 73 yX9_ran, Cond.instanceMethod yX9_ran, Cond.selects RX9 yX9_ran yX9_ran, Cond.code yX9_ran cX9_ran 7 (some .int), Cond.methodLink RX9 172 yX9_areColours, Cond.methodLink RX9 175 yX4_allBits, Cond.methodLink RX9 178 yX8_coloursOf, Cond.instanceMethod yX8_coloursOf, Cond.selects RX8 yX8_coloursOf yX8_coloursOf, Cond.code yX8_coloursOf cX8_coloursOf 4 (some .int), Cond.methodLink RL 76 yX10_ran, Cond.instanceMethod yX10_ran, Cond.selects RX10 yX10_ran yX10_ran, Cond.code yX10_ran cX10_ran 6 (some .int), Cond.methodLink RL 77 yX9_judge, Cond.instanceMethod yX9_judge, Cond.selects RX9 yX9_judge yX9_judge, Cond.code yX9_judge cX9_judge 5 (some .int), Cond.methodLink RX9 181 yX9_withoutLastFigures, Cond.static yX9_withoutLastFigures, Cond.code yX9_withoutLastFigures cX9_withoutLastFigures 4 (some .int), Cond.methodLink RX9 185 yX8_copyFrom, Cond.methodLink RX9 187 yX8_doFigure]
def wsL_law_r24 : List Cond := [Cond.instanceMethod yX8_doFigure, Cond.selects RX8 yX8_doFigure yX8_doFigure, Cond.code yX8_doFigure cX8_doFigure 3 (some .boolean), Cond.methodLink RX8 105 yX8_passHour, Cond.methodLink RX8 108 yX8_sendIfItCan, Cond.instanceMethod yX8_sendIfItCan, Cond.selects RX8 yX8_sendIfItCan yX8_sendIfItCan, Cond.code yX8_sendIfItCan cX8_sendIfItCan 3 (some .boolean), Cond.methodLink RX8 114 yX8_canBeSent, Cond.methodLink RX8 117 yX8_putInTub, Cond.methodLink RX8 111 yX8_canBePulled, Cond.methodLink RL 80 yX10_judge, Cond.instanceMethod yX10_judge, Cond.selects RX10 yX10_judge yX10_judge, Cond.code yX10_judge cX10_judge 4 (some .int), Cond.constantLong RX10 162 (6), Cond.methodLink RX10 164 yX10_tenTo, Cond.static yX10_tenTo, Cond.code yX10_tenTo cX10_tenTo 3 (some .int), Cond.methodLink RX10 167 yX10_tryThing, Cond.instanceMethod yX10_tryThing, Cond.selects RX10 yX10_tryThing yX10_tryThing, Cond.code yX10_tryThing cX10_tryThing 3 (some .boolean), Cond.methodLink RL 81 yX9_see]
def wsL_law_r25 : List Cond := [Cond.instanceMethod yX9_see, Cond.selects RX9 yX9_see yX9_see, Cond.code yX9_see cX9_see 4 (some .int), Cond.fieldLink RX9 194 "FlagWash$Sightings" "size" "I", Cond.methodLink RX9 190 yX7_add, Cond.instanceMethod yX7_add, Cond.selects RX7 yX7_add yX7_add, Cond.code yX7_add cX7_add 4 (some .boolean), Cond.methodLink RL 85 yX10_see, Cond.instanceMethod yX10_see, Cond.selects RX10 yX10_see yX10_see, Cond.code yX10_see cX10_see 4 (some .int), Cond.constantLong RX10 170 (31), Cond.fieldLink RX10 172 "FlagWashModel" "seen" "I", Cond.methodLink RL 86 yX9_unsee, Cond.instanceMethod yX9_unsee, Cond.selects RX9 yX9_unsee yX9_unsee, Cond.code yX9_unsee cX9_unsee 2 (some .int), Cond.methodLink RX9 195 yX7_forgetAll, Cond.instanceMethod yX7_forgetAll, Cond.selects RX7 yX7_forgetAll yX7_forgetAll, Cond.code yX7_forgetAll cX7_forgetAll 1 none, Cond.methodLink RL 89 yX10_unsee, Cond.instanceMethod yX10_unsee]
def wsL_law_r26 : List Cond := [Cond.selects RX10 yX10_unsee yX10_unsee, Cond.code yX10_unsee cX10_unsee 2 (some .int), Cond.methodLink RL 90 yX9_had, Cond.instanceMethod yX9_had, Cond.selects RX9 yX9_had yX9_had, Cond.code yX9_had cX9_had 3 (some .int), Cond.methodLink RX9 196 yX7_howManySets, Cond.instanceMethod yX7_howManySets, Cond.selects RX7 yX7_howManySets yX7_howManySets, Cond.code yX7_howManySets cX7_howManySets 5 (some .int), Cond.methodLink RX7 25 yX7_fitsAll, Cond.instanceMethod yX7_fitsAll, Cond.selects RX7 yX7_fitsAll yX7_fitsAll, Cond.code yX7_fitsAll cX7_fitsAll 6 (some .boolean), Cond.fieldLink RX7 29 "FlagWash$Wash" "plan" "LFlagWash$Plan;", Cond.methodLink RX7 35 yX4_allBits, Cond.methodLink RX7 45 yX8_coloursOf, Cond.methodLink RX9 200 yX7_coloursInAll, Cond.instanceMethod yX7_coloursInAll, Cond.selects RX7 yX7_coloursInAll yX7_coloursInAll, Cond.code yX7_coloursInAll cX7_coloursInAll 5 (some .int), Cond.methodLink RX9 203 yX7_coloursInNone, Cond.instanceMethod yX7_coloursInNone, Cond.selects RX7 yX7_coloursInNone yX7_coloursInNone]
def wsL_law_r27 : List Cond := [Cond.code yX7_coloursInNone cX7_coloursInNone 5 (some .int), Cond.methodLink RL 93 yX10_had, Cond.instanceMethod yX10_had, Cond.selects RX10 yX10_had yX10_had, Cond.code yX10_had cX10_had 7 (some .int), Cond.methodLink RX10 175 yX10_mayHave, Cond.instanceMethod yX10_mayHave, Cond.selects RX10 yX10_mayHave yX10_mayHave, Cond.code yX10_mayHave cX10_mayHave 6 (some .boolean), Cond.methodLink RL 94 yX9_share, Cond.instanceMethod yX9_share, Cond.selects RX9 yX9_share yX9_share, Cond.code yX9_share cX9_share 3 (some .int), Cond.methodLink RX9 206 yX6_gainInAllOrders, Cond.static yX6_gainInAllOrders, Cond.initialized RX6, Cond.code yX6_gainInAllOrders cX6_gainInAllOrders 6 (some .int), Cond.fieldLink RX6 38 "FlagWash$Plan" "flags" "I", Cond.methodLink RX6 15 yX4_allBits, Cond.methodLink RX6 25 yJ6_bitCount_0f7a4, Cond.methodLink RX6 31 yX6_inPeace, Cond.static yX6_inPeace, Cond.code yX6_inPeace cX6_inPeace 5 (some .int), Cond.fieldLink RX6 42 "FlagWash$Plan" "hostile" "[I"]
def wsL_law_r28 : List Cond := [Cond.methodLink RX6 35 yX6_orders, Cond.static yX6_orders, Cond.code yX6_orders cX6_orders 1 (some .int), Cond.fieldLink RX6 9 "FlagWash$Shares" "ORDERS" "[I", Cond.methodLink RX9 212 yX6_orders, Cond.methodLink RX9 215 yX9_toldFraction, Cond.static yX9_toldFraction, Cond.code yX9_toldFraction cX9_toldFraction 4 (some .int), Cond.methodLink RX9 260 yX9_greatestCommon, Cond.static yX9_greatestCommon, Cond.code yX9_greatestCommon cX9_greatestCommon 6 (some .int), Cond.methodLink RL 98 yX10_share, Cond.instanceMethod yX10_share, Cond.selects RX10 yX10_share yX10_share, Cond.code yX10_share cX10_share 6 (some .int), Cond.methodLink RX10 178 yX10_factorial, Cond.static yX10_factorial, Cond.code yX10_factorial cX10_factorial 3 (some .int), Cond.methodLink RX10 181 yX10_calm, Cond.instanceMethod yX10_calm, Cond.selects RX10 yX10_calm yX10_calm, Cond.code yX10_calm cX10_calm 4 (some .int), Cond.methodLink RX10 184 yX10_common, Cond.static yX10_common]
def wsL_law_r29 : List Cond := [Cond.code yX10_common cX10_common 5 (some .int), Cond.methodLink RL 99 yX9_rests, Cond.instanceMethod yX9_rests, Cond.selects RX9 yX9_rests yX9_rests, Cond.code yX9_rests cX9_rests 4 (some .int), Cond.methodLink RX9 219 yX3_howManyRests, Cond.static yX3_howManyRests, Cond.initialized RX3, Cond.code yX3_howManyRests cX3_howManyRests 6 (some .int), Cond.methodLink RX3 11 yX3_isRest, Cond.static yX3_isRest, Cond.code yX3_isRest cX3_isRest 5 (some .boolean), Cond.methodLink RX3 15 yX3_gain, Cond.static yX3_gain, Cond.code yX3_gain cX3_gain 5 (some .int), Cond.fieldLink RX3 25 "FlagWash$Plan" "hours" "[I", Cond.methodLink RX3 19 yX4_has, Cond.methodLink RX3 29 yX4_areHostile, Cond.instanceMethod yX4_areHostile, Cond.selects RX4 yX4_areHostile yX4_areHostile, Cond.code yX4_areHostile cX4_areHostile 3 (some .boolean), Cond.methodLink RX9 225 yX3_firstRest, Cond.static yX3_firstRest, Cond.code yX3_firstRest cX3_firstRest 5 (some .int)]
def wsL_law_r30 : List Cond := [Cond.methodLink RL 102 yX10_rests, Cond.instanceMethod yX10_rests, Cond.selects RX10 yX10_rests yX10_rests, Cond.code yX10_rests cX10_rests 7 (some .int), Cond.methodLink RX10 191 yX10_isRest, Cond.instanceMethod yX10_isRest, Cond.selects RX10 yX10_isRest yX10_isRest, Cond.code yX10_isRest cX10_isRest 5 (some .boolean), Cond.methodLink RX10 187 yX10_gain, Cond.instanceMethod yX10_gain, Cond.selects RX10 yX10_gain yX10_gain, Cond.code yX10_gain cX10_gain 5 (some .int), Cond.methodLink RL 103 yX9_dry, Cond.instanceMethod yX9_dry, Cond.selects RX9 yX9_dry yX9_dry, Cond.code yX9_dry cX9_dry 5 (some .int), Cond.methodLink RX9 228 yX1_waysToDry, Cond.static yX1_waysToDry, Cond.initialized RX1, Cond.code yX1_waysToDry cX1_waysToDry 5 (some .int), Cond.methodLink RX1 7 yX1_choices, Cond.static yX1_choices, Cond.code yX1_choices cX1_choices 4 (some .int), Cond.methodLink RX1 13 yX1_power]
def wsL_law_r31 : List Cond := [Cond.static yX1_power, Cond.code yX1_power cX1_power 4 (some .int), Cond.methodLink RX9 234 yX1_power, Cond.methodLink RL 107 yX10_dry, Cond.instanceMethod yX10_dry, Cond.selects RX10 yX10_dry yX10_dry, Cond.code yX10_dry cX10_dry 11 (some .int), Cond.constantLong RX10 195 (10), Cond.methodLink RL 110 yX9_seed, Cond.instanceMethod yX9_seed, Cond.selects RX9 yX9_seed yX9_seed, Cond.code yX9_seed cX9_seed 5 (some .long), Cond.methodLink RL 114 yX10_seed, Cond.instanceMethod yX10_seed, Cond.selects RX10 yX10_seed yX10_seed, Cond.code yX10_seed cX10_seed 5 (some .long), Cond.fieldLink RX10 197 "FlagWashModel" "seed" "J", Cond.methodLink RL 115 yX9_weeks, Cond.instanceMethod yX9_weeks, Cond.selects RX9 yX9_weeks yX9_weeks, Cond.code yX9_weeks cX9_weeks 4 (some .int), Cond.constantLong RX9 237 (6364136223846793005), Cond.constantLong RX9 239 (1442695040888963407), Cond.constantLong RX9 241 (10)]
def wsL_law_r32 : List Cond := [Cond.methodLink RX9 243 yX8_doByChance, Cond.instanceMethod yX8_doByChance, Cond.selects RX8 yX8_doByChance yX8_doByChance, Cond.code yX8_doByChance cX8_doByChance 2 none, Cond.methodLink RX9 246 yX8_pairsThatMayFight, Cond.instanceMethod yX8_pairsThatMayFight, Cond.selects RX8 yX8_pairsThatMayFight yX8_pairsThatMayFight, Cond.code yX8_pairsThatMayFight cX8_pairsThatMayFight 1 (some .int), Cond.methodLink RX8 60 yX8_homeBits, Cond.methodLink RX8 64 yX4_hostilePairs, Cond.methodLink RL 118 yX10_weeks, Cond.instanceMethod yX10_weeks, Cond.selects RX10 yX10_weeks yX10_weeks, Cond.code yX10_weeks cX10_weeks 5 (some .int), Cond.constantLong RX10 201 (30), Cond.constantLong RX10 203 (6364136223846793005), Cond.constantLong RX10 205 (1442695040888963407), Cond.methodLink RL 119 yX9_keep, Cond.instanceMethod yX9_keep, Cond.selects RX9 yX9_keep yX9_keep, Cond.code yX9_keep cX9_keep 2 (some .int), Cond.fieldLink RX9 249 "FlagWash$Wash" "hour" "I", Cond.methodLink RL 122 yX10_keep, Cond.instanceMethod yX10_keep]
def wsL_law_r33 : List Cond := [Cond.selects RX10 yX10_keep yX10_keep, Cond.code yX10_keep cX10_keep 3 (some .int), Cond.methodLink RL 123 yX9_again, Cond.instanceMethod yX9_again, Cond.selects RX9 yX9_again yX9_again, Cond.code yX9_again cX9_again 2 (some .int), Cond.methodLink RL 126 yX10_again, Cond.instanceMethod yX10_again, Cond.selects RX10 yX10_again yX10_again, Cond.code yX10_again cX10_again 3 (some .int), Cond.methodLink RL 127 yX9_count, Cond.instanceMethod yX9_count, Cond.selects RX9 yX9_count yX9_count, Cond.code yX9_count cX9_count 2 (some .int), Cond.methodLink RX9 252 yX8_freePegs, Cond.methodLink RL 130 yX10_count, Cond.instanceMethod yX10_count, Cond.selects RX10 yX10_count yX10_count, Cond.code yX10_count cX10_count 2 (some .int)]
def wsL_law : List Cond := (wsL_law_r1 ++ (wsL_law_r2 ++ (wsL_law_r3 ++ (wsL_law_r4 ++ (wsL_law_r5 ++ (wsL_law_r6 ++ (wsL_law_r7 ++ (wsL_law_r8 ++ (wsL_law_r9 ++ (wsL_law_r10 ++ (wsL_law_r11 ++ (wsL_law_r12 ++ (wsL_law_r13 ++ (wsL_law_r14 ++ (wsL_law_r15 ++ (wsL_law_r16 ++ (wsL_law_r17 ++ (wsL_law_r18 ++ (wsL_law_r19 ++ (wsL_law_r20 ++ (wsL_law_r21 ++ (wsL_law_r22 ++ (wsL_law_r23 ++ (wsL_law_r24 ++ (wsL_law_r25 ++ (wsL_law_r26 ++ (wsL_law_r27 ++ (wsL_law_r28 ++ (wsL_law_r29 ++ (wsL_law_r30 ++ (wsL_law_r31 ++ (wsL_law_r32 ++ wsL_law_r33)))))))))))))))))))))))))))))))) ++ wsX90 ++ wsX100 ++ wsX50 ++ wsX40 ++ wsX80 ++ wsX20 ++ wsX00 ++ wsX70 ++ ([] : List Cond)
theorem inJ6 : ∀ w ∈ wsJ60, w ∈ lw_tbl := by decide +kernel
theorem inJ10 : ∀ w ∈ wsJ100, w ∈ lw_tbl := by decide +kernel
set_option maxRecDepth 20000 in
theorem ggX0_init_X8_init : GoodIn wsX0_init wsX8_init := goodIn_r _ [12, 13, 2, 3, 14, 15, 16, 17, 18, 19, 20, 24, 25, 26, 27, 28, 29] (by decide +kernel) (by decide +kernel)
set_option maxRecDepth 20000 in
theorem gX0_init_X8_init : GoodIn wsX0_init (wsX8_init) := ggX0_init_X8_init
theorem dX0_init_0 : decode cX0_init 0 = .ok (.aload_n 0, 1) := by decide +kernel
theorem dX0_init_1 : decode cX0_init 1 = .ok (.invokespecial 3, 3) := by decide +kernel
theorem dX0_init_4 : decode cX0_init 4 = .ok (.aload_n 0, 1) := by decide +kernel
theorem dX0_init_5 : decode cX0_init 5 = .ok (.bipush 14, 2) := by decide +kernel
theorem dX0_init_7 : decode cX0_init 7 = .ok (.anewarray 9, 3) := by decide +kernel
theorem dX0_init_10 : decode cX0_init 10 = .ok (.putfield 11, 3) := by decide +kernel
theorem dX0_init_13 : decode cX0_init 13 = .ok (.aload_n 0, 1) := by decide +kernel
theorem dX0_init_14 : decode cX0_init 14 = .ok (.iconst 0, 1) := by decide +kernel
theorem dX0_init_15 : decode cX0_init 15 = .ok (.putfield 17, 3) := by decide +kernel
theorem dX0_init_18 : decode cX0_init 18 = .ok (.aload_n 0, 1) := by decide +kernel
theorem dX0_init_19 : decode cX0_init 19 = .ok (.iconst 0, 1) := by decide +kernel
theorem dX0_init_20 : decode cX0_init 20 = .ok (.putfield 21, 3) := by decide +kernel
theorem dX0_init_23 : decode cX0_init 23 = .ok (.iconst 0, 1) := by decide +kernel
theorem dX0_init_24 : decode cX0_init 24 = .ok (.istore_n 2, 1) := by decide +kernel
theorem dX0_init_25 : decode cX0_init 25 = .ok (.iload_n 2, 1) := by decide +kernel
theorem dX0_init_26 : decode cX0_init 26 = .ok (.bipush 14, 2) := by decide +kernel
theorem dX0_init_28 : decode cX0_init 28 = .ok (.if_icmp .ge 23, 3) := by decide +kernel
theorem dX0_init_31 : decode cX0_init 31 = .ok (.aload_n 0, 1) := by decide +kernel
theorem dX0_init_32 : decode cX0_init 32 = .ok (.getfield 11, 3) := by decide +kernel
theorem dX0_init_35 : decode cX0_init 35 = .ok (.iload_n 2, 1) := by decide +kernel
theorem dX0_init_36 : decode cX0_init 36 = .ok (.new 9, 3) := by decide +kernel
theorem dX0_init_39 : decode cX0_init 39 = .ok (.dup, 1) := by decide +kernel
theorem dX0_init_40 : decode cX0_init 40 = .ok (.aload_n 1, 1) := by decide +kernel
theorem dX0_init_41 : decode cX0_init 41 = .ok (.invokespecial 24, 3) := by decide +kernel
theorem dX0_init_44 : decode cX0_init 44 = .ok (.aastore, 1) := by decide +kernel
theorem dX0_init_45 : decode cX0_init 45 = .ok (.iinc 2 1, 3) := by decide +kernel
theorem dX0_init_48 : decode cX0_init 48 = .ok (.goto (-23), 3) := by decide +kernel
theorem dX0_init_51 : decode cX0_init 51 = .ok (.return_, 1) := by decide +kernel
theorem dX0_forgetAll_0 : decode cX0_forgetAll 0 = .ok (.aload_n 0, 1) := by decide +kernel
theorem dX0_forgetAll_1 : decode cX0_forgetAll 1 = .ok (.iconst 0, 1) := by decide +kernel
theorem dX0_forgetAll_2 : decode cX0_forgetAll 2 = .ok (.putfield 17, 3) := by decide +kernel
theorem dX0_forgetAll_5 : decode cX0_forgetAll 5 = .ok (.aload_n 0, 1) := by decide +kernel
theorem dX0_forgetAll_6 : decode cX0_forgetAll 6 = .ok (.iconst 0, 1) := by decide +kernel
theorem dX0_forgetAll_7 : decode cX0_forgetAll 7 = .ok (.putfield 21, 3) := by decide +kernel
theorem dX0_forgetAll_10 : decode cX0_forgetAll 10 = .ok (.return_, 1) := by decide +kernel
set_option maxRecDepth 20000 in
theorem ggX0_remember_X8_copyFrom : GoodIn wsX0_remember wsX8_copyFrom := goodIn_r _ [8, 9, 10, 11, 12, 13, 14, 15, 16, 17, 21, 22, 23, 24, 25, 26] (by decide +kernel) (by decide +kernel)
set_option maxRecDepth 20000 in
theorem gX0_remember_X8_copyFrom : GoodIn wsX0_remember (wsV RX0 27 RX8 yX8_copyFrom wsX8_copyFrom) := goodIn_app (goodIn_of _ (by decide +kernel)) ggX0_remember_X8_copyFrom
theorem dX0_remember_0 : decode cX0_remember 0 = .ok (.aload_n 0, 1) := by decide +kernel
theorem dX0_remember_1 : decode cX0_remember 1 = .ok (.getfield 21, 3) := by decide +kernel
theorem dX0_remember_4 : decode cX0_remember 4 = .ok (.bipush 14, 2) := by decide +kernel
theorem dX0_remember_6 : decode cX0_remember 6 = .ok (.if_icmp .ne 26, 3) := by decide +kernel
theorem dX0_remember_9 : decode cX0_remember 9 = .ok (.aload_n 0, 1) := by decide +kernel
theorem dX0_remember_10 : decode cX0_remember 10 = .ok (.aload_n 0, 1) := by decide +kernel
theorem dX0_remember_11 : decode cX0_remember 11 = .ok (.getfield 17, 3) := by decide +kernel
theorem dX0_remember_14 : decode cX0_remember 14 = .ok (.iconst 1, 1) := by decide +kernel
theorem dX0_remember_15 : decode cX0_remember 15 = .ok (.iadd, 1) := by decide +kernel
theorem dX0_remember_16 : decode cX0_remember 16 = .ok (.bipush 14, 2) := by decide +kernel
theorem dX0_remember_18 : decode cX0_remember 18 = .ok (.irem, 1) := by decide +kernel
theorem dX0_remember_19 : decode cX0_remember 19 = .ok (.putfield 17, 3) := by decide +kernel
theorem dX0_remember_22 : decode cX0_remember 22 = .ok (.aload_n 0, 1) := by decide +kernel
theorem dX0_remember_23 : decode cX0_remember 23 = .ok (.dup, 1) := by decide +kernel
theorem dX0_remember_24 : decode cX0_remember 24 = .ok (.getfield 21, 3) := by decide +kernel
theorem dX0_remember_27 : decode cX0_remember 27 = .ok (.iconst 1, 1) := by decide +kernel
theorem dX0_remember_28 : decode cX0_remember 28 = .ok (.isub, 1) := by decide +kernel
theorem dX0_remember_29 : decode cX0_remember 29 = .ok (.putfield 21, 3) := by decide +kernel
theorem dX0_remember_32 : decode cX0_remember 32 = .ok (.aload_n 0, 1) := by decide +kernel
theorem dX0_remember_33 : decode cX0_remember 33 = .ok (.getfield 11, 3) := by decide +kernel
theorem dX0_remember_36 : decode cX0_remember 36 = .ok (.aload_n 0, 1) := by decide +kernel
theorem dX0_remember_37 : decode cX0_remember 37 = .ok (.getfield 17, 3) := by decide +kernel
theorem dX0_remember_40 : decode cX0_remember 40 = .ok (.aload_n 0, 1) := by decide +kernel
theorem dX0_remember_41 : decode cX0_remember 41 = .ok (.getfield 21, 3) := by decide +kernel
theorem dX0_remember_44 : decode cX0_remember 44 = .ok (.iadd, 1) := by decide +kernel
theorem dX0_remember_45 : decode cX0_remember 45 = .ok (.bipush 14, 2) := by decide +kernel
theorem dX0_remember_47 : decode cX0_remember 47 = .ok (.irem, 1) := by decide +kernel
theorem dX0_remember_48 : decode cX0_remember 48 = .ok (.aaload, 1) := by decide +kernel
theorem dX0_remember_49 : decode cX0_remember 49 = .ok (.aload_n 1, 1) := by decide +kernel
theorem dX0_remember_50 : decode cX0_remember 50 = .ok (.invokevirtual 27, 3) := by decide +kernel
theorem dX0_remember_53 : decode cX0_remember 53 = .ok (.aload_n 0, 1) := by decide +kernel
theorem dX0_remember_54 : decode cX0_remember 54 = .ok (.dup, 1) := by decide +kernel
theorem dX0_remember_55 : decode cX0_remember 55 = .ok (.getfield 21, 3) := by decide +kernel
theorem dX0_remember_58 : decode cX0_remember 58 = .ok (.iconst 1, 1) := by decide +kernel
theorem dX0_remember_59 : decode cX0_remember 59 = .ok (.iadd, 1) := by decide +kernel
theorem dX0_remember_60 : decode cX0_remember 60 = .ok (.putfield 21, 3) := by decide +kernel
theorem dX0_remember_63 : decode cX0_remember 63 = .ok (.return_, 1) := by decide +kernel
set_option maxRecDepth 20000 in
theorem ggX0_takeBack_X8_copyFrom : GoodIn wsX0_takeBack wsX8_copyFrom := goodIn_r _ [8, 9, 10, 11, 12, 13, 14, 15, 16, 17, 21, 22, 23, 24, 25, 26] (by decide +kernel) (by decide +kernel)
set_option maxRecDepth 20000 in
theorem gX0_takeBack_X8_copyFrom : GoodIn wsX0_takeBack (wsV RX0 27 RX8 yX8_copyFrom wsX8_copyFrom) := goodIn_app (goodIn_of _ (by decide +kernel)) ggX0_takeBack_X8_copyFrom
theorem dX0_takeBack_0 : decode cX0_takeBack 0 = .ok (.aload_n 0, 1) := by decide +kernel
theorem dX0_takeBack_1 : decode cX0_takeBack 1 = .ok (.getfield 21, 3) := by decide +kernel
theorem dX0_takeBack_4 : decode cX0_takeBack 4 = .ok (.ifCond .ne 5, 3) := by decide +kernel
theorem dX0_takeBack_7 : decode cX0_takeBack 7 = .ok (.iconst 0, 1) := by decide +kernel
theorem dX0_takeBack_8 : decode cX0_takeBack 8 = .ok (.ireturn, 1) := by decide +kernel
theorem dX0_takeBack_9 : decode cX0_takeBack 9 = .ok (.aload_n 0, 1) := by decide +kernel
theorem dX0_takeBack_10 : decode cX0_takeBack 10 = .ok (.dup, 1) := by decide +kernel
theorem dX0_takeBack_11 : decode cX0_takeBack 11 = .ok (.getfield 21, 3) := by decide +kernel
theorem dX0_takeBack_14 : decode cX0_takeBack 14 = .ok (.iconst 1, 1) := by decide +kernel
theorem dX0_takeBack_15 : decode cX0_takeBack 15 = .ok (.isub, 1) := by decide +kernel
theorem dX0_takeBack_16 : decode cX0_takeBack 16 = .ok (.putfield 21, 3) := by decide +kernel
theorem dX0_takeBack_19 : decode cX0_takeBack 19 = .ok (.aload_n 1, 1) := by decide +kernel
theorem dX0_takeBack_20 : decode cX0_takeBack 20 = .ok (.aload_n 0, 1) := by decide +kernel
theorem dX0_takeBack_21 : decode cX0_takeBack 21 = .ok (.getfield 11, 3) := by decide +kernel
theorem dX0_takeBack_24 : decode cX0_takeBack 24 = .ok (.aload_n 0, 1) := by decide +kernel
theorem dX0_takeBack_25 : decode cX0_takeBack 25 = .ok (.getfield 17, 3) := by decide +kernel
theorem dX0_takeBack_28 : decode cX0_takeBack 28 = .ok (.aload_n 0, 1) := by decide +kernel
theorem dX0_takeBack_29 : decode cX0_takeBack 29 = .ok (.getfield 21, 3) := by decide +kernel
theorem dX0_takeBack_32 : decode cX0_takeBack 32 = .ok (.iadd, 1) := by decide +kernel
theorem dX0_takeBack_33 : decode cX0_takeBack 33 = .ok (.bipush 14, 2) := by decide +kernel
theorem dX0_takeBack_35 : decode cX0_takeBack 35 = .ok (.irem, 1) := by decide +kernel
theorem dX0_takeBack_36 : decode cX0_takeBack 36 = .ok (.aaload, 1) := by decide +kernel
theorem dX0_takeBack_37 : decode cX0_takeBack 37 = .ok (.invokevirtual 27, 3) := by decide +kernel
theorem dX0_takeBack_40 : decode cX0_takeBack 40 = .ok (.iconst 1, 1) := by decide +kernel
theorem dX0_takeBack_41 : decode cX0_takeBack 41 = .ok (.ireturn, 1) := by decide +kernel
set_option maxRecDepth 20000 in
theorem ggX1_waysToDry_X1_choices : GoodIn wsX1_waysToDry wsX1_choices := goodIn_r _ [4] (by decide +kernel) (by decide +kernel)
set_option maxRecDepth 20000 in
theorem gX1_waysToDry_X1_choices : GoodIn wsX1_waysToDry (va_wsS RX1 7 yX1_choices wsX1_choices) := goodIn_app (goodIn_of _ (by decide +kernel)) ggX1_waysToDry_X1_choices
set_option maxRecDepth 20000 in
theorem ggX1_waysToDry_X1_power : GoodIn wsX1_waysToDry wsX1_power := goodIn_r _ [7] (by decide +kernel) (by decide +kernel)
set_option maxRecDepth 20000 in
theorem gX1_waysToDry_X1_power : GoodIn wsX1_waysToDry (va_wsS RX1 13 yX1_power wsX1_power) := goodIn_app (goodIn_of _ (by decide +kernel)) ggX1_waysToDry_X1_power
theorem dX1_waysToDry_0 : decode cX1_waysToDry 0 = .ok (.iconst 0, 1) := by decide +kernel
theorem dX1_waysToDry_1 : decode cX1_waysToDry 1 = .ok (.istore_n 3, 1) := by decide +kernel
theorem dX1_waysToDry_2 : decode cX1_waysToDry 2 = .ok (.iconst 0, 1) := by decide +kernel
theorem dX1_waysToDry_3 : decode cX1_waysToDry 3 = .ok (.istore 4, 2) := by decide +kernel
theorem dX1_waysToDry_5 : decode cX1_waysToDry 5 = .ok (.iload 4, 2) := by decide +kernel
theorem dX1_waysToDry_7 : decode cX1_waysToDry 7 = .ok (.iload_n 1, 1) := by decide +kernel
theorem dX1_waysToDry_8 : decode cX1_waysToDry 8 = .ok (.if_icmp .gt 47, 3) := by decide +kernel
theorem dX1_waysToDry_11 : decode cX1_waysToDry 11 = .ok (.iload_n 1, 1) := by decide +kernel
theorem dX1_waysToDry_12 : decode cX1_waysToDry 12 = .ok (.iconst 2, 1) := by decide +kernel
theorem dX1_waysToDry_13 : decode cX1_waysToDry 13 = .ok (.iload 4, 2) := by decide +kernel
theorem dX1_waysToDry_15 : decode cX1_waysToDry 15 = .ok (.imul, 1) := by decide +kernel
theorem dX1_waysToDry_16 : decode cX1_waysToDry 16 = .ok (.iadd, 1) := by decide +kernel
theorem dX1_waysToDry_17 : decode cX1_waysToDry 17 = .ok (.iload_n 0, 1) := by decide +kernel
theorem dX1_waysToDry_18 : decode cX1_waysToDry 18 = .ok (.if_icmp .lt 31, 3) := by decide +kernel
theorem dX1_waysToDry_21 : decode cX1_waysToDry 21 = .ok (.iload_n 3, 1) := by decide +kernel
theorem dX1_waysToDry_22 : decode cX1_waysToDry 22 = .ok (.iload_n 1, 1) := by decide +kernel
theorem dX1_waysToDry_23 : decode cX1_waysToDry 23 = .ok (.iload 4, 2) := by decide +kernel
theorem dX1_waysToDry_25 : decode cX1_waysToDry 25 = .ok (.invokestatic 7, 3) := by decide +kernel
theorem dX1_waysToDry_28 : decode cX1_waysToDry 28 = .ok (.iload_n 2, 1) := by decide +kernel
theorem dX1_waysToDry_29 : decode cX1_waysToDry 29 = .ok (.iload 4, 2) := by decide +kernel
theorem dX1_waysToDry_31 : decode cX1_waysToDry 31 = .ok (.invokestatic 13, 3) := by decide +kernel
theorem dX1_waysToDry_34 : decode cX1_waysToDry 34 = .ok (.imul, 1) := by decide +kernel
theorem dX1_waysToDry_35 : decode cX1_waysToDry 35 = .ok (.bipush 10, 2) := by decide +kernel
theorem dX1_waysToDry_37 : decode cX1_waysToDry 37 = .ok (.iload_n 2, 1) := by decide +kernel
theorem dX1_waysToDry_38 : decode cX1_waysToDry 38 = .ok (.isub, 1) := by decide +kernel
theorem dX1_waysToDry_39 : decode cX1_waysToDry 39 = .ok (.iload_n 1, 1) := by decide +kernel
theorem dX1_waysToDry_40 : decode cX1_waysToDry 40 = .ok (.iload 4, 2) := by decide +kernel
theorem dX1_waysToDry_42 : decode cX1_waysToDry 42 = .ok (.isub, 1) := by decide +kernel
theorem dX1_waysToDry_43 : decode cX1_waysToDry 43 = .ok (.invokestatic 13, 3) := by decide +kernel
theorem dX1_waysToDry_46 : decode cX1_waysToDry 46 = .ok (.imul, 1) := by decide +kernel
theorem dX1_waysToDry_47 : decode cX1_waysToDry 47 = .ok (.iadd, 1) := by decide +kernel
theorem dX1_waysToDry_48 : decode cX1_waysToDry 48 = .ok (.istore_n 3, 1) := by decide +kernel
theorem dX1_waysToDry_49 : decode cX1_waysToDry 49 = .ok (.iinc 4 1, 3) := by decide +kernel
theorem dX1_waysToDry_52 : decode cX1_waysToDry 52 = .ok (.goto (-47), 3) := by decide +kernel
theorem dX1_waysToDry_55 : decode cX1_waysToDry 55 = .ok (.iload_n 3, 1) := by decide +kernel
theorem dX1_waysToDry_56 : decode cX1_waysToDry 56 = .ok (.ireturn, 1) := by decide +kernel
theorem dX1_power_0 : decode cX1_power 0 = .ok (.iconst 1, 1) := by decide +kernel
theorem dX1_power_1 : decode cX1_power 1 = .ok (.istore_n 2, 1) := by decide +kernel
theorem dX1_power_2 : decode cX1_power 2 = .ok (.iconst 0, 1) := by decide +kernel
theorem dX1_power_3 : decode cX1_power 3 = .ok (.istore_n 3, 1) := by decide +kernel
theorem dX1_power_4 : decode cX1_power 4 = .ok (.iload_n 3, 1) := by decide +kernel
theorem dX1_power_5 : decode cX1_power 5 = .ok (.iload_n 1, 1) := by decide +kernel
theorem dX1_power_6 : decode cX1_power 6 = .ok (.if_icmp .ge 13, 3) := by decide +kernel
theorem dX1_power_9 : decode cX1_power 9 = .ok (.iload_n 2, 1) := by decide +kernel
theorem dX1_power_10 : decode cX1_power 10 = .ok (.iload_n 0, 1) := by decide +kernel
theorem dX1_power_11 : decode cX1_power 11 = .ok (.imul, 1) := by decide +kernel
theorem dX1_power_12 : decode cX1_power 12 = .ok (.istore_n 2, 1) := by decide +kernel
theorem dX1_power_13 : decode cX1_power 13 = .ok (.iinc 3 1, 3) := by decide +kernel
theorem dX1_power_16 : decode cX1_power 16 = .ok (.goto (-12), 3) := by decide +kernel
theorem dX1_power_19 : decode cX1_power 19 = .ok (.iload_n 2, 1) := by decide +kernel
theorem dX1_power_20 : decode cX1_power 20 = .ok (.ireturn, 1) := by decide +kernel
theorem dX1_choices_0 : decode cX1_choices 0 = .ok (.iconst 1, 1) := by decide +kernel
theorem dX1_choices_1 : decode cX1_choices 1 = .ok (.istore_n 2, 1) := by decide +kernel
theorem dX1_choices_2 : decode cX1_choices 2 = .ok (.iconst 1, 1) := by decide +kernel
theorem dX1_choices_3 : decode cX1_choices 3 = .ok (.istore_n 3, 1) := by decide +kernel
theorem dX1_choices_4 : decode cX1_choices 4 = .ok (.iload_n 3, 1) := by decide +kernel
theorem dX1_choices_5 : decode cX1_choices 5 = .ok (.iload_n 1, 1) := by decide +kernel
theorem dX1_choices_6 : decode cX1_choices 6 = .ok (.if_icmp .gt 19, 3) := by decide +kernel
theorem dX1_choices_9 : decode cX1_choices 9 = .ok (.iload_n 2, 1) := by decide +kernel
theorem dX1_choices_10 : decode cX1_choices 10 = .ok (.iload_n 0, 1) := by decide +kernel
theorem dX1_choices_11 : decode cX1_choices 11 = .ok (.iload_n 1, 1) := by decide +kernel
theorem dX1_choices_12 : decode cX1_choices 12 = .ok (.isub, 1) := by decide +kernel
theorem dX1_choices_13 : decode cX1_choices 13 = .ok (.iload_n 3, 1) := by decide +kernel
theorem dX1_choices_14 : decode cX1_choices 14 = .ok (.iadd, 1) := by decide +kernel
theorem dX1_choices_15 : decode cX1_choices 15 = .ok (.imul, 1) := by decide +kernel
theorem dX1_choices_16 : decode cX1_choices 16 = .ok (.iload_n 3, 1) := by decide +kernel
theorem dX1_choices_17 : decode cX1_choices 17 = .ok (.idiv, 1) := by decide +kernel
theorem dX1_choices_18 : decode cX1_choices 18 = .ok (.istore_n 2, 1) := by decide +kernel
theorem dX1_choices_19 : decode cX1_choices 19 = .ok (.iinc 3 1, 3) := by decide +kernel
theorem dX1_choices_22 : decode cX1_choices 22 = .ok (.goto (-18), 3) := by decide +kernel
theorem dX1_choices_25 : decode cX1_choices 25 = .ok (.iload_n 2, 1) := by decide +kernel
theorem dX1_choices_26 : decode cX1_choices 26 = .ok (.ireturn, 1) := by decide +kernel
theorem dX2_init_0 : decode cX2_init 0 = .ok (.aload_n 0, 1) := by decide +kernel
theorem dX2_init_1 : decode cX2_init 1 = .ok (.invokespecial 3, 3) := by decide +kernel
theorem dX2_init_4 : decode cX2_init 4 = .ok (.aload_n 0, 1) := by decide +kernel
theorem dX2_init_5 : decode cX2_init 5 = .ok (.aload_n 1, 1) := by decide +kernel
theorem dX2_init_6 : decode cX2_init 6 = .ok (.putfield 9, 3) := by decide +kernel
theorem dX2_init_9 : decode cX2_init 9 = .ok (.return_, 1) := by decide +kernel
set_option maxRecDepth 20000 in
theorem ggX2_hoursToFight_X4_hostilePairs : GoodIn wsX2_hoursToFight wsX4_hostilePairs := goodIn_r _ [7, 8, 9, 10, 11, 12, 13, 14, 15, 16, 92, 93, 94, 95, 96, 97, 98, 99] (by decide +kernel) (by decide +kernel)
set_option maxRecDepth 20000 in
theorem gX2_hoursToFight_X4_hostilePairs : GoodIn wsX2_hoursToFight (wsV RX2 21 RX4 yX4_hostilePairs wsX4_hostilePairs) := goodIn_app (goodIn_of _ (by decide +kernel)) ggX2_hoursToFight_X4_hostilePairs
set_option maxRecDepth 20000 in
theorem ggX2_hoursToFight_X8_copyFrom : GoodIn wsX2_hoursToFight wsX8_copyFrom := goodIn_r _ [21, 22, 23, 24, 25, 26, 27, 28, 29, 30, 85, 86, 87, 88, 89, 90] (by decide +kernel) (by decide +kernel)
set_option maxRecDepth 20000 in
theorem gX2_hoursToFight_X8_copyFrom : GoodIn wsX2_hoursToFight (wsV RX2 27 RX8 yX8_copyFrom wsX8_copyFrom) := goodIn_app (goodIn_of _ (by decide +kernel)) ggX2_hoursToFight_X8_copyFrom
set_option maxRecDepth 20000 in
theorem ggX2_hoursToFight_X8_putInTub : GoodIn wsX2_hoursToFight wsX8_putInTub := goodIn_r _ [34, 35, 22, 27, 36, 37, 38, 39, 6, 40, 8, 85, 86, 87, 88, 89, 90, 92, 93, 94, 95, 96, 97, 98, 99] (by decide +kernel) (by decide +kernel)
set_option maxRecDepth 20000 in
theorem gX2_hoursToFight_X8_putInTub : GoodIn wsX2_hoursToFight (wsV RX2 31 RX8 yX8_putInTub wsX8_putInTub) := goodIn_app (goodIn_of _ (by decide +kernel)) ggX2_hoursToFight_X8_putInTub
set_option maxRecDepth 20000 in
theorem ggX2_hoursToFight_X8_homeBits : GoodIn wsX2_hoursToFight wsX8_homeBits := goodIn_r _ [44, 45, 46, 47, 20, 48, 35, 49, 22, 85, 86, 87, 88, 89, 90, 92, 93, 94, 95, 96, 97, 98, 99] (by decide +kernel) (by decide +kernel)
set_option maxRecDepth 20000 in
theorem gX2_hoursToFight_X8_homeBits : GoodIn wsX2_hoursToFight (wsV RX2 35 RX8 yX8_homeBits wsX8_homeBits) := goodIn_app (goodIn_of _ (by decide +kernel)) ggX2_hoursToFight_X8_homeBits
set_option maxRecDepth 20000 in
theorem ggX2_hoursToFight_X8_passHour : GoodIn wsX2_hoursToFight wsX8_passHour := goodIn_r _ [53, 30, 54, 55, 56, 20, 57, 35, 49, 22, 27, 29, 58, 59, 60, 61, 37, 38, 39, 6, 40, 8, 62, 63, 64, 65, 66, 28, 67, 68, 69, 70, 71, 72, 73, 74, 75, 76, 77, 78, 79, 45, 46, 47, 48, 80, 11, 12, 13, 14, 15, 16, 81, 82, 83, 84, 85, 86, 87, 88, 89, 90, 92, 93, 94, 95, 96, 97, 98, 99] (by decide +kernel) (by decide +kernel)
set_option maxRecDepth 20000 in
theorem gX2_hoursToFight_X8_passHour : GoodIn wsX2_hoursToFight (wsV RX2 39 RX8 yX8_passHour wsX8_passHour) := goodIn_app (goodIn_of _ (by decide +kernel)) ggX2_hoursToFight_X8_passHour
theorem dX2_hoursToFight_0 : decode cX2_hoursToFight 0 = .ok (.aload_n 1, 1) := by decide +kernel
theorem dX2_hoursToFight_1 : decode cX2_hoursToFight 1 = .ok (.getfield 15, 3) := by decide +kernel
theorem dX2_hoursToFight_4 : decode cX2_hoursToFight 4 = .ok (.iload_n 3, 1) := by decide +kernel
theorem dX2_hoursToFight_5 : decode cX2_hoursToFight 5 = .ok (.invokevirtual 21, 3) := by decide +kernel
theorem dX2_hoursToFight_8 : decode cX2_hoursToFight 8 = .ok (.ifCond .ne 6, 3) := by decide +kernel
theorem dX2_hoursToFight_11 : decode cX2_hoursToFight 11 = .ok (.bipush (-9), 2) := by decide +kernel
theorem dX2_hoursToFight_13 : decode cX2_hoursToFight 13 = .ok (.ireturn, 1) := by decide +kernel
theorem dX2_hoursToFight_14 : decode cX2_hoursToFight 14 = .ok (.aload_n 0, 1) := by decide +kernel
theorem dX2_hoursToFight_15 : decode cX2_hoursToFight 15 = .ok (.getfield 9, 3) := by decide +kernel
theorem dX2_hoursToFight_18 : decode cX2_hoursToFight 18 = .ok (.aload_n 1, 1) := by decide +kernel
theorem dX2_hoursToFight_19 : decode cX2_hoursToFight 19 = .ok (.invokevirtual 27, 3) := by decide +kernel
theorem dX2_hoursToFight_22 : decode cX2_hoursToFight 22 = .ok (.iconst 0, 1) := by decide +kernel
theorem dX2_hoursToFight_23 : decode cX2_hoursToFight 23 = .ok (.istore 4, 2) := by decide +kernel
theorem dX2_hoursToFight_25 : decode cX2_hoursToFight 25 = .ok (.iload 4, 2) := by decide +kernel
theorem dX2_hoursToFight_27 : decode cX2_hoursToFight 27 = .ok (.iconst 5, 1) := by decide +kernel
theorem dX2_hoursToFight_28 : decode cX2_hoursToFight 28 = .ok (.if_icmp .ge 27, 3) := by decide +kernel
theorem dX2_hoursToFight_31 : decode cX2_hoursToFight 31 = .ok (.iload_n 2, 1) := by decide +kernel
theorem dX2_hoursToFight_32 : decode cX2_hoursToFight 32 = .ok (.iload 4, 2) := by decide +kernel
theorem dX2_hoursToFight_34 : decode cX2_hoursToFight 34 = .ok (.ishr, 1) := by decide +kernel
theorem dX2_hoursToFight_35 : decode cX2_hoursToFight 35 = .ok (.iconst 1, 1) := by decide +kernel
theorem dX2_hoursToFight_36 : decode cX2_hoursToFight 36 = .ok (.iand, 1) := by decide +kernel
theorem dX2_hoursToFight_37 : decode cX2_hoursToFight 37 = .ok (.ifCond .eq 12, 3) := by decide +kernel
theorem dX2_hoursToFight_40 : decode cX2_hoursToFight 40 = .ok (.aload_n 0, 1) := by decide +kernel
theorem dX2_hoursToFight_41 : decode cX2_hoursToFight 41 = .ok (.getfield 9, 3) := by decide +kernel
theorem dX2_hoursToFight_44 : decode cX2_hoursToFight 44 = .ok (.iload 4, 2) := by decide +kernel
theorem dX2_hoursToFight_46 : decode cX2_hoursToFight 46 = .ok (.invokevirtual 31, 3) := by decide +kernel
theorem dX2_hoursToFight_49 : decode cX2_hoursToFight 49 = .ok (.iinc 4 1, 3) := by decide +kernel
theorem dX2_hoursToFight_52 : decode cX2_hoursToFight 52 = .ok (.goto (-27), 3) := by decide +kernel
theorem dX2_hoursToFight_55 : decode cX2_hoursToFight 55 = .ok (.iconst 0, 1) := by decide +kernel
theorem dX2_hoursToFight_56 : decode cX2_hoursToFight 56 = .ok (.istore 4, 2) := by decide +kernel
theorem dX2_hoursToFight_58 : decode cX2_hoursToFight 58 = .ok (.iload 4, 2) := by decide +kernel
theorem dX2_hoursToFight_60 : decode cX2_hoursToFight 60 = .ok (.bipush 40, 2) := by decide +kernel
theorem dX2_hoursToFight_62 : decode cX2_hoursToFight 62 = .ok (.if_icmp .gt 42, 3) := by decide +kernel
theorem dX2_hoursToFight_65 : decode cX2_hoursToFight 65 = .ok (.aload_n 0, 1) := by decide +kernel
theorem dX2_hoursToFight_66 : decode cX2_hoursToFight 66 = .ok (.getfield 9, 3) := by decide +kernel
theorem dX2_hoursToFight_69 : decode cX2_hoursToFight 69 = .ok (.getfield 15, 3) := by decide +kernel
theorem dX2_hoursToFight_72 : decode cX2_hoursToFight 72 = .ok (.aload_n 0, 1) := by decide +kernel
theorem dX2_hoursToFight_73 : decode cX2_hoursToFight 73 = .ok (.getfield 9, 3) := by decide +kernel
theorem dX2_hoursToFight_76 : decode cX2_hoursToFight 76 = .ok (.invokevirtual 35, 3) := by decide +kernel
theorem dX2_hoursToFight_79 : decode cX2_hoursToFight 79 = .ok (.iload_n 3, 1) := by decide +kernel
theorem dX2_hoursToFight_80 : decode cX2_hoursToFight 80 = .ok (.iand, 1) := by decide +kernel
theorem dX2_hoursToFight_81 : decode cX2_hoursToFight 81 = .ok (.invokevirtual 21, 3) := by decide +kernel
theorem dX2_hoursToFight_84 : decode cX2_hoursToFight 84 = .ok (.ifCond .le 6, 3) := by decide +kernel
theorem dX2_hoursToFight_87 : decode cX2_hoursToFight 87 = .ok (.iload 4, 2) := by decide +kernel
theorem dX2_hoursToFight_89 : decode cX2_hoursToFight 89 = .ok (.ireturn, 1) := by decide +kernel
theorem dX2_hoursToFight_90 : decode cX2_hoursToFight 90 = .ok (.aload_n 0, 1) := by decide +kernel
theorem dX2_hoursToFight_91 : decode cX2_hoursToFight 91 = .ok (.getfield 9, 3) := by decide +kernel
theorem dX2_hoursToFight_94 : decode cX2_hoursToFight 94 = .ok (.invokevirtual 39, 3) := by decide +kernel
theorem dX2_hoursToFight_97 : decode cX2_hoursToFight 97 = .ok (.pop, 1) := by decide +kernel
theorem dX2_hoursToFight_98 : decode cX2_hoursToFight 98 = .ok (.iinc 4 1, 3) := by decide +kernel
theorem dX2_hoursToFight_101 : decode cX2_hoursToFight 101 = .ok (.goto (-43), 3) := by decide +kernel
theorem dX2_hoursToFight_104 : decode cX2_hoursToFight 104 = .ok (.bipush (-9), 2) := by decide +kernel
theorem dX2_hoursToFight_106 : decode cX2_hoursToFight 106 = .ok (.ireturn, 1) := by decide +kernel
set_option maxRecDepth 20000 in
theorem ggX2_bestToSend_X8_homeBits : GoodIn wsX2_bestToSend wsX8_homeBits := goodIn_r _ [5, 6, 7, 8, 4, 9, 10, 11, 12, 102, 103, 104, 105, 106, 107, 108, 109, 110, 111, 112, 113, 114, 115] (by decide +kernel) (by decide +kernel)
set_option maxRecDepth 20000 in
theorem gX2_bestToSend_X8_homeBits : GoodIn wsX2_bestToSend (wsV RX2 35 RX8 yX8_homeBits wsX8_homeBits) := goodIn_app (goodIn_of _ (by decide +kernel)) ggX2_bestToSend_X8_homeBits
set_option maxRecDepth 20000 in
theorem ggX2_bestToSend_X8_freeTubs : GoodIn wsX2_bestToSend wsX8_freeTubs := goodIn_r _ [16, 10, 17, 6, 7, 8, 4, 9, 11, 12, 18, 19, 20, 21, 22, 23, 24, 102, 103, 104, 105, 106, 107, 108, 109, 110, 111, 112, 113, 114, 115] (by decide +kernel) (by decide +kernel)
set_option maxRecDepth 20000 in
theorem gX2_bestToSend_X8_freeTubs : GoodIn wsX2_bestToSend (wsV RX2 42 RX8 yX8_freeTubs wsX8_freeTubs) := goodIn_app (goodIn_of _ (by decide +kernel)) ggX2_bestToSend_X8_freeTubs
set_option maxRecDepth 20000 in
theorem ggX2_bestToSend_X9_isWithin : GoodIn wsX2_bestToSend wsX9_isWithin := goodIn_r _ [27] (by decide +kernel) (by decide +kernel)
set_option maxRecDepth 20000 in
theorem gX2_bestToSend_X9_isWithin_n45 : GoodIn wsX2_bestToSend (wsX9_isWithin) := ggX2_bestToSend_X9_isWithin
set_option maxRecDepth 20000 in
theorem ggX2_bestToSend_J6_bitCount_0f7a4 : GoodIn wsX2_bestToSend wsJ6_bitCount_0f7a4 := goodIn_r _ [21, 22, 23, 24] (by decide +kernel) (by decide +kernel)
set_option maxRecDepth 20000 in
theorem gX2_bestToSend_J6_bitCount_0f7a4 : GoodIn wsX2_bestToSend (va_wsS RX2 49 yJ6_bitCount_0f7a4 wsJ6_bitCount_0f7a4) := goodIn_app (goodIn_of _ (by decide +kernel)) ggX2_bestToSend_J6_bitCount_0f7a4
set_option maxRecDepth 20000 in
theorem ggX2_bestToSend_X2_hoursToFight : GoodIn wsX2_bestToSend wsX2_hoursToFight := goodIn_r _ [33, 34, 35, 36, 37, 38, 39, 40, 41, 42, 43, 19, 20, 21, 22, 23, 24, 44, 45, 46, 4, 47, 12, 48, 49, 50, 51, 52, 53, 54, 55, 56, 57, 58, 59, 10, 60, 61, 62, 63, 64, 1, 2, 3, 5, 6, 7, 8, 9, 11, 65, 66, 67, 68, 69, 70, 71, 72, 73, 74, 75, 76, 77, 78, 79, 80, 81, 82, 83, 84, 85, 86, 87, 88, 89, 90, 91, 92, 93, 94, 18, 95, 96, 97, 98, 102, 103, 104, 105, 106, 107, 116, 108, 109, 110, 111, 112, 113, 114, 115] (by decide +kernel) (by decide +kernel)
set_option maxRecDepth 20000 in
theorem gX2_bestToSend_X2_hoursToFight : GoodIn wsX2_bestToSend (wsV RX2 54 RX2 yX2_hoursToFight wsX2_hoursToFight) := goodIn_app (goodIn_of _ (by decide +kernel)) ggX2_bestToSend_X2_hoursToFight
set_option maxRecDepth 20000 in
theorem ggX2_bestToSend_X9_isFewer : GoodIn wsX2_bestToSend wsX9_isFewer := goodIn_r _ [100, 101, 19, 20, 21, 22, 23, 24] (by decide +kernel) (by decide +kernel)
set_option maxRecDepth 20000 in
theorem gX2_bestToSend_X9_isFewer_n58 : GoodIn wsX2_bestToSend (wsX9_isFewer) := ggX2_bestToSend_X9_isFewer
theorem dX2_bestToSend_0 : decode cX2_bestToSend 0 = .ok (.aload_n 1, 1) := by decide +kernel
theorem dX2_bestToSend_1 : decode cX2_bestToSend 1 = .ok (.invokevirtual 35, 3) := by decide +kernel
theorem dX2_bestToSend_4 : decode cX2_bestToSend 4 = .ok (.istore_n 2, 1) := by decide +kernel
theorem dX2_bestToSend_5 : decode cX2_bestToSend 5 = .ok (.aload_n 1, 1) := by decide +kernel
theorem dX2_bestToSend_6 : decode cX2_bestToSend 6 = .ok (.invokevirtual 42, 3) := by decide +kernel
theorem dX2_bestToSend_9 : decode cX2_bestToSend 9 = .ok (.istore_n 3, 1) := by decide +kernel
theorem dX2_bestToSend_10 : decode cX2_bestToSend 10 = .ok (.bipush (-9), 2) := by decide +kernel
theorem dX2_bestToSend_12 : decode cX2_bestToSend 12 = .ok (.istore 4, 2) := by decide +kernel
theorem dX2_bestToSend_14 : decode cX2_bestToSend 14 = .ok (.iconst 0, 1) := by decide +kernel
theorem dX2_bestToSend_15 : decode cX2_bestToSend 15 = .ok (.istore 5, 2) := by decide +kernel
theorem dX2_bestToSend_17 : decode cX2_bestToSend 17 = .ok (.iconst 0, 1) := by decide +kernel
theorem dX2_bestToSend_18 : decode cX2_bestToSend 18 = .ok (.istore 6, 2) := by decide +kernel
theorem dX2_bestToSend_20 : decode cX2_bestToSend 20 = .ok (.iload 6, 2) := by decide +kernel
theorem dX2_bestToSend_22 : decode cX2_bestToSend 22 = .ok (.bipush 31, 2) := by decide +kernel
theorem dX2_bestToSend_24 : decode cX2_bestToSend 24 = .ok (.if_icmp .gt 96, 3) := by decide +kernel
theorem dX2_bestToSend_27 : decode cX2_bestToSend 27 = .ok (.iload 6, 2) := by decide +kernel
theorem dX2_bestToSend_29 : decode cX2_bestToSend 29 = .ok (.iload_n 2, 1) := by decide +kernel
theorem dX2_bestToSend_30 : decode cX2_bestToSend 30 = .ok (.invokestatic 45, 3) := by decide +kernel
theorem dX2_bestToSend_33 : decode cX2_bestToSend 33 = .ok (.ifCond .eq 81, 3) := by decide +kernel
theorem dX2_bestToSend_36 : decode cX2_bestToSend 36 = .ok (.iload 6, 2) := by decide +kernel
theorem dX2_bestToSend_38 : decode cX2_bestToSend 38 = .ok (.invokestatic 49, 3) := by decide +kernel
theorem dX2_bestToSend_41 : decode cX2_bestToSend 41 = .ok (.iload_n 3, 1) := by decide +kernel
theorem dX2_bestToSend_42 : decode cX2_bestToSend 42 = .ok (.if_icmp .le 6, 3) := by decide +kernel
theorem dX2_bestToSend_45 : decode cX2_bestToSend 45 = .ok (.goto 69, 3) := by decide +kernel
theorem dX2_bestToSend_48 : decode cX2_bestToSend 48 = .ok (.aload_n 0, 1) := by decide +kernel
theorem dX2_bestToSend_49 : decode cX2_bestToSend 49 = .ok (.aload_n 1, 1) := by decide +kernel
theorem dX2_bestToSend_50 : decode cX2_bestToSend 50 = .ok (.iload 6, 2) := by decide +kernel
theorem dX2_bestToSend_52 : decode cX2_bestToSend 52 = .ok (.bipush 31, 2) := by decide +kernel
theorem dX2_bestToSend_54 : decode cX2_bestToSend 54 = .ok (.invokevirtual 54, 3) := by decide +kernel
theorem dX2_bestToSend_57 : decode cX2_bestToSend 57 = .ok (.istore 7, 2) := by decide +kernel
theorem dX2_bestToSend_59 : decode cX2_bestToSend 59 = .ok (.iload 7, 2) := by decide +kernel
theorem dX2_bestToSend_61 : decode cX2_bestToSend 61 = .ok (.bipush (-9), 2) := by decide +kernel
theorem dX2_bestToSend_63 : decode cX2_bestToSend 63 = .ok (.if_icmp .ne 8, 3) := by decide +kernel
theorem dX2_bestToSend_66 : decode cX2_bestToSend 66 = .ok (.bipush 41, 2) := by decide +kernel
theorem dX2_bestToSend_68 : decode cX2_bestToSend 68 = .ok (.goto 5, 3) := by decide +kernel
theorem dX2_bestToSend_71 : decode cX2_bestToSend 71 = .ok (.iload 7, 2) := by decide +kernel
theorem dX2_bestToSend_73 : decode cX2_bestToSend 73 = .ok (.istore 8, 2) := by decide +kernel
theorem dX2_bestToSend_75 : decode cX2_bestToSend 75 = .ok (.iload 4, 2) := by decide +kernel
theorem dX2_bestToSend_77 : decode cX2_bestToSend 77 = .ok (.bipush (-9), 2) := by decide +kernel
theorem dX2_bestToSend_79 : decode cX2_bestToSend 79 = .ok (.if_icmp .eq 27, 3) := by decide +kernel
theorem dX2_bestToSend_82 : decode cX2_bestToSend 82 = .ok (.iload 8, 2) := by decide +kernel
theorem dX2_bestToSend_84 : decode cX2_bestToSend 84 = .ok (.iload 5, 2) := by decide +kernel
theorem dX2_bestToSend_86 : decode cX2_bestToSend 86 = .ok (.if_icmp .gt 20, 3) := by decide +kernel
theorem dX2_bestToSend_89 : decode cX2_bestToSend 89 = .ok (.iload 8, 2) := by decide +kernel
theorem dX2_bestToSend_91 : decode cX2_bestToSend 91 = .ok (.iload 5, 2) := by decide +kernel
theorem dX2_bestToSend_93 : decode cX2_bestToSend 93 = .ok (.if_icmp .ne 21, 3) := by decide +kernel
theorem dX2_bestToSend_96 : decode cX2_bestToSend 96 = .ok (.iload 6, 2) := by decide +kernel
theorem dX2_bestToSend_98 : decode cX2_bestToSend 98 = .ok (.iload 4, 2) := by decide +kernel
theorem dX2_bestToSend_100 : decode cX2_bestToSend 100 = .ok (.invokestatic 58, 3) := by decide +kernel
theorem dX2_bestToSend_103 : decode cX2_bestToSend 103 = .ok (.ifCond .eq 11, 3) := by decide +kernel
theorem dX2_bestToSend_106 : decode cX2_bestToSend 106 = .ok (.iload 6, 2) := by decide +kernel
theorem dX2_bestToSend_108 : decode cX2_bestToSend 108 = .ok (.istore 4, 2) := by decide +kernel
theorem dX2_bestToSend_110 : decode cX2_bestToSend 110 = .ok (.iload 8, 2) := by decide +kernel
theorem dX2_bestToSend_112 : decode cX2_bestToSend 112 = .ok (.istore 5, 2) := by decide +kernel
theorem dX2_bestToSend_114 : decode cX2_bestToSend 114 = .ok (.iinc 6 1, 3) := by decide +kernel
theorem dX2_bestToSend_117 : decode cX2_bestToSend 117 = .ok (.goto (-97), 3) := by decide +kernel
theorem dX2_bestToSend_120 : decode cX2_bestToSend 120 = .ok (.iload 4, 2) := by decide +kernel
theorem dX2_bestToSend_122 : decode cX2_bestToSend 122 = .ok (.ireturn, 1) := by decide +kernel
set_option maxRecDepth 20000 in
theorem ggX3_howManyRests_X3_isRest : GoodIn wsX3_howManyRests wsX3_isRest := goodIn_r _ [4, 5, 6, 3, 7, 8, 9, 10, 11, 12, 13, 14, 15, 16, 17, 18, 19, 20, 21, 22, 23, 24, 25, 26, 27, 28] (by decide +kernel) (by decide +kernel)
set_option maxRecDepth 20000 in
theorem gX3_howManyRests_X3_isRest : GoodIn wsX3_howManyRests (va_wsS RX3 11 yX3_isRest wsX3_isRest) := goodIn_app (goodIn_of _ (by decide +kernel)) ggX3_howManyRests_X3_isRest
theorem dX3_howManyRests_0 : decode cX3_howManyRests 0 = .ok (.iconst 0, 1) := by decide +kernel
theorem dX3_howManyRests_1 : decode cX3_howManyRests 1 = .ok (.istore_n 3, 1) := by decide +kernel
theorem dX3_howManyRests_2 : decode cX3_howManyRests 2 = .ok (.iconst 0, 1) := by decide +kernel
theorem dX3_howManyRests_3 : decode cX3_howManyRests 3 = .ok (.istore 4, 2) := by decide +kernel
theorem dX3_howManyRests_5 : decode cX3_howManyRests 5 = .ok (.iload 4, 2) := by decide +kernel
theorem dX3_howManyRests_7 : decode cX3_howManyRests 7 = .ok (.iconst 1, 1) := by decide +kernel
theorem dX3_howManyRests_8 : decode cX3_howManyRests 8 = .ok (.if_icmp .gt 40, 3) := by decide +kernel
theorem dX3_howManyRests_11 : decode cX3_howManyRests 11 = .ok (.iconst 0, 1) := by decide +kernel
theorem dX3_howManyRests_12 : decode cX3_howManyRests 12 = .ok (.istore 5, 2) := by decide +kernel
theorem dX3_howManyRests_14 : decode cX3_howManyRests 14 = .ok (.iload 5, 2) := by decide +kernel
theorem dX3_howManyRests_16 : decode cX3_howManyRests 16 = .ok (.iconst 1, 1) := by decide +kernel
theorem dX3_howManyRests_17 : decode cX3_howManyRests 17 = .ok (.if_icmp .gt 25, 3) := by decide +kernel
theorem dX3_howManyRests_20 : decode cX3_howManyRests 20 = .ok (.aload_n 0, 1) := by decide +kernel
theorem dX3_howManyRests_21 : decode cX3_howManyRests 21 = .ok (.iload_n 1, 1) := by decide +kernel
theorem dX3_howManyRests_22 : decode cX3_howManyRests 22 = .ok (.iload_n 2, 1) := by decide +kernel
theorem dX3_howManyRests_23 : decode cX3_howManyRests 23 = .ok (.iload 4, 2) := by decide +kernel
theorem dX3_howManyRests_25 : decode cX3_howManyRests 25 = .ok (.iload 5, 2) := by decide +kernel
theorem dX3_howManyRests_27 : decode cX3_howManyRests 27 = .ok (.invokestatic 11, 3) := by decide +kernel
theorem dX3_howManyRests_30 : decode cX3_howManyRests 30 = .ok (.ifCond .eq 6, 3) := by decide +kernel
theorem dX3_howManyRests_33 : decode cX3_howManyRests 33 = .ok (.iinc 3 1, 3) := by decide +kernel
theorem dX3_howManyRests_36 : decode cX3_howManyRests 36 = .ok (.iinc 5 1, 3) := by decide +kernel
theorem dX3_howManyRests_39 : decode cX3_howManyRests 39 = .ok (.goto (-25), 3) := by decide +kernel
theorem dX3_howManyRests_42 : decode cX3_howManyRests 42 = .ok (.iinc 4 1, 3) := by decide +kernel
theorem dX3_howManyRests_45 : decode cX3_howManyRests 45 = .ok (.goto (-40), 3) := by decide +kernel
theorem dX3_howManyRests_48 : decode cX3_howManyRests 48 = .ok (.iload_n 3, 1) := by decide +kernel
theorem dX3_howManyRests_49 : decode cX3_howManyRests 49 = .ok (.ireturn, 1) := by decide +kernel
set_option maxRecDepth 20000 in
theorem ggX3_firstRest_X3_isRest : GoodIn wsX3_firstRest wsX3_isRest := goodIn_r _ [4, 5, 6, 3, 7, 8, 9, 10, 11, 12, 13, 14, 15, 16, 17, 18, 19, 20, 21, 22, 23, 24, 25, 26, 27, 28] (by decide +kernel) (by decide +kernel)
set_option maxRecDepth 20000 in
theorem gX3_firstRest_X3_isRest : GoodIn wsX3_firstRest (va_wsS RX3 11 yX3_isRest wsX3_isRest) := goodIn_app (goodIn_of _ (by decide +kernel)) ggX3_firstRest_X3_isRest
theorem dX3_firstRest_0 : decode cX3_firstRest 0 = .ok (.iconst 0, 1) := by decide +kernel
theorem dX3_firstRest_1 : decode cX3_firstRest 1 = .ok (.istore_n 3, 1) := by decide +kernel
theorem dX3_firstRest_2 : decode cX3_firstRest 2 = .ok (.iload_n 3, 1) := by decide +kernel
theorem dX3_firstRest_3 : decode cX3_firstRest 3 = .ok (.iconst 1, 1) := by decide +kernel
theorem dX3_firstRest_4 : decode cX3_firstRest 4 = .ok (.if_icmp .gt 44, 3) := by decide +kernel
theorem dX3_firstRest_7 : decode cX3_firstRest 7 = .ok (.iconst 0, 1) := by decide +kernel
theorem dX3_firstRest_8 : decode cX3_firstRest 8 = .ok (.istore 4, 2) := by decide +kernel
theorem dX3_firstRest_10 : decode cX3_firstRest 10 = .ok (.iload 4, 2) := by decide +kernel
theorem dX3_firstRest_12 : decode cX3_firstRest 12 = .ok (.iconst 1, 1) := by decide +kernel
theorem dX3_firstRest_13 : decode cX3_firstRest 13 = .ok (.if_icmp .gt 29, 3) := by decide +kernel
theorem dX3_firstRest_16 : decode cX3_firstRest 16 = .ok (.aload_n 0, 1) := by decide +kernel
theorem dX3_firstRest_17 : decode cX3_firstRest 17 = .ok (.iload_n 1, 1) := by decide +kernel
theorem dX3_firstRest_18 : decode cX3_firstRest 18 = .ok (.iload_n 2, 1) := by decide +kernel
theorem dX3_firstRest_19 : decode cX3_firstRest 19 = .ok (.iload_n 3, 1) := by decide +kernel
theorem dX3_firstRest_20 : decode cX3_firstRest 20 = .ok (.iload 4, 2) := by decide +kernel
theorem dX3_firstRest_22 : decode cX3_firstRest 22 = .ok (.invokestatic 11, 3) := by decide +kernel
theorem dX3_firstRest_25 : decode cX3_firstRest 25 = .ok (.ifCond .eq 11, 3) := by decide +kernel
theorem dX3_firstRest_28 : decode cX3_firstRest 28 = .ok (.bipush 10, 2) := by decide +kernel
theorem dX3_firstRest_30 : decode cX3_firstRest 30 = .ok (.iload_n 3, 1) := by decide +kernel
theorem dX3_firstRest_31 : decode cX3_firstRest 31 = .ok (.imul, 1) := by decide +kernel
theorem dX3_firstRest_32 : decode cX3_firstRest 32 = .ok (.iload 4, 2) := by decide +kernel
theorem dX3_firstRest_34 : decode cX3_firstRest 34 = .ok (.iadd, 1) := by decide +kernel
theorem dX3_firstRest_35 : decode cX3_firstRest 35 = .ok (.ireturn, 1) := by decide +kernel
theorem dX3_firstRest_36 : decode cX3_firstRest 36 = .ok (.iinc 4 1, 3) := by decide +kernel
theorem dX3_firstRest_39 : decode cX3_firstRest 39 = .ok (.goto (-29), 3) := by decide +kernel
theorem dX3_firstRest_42 : decode cX3_firstRest 42 = .ok (.iinc 3 1, 3) := by decide +kernel
theorem dX3_firstRest_45 : decode cX3_firstRest 45 = .ok (.goto (-43), 3) := by decide +kernel
theorem dX3_firstRest_48 : decode cX3_firstRest 48 = .ok (.bipush (-9), 2) := by decide +kernel
theorem dX3_firstRest_50 : decode cX3_firstRest 50 = .ok (.ireturn, 1) := by decide +kernel
set_option maxRecDepth 20000 in
theorem ggX3_isRest_X3_gain : GoodIn wsX3_isRest wsX3_gain := goodIn_r _ [4, 5, 6, 7, 8, 9, 10, 11, 12, 13, 14, 15, 16, 17, 18, 19, 20, 21, 22, 23, 24, 25] (by decide +kernel) (by decide +kernel)
set_option maxRecDepth 20000 in
theorem gX3_isRest_X3_gain : GoodIn wsX3_isRest (va_wsS RX3 15 yX3_gain wsX3_gain) := goodIn_app (goodIn_of _ (by decide +kernel)) ggX3_isRest_X3_gain
theorem dX3_isRest_0 : decode cX3_isRest 0 = .ok (.aload_n 0, 1) := by decide +kernel
theorem dX3_isRest_1 : decode cX3_isRest 1 = .ok (.iload_n 1, 1) := by decide +kernel
theorem dX3_isRest_2 : decode cX3_isRest 2 = .ok (.iload_n 2, 1) := by decide +kernel
theorem dX3_isRest_3 : decode cX3_isRest 3 = .ok (.iload_n 3, 1) := by decide +kernel
theorem dX3_isRest_4 : decode cX3_isRest 4 = .ok (.iload 4, 2) := by decide +kernel
theorem dX3_isRest_6 : decode cX3_isRest 6 = .ok (.invokestatic 15, 3) := by decide +kernel
theorem dX3_isRest_9 : decode cX3_isRest 9 = .ok (.aload_n 0, 1) := by decide +kernel
theorem dX3_isRest_10 : decode cX3_isRest 10 = .ok (.iload_n 1, 1) := by decide +kernel
theorem dX3_isRest_11 : decode cX3_isRest 11 = .ok (.iload_n 2, 1) := by decide +kernel
theorem dX3_isRest_12 : decode cX3_isRest 12 = .ok (.iconst 1, 1) := by decide +kernel
theorem dX3_isRest_13 : decode cX3_isRest 13 = .ok (.iload_n 3, 1) := by decide +kernel
theorem dX3_isRest_14 : decode cX3_isRest 14 = .ok (.isub, 1) := by decide +kernel
theorem dX3_isRest_15 : decode cX3_isRest 15 = .ok (.iload 4, 2) := by decide +kernel
theorem dX3_isRest_17 : decode cX3_isRest 17 = .ok (.invokestatic 15, 3) := by decide +kernel
theorem dX3_isRest_20 : decode cX3_isRest 20 = .ok (.if_icmp .lt 30, 3) := by decide +kernel
theorem dX3_isRest_23 : decode cX3_isRest 23 = .ok (.aload_n 0, 1) := by decide +kernel
theorem dX3_isRest_24 : decode cX3_isRest 24 = .ok (.iload_n 2, 1) := by decide +kernel
theorem dX3_isRest_25 : decode cX3_isRest 25 = .ok (.iload_n 1, 1) := by decide +kernel
theorem dX3_isRest_26 : decode cX3_isRest 26 = .ok (.iload 4, 2) := by decide +kernel
theorem dX3_isRest_28 : decode cX3_isRest 28 = .ok (.iload_n 3, 1) := by decide +kernel
theorem dX3_isRest_29 : decode cX3_isRest 29 = .ok (.invokestatic 15, 3) := by decide +kernel
theorem dX3_isRest_32 : decode cX3_isRest 32 = .ok (.aload_n 0, 1) := by decide +kernel
theorem dX3_isRest_33 : decode cX3_isRest 33 = .ok (.iload_n 2, 1) := by decide +kernel
theorem dX3_isRest_34 : decode cX3_isRest 34 = .ok (.iload_n 1, 1) := by decide +kernel
theorem dX3_isRest_35 : decode cX3_isRest 35 = .ok (.iconst 1, 1) := by decide +kernel
theorem dX3_isRest_36 : decode cX3_isRest 36 = .ok (.iload 4, 2) := by decide +kernel
theorem dX3_isRest_38 : decode cX3_isRest 38 = .ok (.isub, 1) := by decide +kernel
theorem dX3_isRest_39 : decode cX3_isRest 39 = .ok (.iload_n 3, 1) := by decide +kernel
theorem dX3_isRest_40 : decode cX3_isRest 40 = .ok (.invokestatic 15, 3) := by decide +kernel
theorem dX3_isRest_43 : decode cX3_isRest 43 = .ok (.if_icmp .lt 7, 3) := by decide +kernel
theorem dX3_isRest_46 : decode cX3_isRest 46 = .ok (.iconst 1, 1) := by decide +kernel
theorem dX3_isRest_47 : decode cX3_isRest 47 = .ok (.goto 4, 3) := by decide +kernel
theorem dX3_isRest_50 : decode cX3_isRest 50 = .ok (.iconst 0, 1) := by decide +kernel
theorem dX3_isRest_51 : decode cX3_isRest 51 = .ok (.ireturn, 1) := by decide +kernel
set_option maxRecDepth 20000 in
theorem ggX3_gain_X4_has : GoodIn wsX3_gain wsX4_has := goodIn_r _ [6, 7, 14, 15, 16, 17, 18, 19, 20, 21] (by decide +kernel) (by decide +kernel)
set_option maxRecDepth 20000 in
theorem gX3_gain_X4_has : GoodIn wsX3_gain (wsV RX3 19 RX4 yX4_has wsX4_has) := goodIn_app (goodIn_of _ (by decide +kernel)) ggX3_gain_X4_has
set_option maxRecDepth 20000 in
theorem ggX3_gain_X4_areHostile : GoodIn wsX3_gain wsX4_areHostile := goodIn_r _ [11, 12, 13, 3, 4, 5, 6, 7, 14, 15, 16, 17, 18, 19, 20, 21] (by decide +kernel) (by decide +kernel)
set_option maxRecDepth 20000 in
theorem gX3_gain_X4_areHostile : GoodIn wsX3_gain (wsV RX3 29 RX4 yX4_areHostile wsX4_areHostile) := goodIn_app (goodIn_of _ (by decide +kernel)) ggX3_gain_X4_areHostile
theorem dX3_gain_0 : decode cX3_gain 0 = .ok (.iload_n 3, 1) := by decide +kernel
theorem dX3_gain_1 : decode cX3_gain 1 = .ok (.ifCond .ne 23, 3) := by decide +kernel
theorem dX3_gain_4 : decode cX3_gain 4 = .ok (.aload_n 0, 1) := by decide +kernel
theorem dX3_gain_5 : decode cX3_gain 5 = .ok (.iload_n 1, 1) := by decide +kernel
theorem dX3_gain_6 : decode cX3_gain 6 = .ok (.invokevirtual 19, 3) := by decide +kernel
theorem dX3_gain_9 : decode cX3_gain 9 = .ok (.ifCond .eq 13, 3) := by decide +kernel
theorem dX3_gain_12 : decode cX3_gain 12 = .ok (.aload_n 0, 1) := by decide +kernel
theorem dX3_gain_13 : decode cX3_gain 13 = .ok (.getfield 25, 3) := by decide +kernel
theorem dX3_gain_16 : decode cX3_gain 16 = .ok (.iload_n 1, 1) := by decide +kernel
theorem dX3_gain_17 : decode cX3_gain 17 = .ok (.iaload, 1) := by decide +kernel
theorem dX3_gain_18 : decode cX3_gain 18 = .ok (.ineg, 1) := by decide +kernel
theorem dX3_gain_19 : decode cX3_gain 19 = .ok (.goto 4, 3) := by decide +kernel
theorem dX3_gain_22 : decode cX3_gain 22 = .ok (.iconst 0, 1) := by decide +kernel
theorem dX3_gain_23 : decode cX3_gain 23 = .ok (.ireturn, 1) := by decide +kernel
theorem dX3_gain_24 : decode cX3_gain 24 = .ok (.iload 4, 2) := by decide +kernel
theorem dX3_gain_26 : decode cX3_gain 26 = .ok (.ifCond .ne 5, 3) := by decide +kernel
theorem dX3_gain_29 : decode cX3_gain 29 = .ok (.iconst 2, 1) := by decide +kernel
theorem dX3_gain_30 : decode cX3_gain 30 = .ok (.ireturn, 1) := by decide +kernel
theorem dX3_gain_31 : decode cX3_gain 31 = .ok (.aload_n 0, 1) := by decide +kernel
theorem dX3_gain_32 : decode cX3_gain 32 = .ok (.iload_n 1, 1) := by decide +kernel
theorem dX3_gain_33 : decode cX3_gain 33 = .ok (.iload_n 2, 1) := by decide +kernel
theorem dX3_gain_34 : decode cX3_gain 34 = .ok (.invokevirtual 29, 3) := by decide +kernel
theorem dX3_gain_37 : decode cX3_gain 37 = .ok (.ifCond .eq 8, 3) := by decide +kernel
theorem dX3_gain_40 : decode cX3_gain 40 = .ok (.bipush (-5), 2) := by decide +kernel
theorem dX3_gain_42 : decode cX3_gain 42 = .ok (.goto 4, 3) := by decide +kernel
theorem dX3_gain_45 : decode cX3_gain 45 = .ok (.iconst 0, 1) := by decide +kernel
theorem dX3_gain_46 : decode cX3_gain 46 = .ok (.ireturn, 1) := by decide +kernel
theorem dX4_init_0 : decode cX4_init 0 = .ok (.aload_n 0, 1) := by decide +kernel
theorem dX4_init_1 : decode cX4_init 1 = .ok (.invokespecial 3, 3) := by decide +kernel
theorem dX4_init_4 : decode cX4_init 4 = .ok (.aload_n 0, 1) := by decide +kernel
theorem dX4_init_5 : decode cX4_init 5 = .ok (.iconst 1, 1) := by decide +kernel
theorem dX4_init_6 : decode cX4_init 6 = .ok (.putfield 9, 3) := by decide +kernel
theorem dX4_init_9 : decode cX4_init 9 = .ok (.aload_n 0, 1) := by decide +kernel
theorem dX4_init_10 : decode cX4_init 10 = .ok (.iconst 1, 1) := by decide +kernel
theorem dX4_init_11 : decode cX4_init 11 = .ok (.putfield 15, 3) := by decide +kernel
theorem dX4_init_14 : decode cX4_init 14 = .ok (.aload_n 0, 1) := by decide +kernel
theorem dX4_init_15 : decode cX4_init 15 = .ok (.iconst 0, 1) := by decide +kernel
theorem dX4_init_16 : decode cX4_init 16 = .ok (.putfield 18, 3) := by decide +kernel
theorem dX4_init_19 : decode cX4_init 19 = .ok (.aload_n 0, 1) := by decide +kernel
theorem dX4_init_20 : decode cX4_init 20 = .ok (.iconst 0, 1) := by decide +kernel
theorem dX4_init_21 : decode cX4_init 21 = .ok (.putfield 21, 3) := by decide +kernel
theorem dX4_init_24 : decode cX4_init 24 = .ok (.aload_n 0, 1) := by decide +kernel
theorem dX4_init_25 : decode cX4_init 25 = .ok (.iconst 5, 1) := by decide +kernel
theorem dX4_init_26 : decode cX4_init 26 = .ok (.newarray .int, 2) := by decide +kernel
theorem dX4_init_28 : decode cX4_init 28 = .ok (.putfield 24, 3) := by decide +kernel
theorem dX4_init_31 : decode cX4_init 31 = .ok (.aload_n 0, 1) := by decide +kernel
theorem dX4_init_32 : decode cX4_init 32 = .ok (.iconst 5, 1) := by decide +kernel
theorem dX4_init_33 : decode cX4_init 33 = .ok (.newarray .int, 2) := by decide +kernel
theorem dX4_init_35 : decode cX4_init 35 = .ok (.putfield 28, 3) := by decide +kernel
theorem dX4_init_38 : decode cX4_init 38 = .ok (.aload_n 0, 1) := by decide +kernel
theorem dX4_init_39 : decode cX4_init 39 = .ok (.iconst 5, 1) := by decide +kernel
theorem dX4_init_40 : decode cX4_init 40 = .ok (.newarray .int, 2) := by decide +kernel
theorem dX4_init_42 : decode cX4_init 42 = .ok (.putfield 31, 3) := by decide +kernel
theorem dX4_init_45 : decode cX4_init 45 = .ok (.aload_n 0, 1) := by decide +kernel
theorem dX4_init_46 : decode cX4_init 46 = .ok (.iconst 5, 1) := by decide +kernel
theorem dX4_init_47 : decode cX4_init 47 = .ok (.newarray .int, 2) := by decide +kernel
theorem dX4_init_49 : decode cX4_init 49 = .ok (.putfield 34, 3) := by decide +kernel
theorem dX4_init_52 : decode cX4_init 52 = .ok (.return_, 1) := by decide +kernel
theorem dX4_copyFrom_0 : decode cX4_copyFrom 0 = .ok (.aload_n 0, 1) := by decide +kernel
theorem dX4_copyFrom_1 : decode cX4_copyFrom 1 = .ok (.aload_n 1, 1) := by decide +kernel
theorem dX4_copyFrom_2 : decode cX4_copyFrom 2 = .ok (.getfield 9, 3) := by decide +kernel
theorem dX4_copyFrom_5 : decode cX4_copyFrom 5 = .ok (.putfield 9, 3) := by decide +kernel
theorem dX4_copyFrom_8 : decode cX4_copyFrom 8 = .ok (.aload_n 0, 1) := by decide +kernel
theorem dX4_copyFrom_9 : decode cX4_copyFrom 9 = .ok (.aload_n 1, 1) := by decide +kernel
theorem dX4_copyFrom_10 : decode cX4_copyFrom 10 = .ok (.getfield 15, 3) := by decide +kernel
theorem dX4_copyFrom_13 : decode cX4_copyFrom 13 = .ok (.putfield 15, 3) := by decide +kernel
theorem dX4_copyFrom_16 : decode cX4_copyFrom 16 = .ok (.aload_n 0, 1) := by decide +kernel
theorem dX4_copyFrom_17 : decode cX4_copyFrom 17 = .ok (.aload_n 1, 1) := by decide +kernel
theorem dX4_copyFrom_18 : decode cX4_copyFrom 18 = .ok (.getfield 18, 3) := by decide +kernel
theorem dX4_copyFrom_21 : decode cX4_copyFrom 21 = .ok (.putfield 18, 3) := by decide +kernel
theorem dX4_copyFrom_24 : decode cX4_copyFrom 24 = .ok (.aload_n 0, 1) := by decide +kernel
theorem dX4_copyFrom_25 : decode cX4_copyFrom 25 = .ok (.aload_n 1, 1) := by decide +kernel
theorem dX4_copyFrom_26 : decode cX4_copyFrom 26 = .ok (.getfield 21, 3) := by decide +kernel
theorem dX4_copyFrom_29 : decode cX4_copyFrom 29 = .ok (.putfield 21, 3) := by decide +kernel
theorem dX4_copyFrom_32 : decode cX4_copyFrom 32 = .ok (.aload_n 1, 1) := by decide +kernel
theorem dX4_copyFrom_33 : decode cX4_copyFrom 33 = .ok (.getfield 24, 3) := by decide +kernel
theorem dX4_copyFrom_36 : decode cX4_copyFrom 36 = .ok (.iconst 0, 1) := by decide +kernel
theorem dX4_copyFrom_37 : decode cX4_copyFrom 37 = .ok (.aload_n 0, 1) := by decide +kernel
theorem dX4_copyFrom_38 : decode cX4_copyFrom 38 = .ok (.getfield 24, 3) := by decide +kernel
theorem dX4_copyFrom_41 : decode cX4_copyFrom 41 = .ok (.iconst 0, 1) := by decide +kernel
theorem dX4_copyFrom_42 : decode cX4_copyFrom 42 = .ok (.iconst 5, 1) := by decide +kernel
theorem dX4_copyFrom_43 : decode cX4_copyFrom 43 = .ok (.invokestatic 37, 3) := by decide +kernel
theorem dX4_copyFrom_46 : decode cX4_copyFrom 46 = .ok (.aload_n 1, 1) := by decide +kernel
theorem dX4_copyFrom_47 : decode cX4_copyFrom 47 = .ok (.getfield 28, 3) := by decide +kernel
theorem dX4_copyFrom_50 : decode cX4_copyFrom 50 = .ok (.iconst 0, 1) := by decide +kernel
theorem dX4_copyFrom_51 : decode cX4_copyFrom 51 = .ok (.aload_n 0, 1) := by decide +kernel
theorem dX4_copyFrom_52 : decode cX4_copyFrom 52 = .ok (.getfield 28, 3) := by decide +kernel
theorem dX4_copyFrom_55 : decode cX4_copyFrom 55 = .ok (.iconst 0, 1) := by decide +kernel
theorem dX4_copyFrom_56 : decode cX4_copyFrom 56 = .ok (.iconst 5, 1) := by decide +kernel
theorem dX4_copyFrom_57 : decode cX4_copyFrom 57 = .ok (.invokestatic 37, 3) := by decide +kernel
theorem dX4_copyFrom_60 : decode cX4_copyFrom 60 = .ok (.aload_n 1, 1) := by decide +kernel
theorem dX4_copyFrom_61 : decode cX4_copyFrom 61 = .ok (.getfield 31, 3) := by decide +kernel
theorem dX4_copyFrom_64 : decode cX4_copyFrom 64 = .ok (.iconst 0, 1) := by decide +kernel
theorem dX4_copyFrom_65 : decode cX4_copyFrom 65 = .ok (.aload_n 0, 1) := by decide +kernel
theorem dX4_copyFrom_66 : decode cX4_copyFrom 66 = .ok (.getfield 31, 3) := by decide +kernel
theorem dX4_copyFrom_69 : decode cX4_copyFrom 69 = .ok (.iconst 0, 1) := by decide +kernel
theorem dX4_copyFrom_70 : decode cX4_copyFrom 70 = .ok (.iconst 5, 1) := by decide +kernel
theorem dX4_copyFrom_71 : decode cX4_copyFrom 71 = .ok (.invokestatic 37, 3) := by decide +kernel
theorem dX4_copyFrom_74 : decode cX4_copyFrom 74 = .ok (.aload_n 1, 1) := by decide +kernel
theorem dX4_copyFrom_75 : decode cX4_copyFrom 75 = .ok (.getfield 34, 3) := by decide +kernel
theorem dX4_copyFrom_78 : decode cX4_copyFrom 78 = .ok (.iconst 0, 1) := by decide +kernel
theorem dX4_copyFrom_79 : decode cX4_copyFrom 79 = .ok (.aload_n 0, 1) := by decide +kernel
theorem dX4_copyFrom_80 : decode cX4_copyFrom 80 = .ok (.getfield 34, 3) := by decide +kernel
theorem dX4_copyFrom_83 : decode cX4_copyFrom 83 = .ok (.iconst 0, 1) := by decide +kernel
theorem dX4_copyFrom_84 : decode cX4_copyFrom 84 = .ok (.iconst 5, 1) := by decide +kernel
theorem dX4_copyFrom_85 : decode cX4_copyFrom 85 = .ok (.invokestatic 37, 3) := by decide +kernel
theorem dX4_copyFrom_88 : decode cX4_copyFrom 88 = .ok (.return_, 1) := by decide +kernel
theorem dX4_has_0 : decode cX4_has 0 = .ok (.iload_n 1, 1) := by decide +kernel
theorem dX4_has_1 : decode cX4_has 1 = .ok (.ifCond .lt 15, 3) := by decide +kernel
theorem dX4_has_4 : decode cX4_has 4 = .ok (.iload_n 1, 1) := by decide +kernel
theorem dX4_has_5 : decode cX4_has 5 = .ok (.aload_n 0, 1) := by decide +kernel
theorem dX4_has_6 : decode cX4_has 6 = .ok (.getfield 21, 3) := by decide +kernel
theorem dX4_has_9 : decode cX4_has 9 = .ok (.if_icmp .ge 7, 3) := by decide +kernel
theorem dX4_has_12 : decode cX4_has 12 = .ok (.iconst 1, 1) := by decide +kernel
theorem dX4_has_13 : decode cX4_has 13 = .ok (.goto 4, 3) := by decide +kernel
theorem dX4_has_16 : decode cX4_has 16 = .ok (.iconst 0, 1) := by decide +kernel
theorem dX4_has_17 : decode cX4_has 17 = .ok (.ireturn, 1) := by decide +kernel
theorem dX4_allBits_0 : decode cX4_allBits 0 = .ok (.iconst 1, 1) := by decide +kernel
theorem dX4_allBits_1 : decode cX4_allBits 1 = .ok (.aload_n 0, 1) := by decide +kernel
theorem dX4_allBits_2 : decode cX4_allBits 2 = .ok (.getfield 21, 3) := by decide +kernel
theorem dX4_allBits_5 : decode cX4_allBits 5 = .ok (.ishl, 1) := by decide +kernel
theorem dX4_allBits_6 : decode cX4_allBits 6 = .ok (.iconst 1, 1) := by decide +kernel
theorem dX4_allBits_7 : decode cX4_allBits 7 = .ok (.isub, 1) := by decide +kernel
theorem dX4_allBits_8 : decode cX4_allBits 8 = .ok (.ireturn, 1) := by decide +kernel
theorem dX4_addFlag_0 : decode cX4_addFlag 0 = .ok (.aload_n 0, 1) := by decide +kernel
theorem dX4_addFlag_1 : decode cX4_addFlag 1 = .ok (.getfield 21, 3) := by decide +kernel
theorem dX4_addFlag_4 : decode cX4_addFlag 4 = .ok (.iconst 5, 1) := by decide +kernel
theorem dX4_addFlag_5 : decode cX4_addFlag 5 = .ok (.if_icmp .ge 53, 3) := by decide +kernel
theorem dX4_addFlag_8 : decode cX4_addFlag 8 = .ok (.aload_n 0, 1) := by decide +kernel
theorem dX4_addFlag_9 : decode cX4_addFlag 9 = .ok (.getfield 24, 3) := by decide +kernel
theorem dX4_addFlag_12 : decode cX4_addFlag 12 = .ok (.aload_n 0, 1) := by decide +kernel
theorem dX4_addFlag_13 : decode cX4_addFlag 13 = .ok (.getfield 21, 3) := by decide +kernel
theorem dX4_addFlag_16 : decode cX4_addFlag 16 = .ok (.iload_n 1, 1) := by decide +kernel
theorem dX4_addFlag_17 : decode cX4_addFlag 17 = .ok (.iastore, 1) := by decide +kernel
theorem dX4_addFlag_18 : decode cX4_addFlag 18 = .ok (.aload_n 0, 1) := by decide +kernel
theorem dX4_addFlag_19 : decode cX4_addFlag 19 = .ok (.getfield 28, 3) := by decide +kernel
theorem dX4_addFlag_22 : decode cX4_addFlag 22 = .ok (.aload_n 0, 1) := by decide +kernel
theorem dX4_addFlag_23 : decode cX4_addFlag 23 = .ok (.getfield 21, 3) := by decide +kernel
theorem dX4_addFlag_26 : decode cX4_addFlag 26 = .ok (.iload_n 2, 1) := by decide +kernel
theorem dX4_addFlag_27 : decode cX4_addFlag 27 = .ok (.iastore, 1) := by decide +kernel
theorem dX4_addFlag_28 : decode cX4_addFlag 28 = .ok (.aload_n 0, 1) := by decide +kernel
theorem dX4_addFlag_29 : decode cX4_addFlag 29 = .ok (.getfield 31, 3) := by decide +kernel
theorem dX4_addFlag_32 : decode cX4_addFlag 32 = .ok (.aload_n 0, 1) := by decide +kernel
theorem dX4_addFlag_33 : decode cX4_addFlag 33 = .ok (.getfield 21, 3) := by decide +kernel
theorem dX4_addFlag_36 : decode cX4_addFlag 36 = .ok (.iload_n 3, 1) := by decide +kernel
theorem dX4_addFlag_37 : decode cX4_addFlag 37 = .ok (.iastore, 1) := by decide +kernel
theorem dX4_addFlag_38 : decode cX4_addFlag 38 = .ok (.aload_n 0, 1) := by decide +kernel
theorem dX4_addFlag_39 : decode cX4_addFlag 39 = .ok (.getfield 34, 3) := by decide +kernel
theorem dX4_addFlag_42 : decode cX4_addFlag 42 = .ok (.aload_n 0, 1) := by decide +kernel
theorem dX4_addFlag_43 : decode cX4_addFlag 43 = .ok (.getfield 21, 3) := by decide +kernel
theorem dX4_addFlag_46 : decode cX4_addFlag 46 = .ok (.iconst 0, 1) := by decide +kernel
theorem dX4_addFlag_47 : decode cX4_addFlag 47 = .ok (.iastore, 1) := by decide +kernel
theorem dX4_addFlag_48 : decode cX4_addFlag 48 = .ok (.aload_n 0, 1) := by decide +kernel
theorem dX4_addFlag_49 : decode cX4_addFlag 49 = .ok (.dup, 1) := by decide +kernel
theorem dX4_addFlag_50 : decode cX4_addFlag 50 = .ok (.getfield 21, 3) := by decide +kernel
theorem dX4_addFlag_53 : decode cX4_addFlag 53 = .ok (.iconst 1, 1) := by decide +kernel
theorem dX4_addFlag_54 : decode cX4_addFlag 54 = .ok (.iadd, 1) := by decide +kernel
theorem dX4_addFlag_55 : decode cX4_addFlag 55 = .ok (.putfield 21, 3) := by decide +kernel
theorem dX4_addFlag_58 : decode cX4_addFlag 58 = .ok (.return_, 1) := by decide +kernel
set_option maxRecDepth 20000 in
theorem ggX4_makeHostile_X4_has : GoodIn wsX4_makeHostile wsX4_has := goodIn_r _ [6, 7, 8, 9, 10, 11, 12, 13, 14, 15] (by decide +kernel) (by decide +kernel)
set_option maxRecDepth 20000 in
theorem gX4_makeHostile_X4_has : GoodIn wsX4_makeHostile (wsV RX4 43 RX4 yX4_has wsX4_has) := goodIn_app (goodIn_of _ (by decide +kernel)) ggX4_makeHostile_X4_has
theorem dX4_makeHostile_0 : decode cX4_makeHostile 0 = .ok (.aload_n 0, 1) := by decide +kernel
theorem dX4_makeHostile_1 : decode cX4_makeHostile 1 = .ok (.iload_n 1, 1) := by decide +kernel
theorem dX4_makeHostile_2 : decode cX4_makeHostile 2 = .ok (.invokevirtual 43, 3) := by decide +kernel
theorem dX4_makeHostile_5 : decode cX4_makeHostile 5 = .ok (.ifCond .eq 35, 3) := by decide +kernel
theorem dX4_makeHostile_8 : decode cX4_makeHostile 8 = .ok (.aload_n 0, 1) := by decide +kernel
theorem dX4_makeHostile_9 : decode cX4_makeHostile 9 = .ok (.iload_n 2, 1) := by decide +kernel
theorem dX4_makeHostile_10 : decode cX4_makeHostile 10 = .ok (.invokevirtual 43, 3) := by decide +kernel
theorem dX4_makeHostile_13 : decode cX4_makeHostile 13 = .ok (.ifCond .eq 27, 3) := by decide +kernel
theorem dX4_makeHostile_16 : decode cX4_makeHostile 16 = .ok (.aload_n 0, 1) := by decide +kernel
theorem dX4_makeHostile_17 : decode cX4_makeHostile 17 = .ok (.getfield 34, 3) := by decide +kernel
theorem dX4_makeHostile_20 : decode cX4_makeHostile 20 = .ok (.iload_n 1, 1) := by decide +kernel
theorem dX4_makeHostile_21 : decode cX4_makeHostile 21 = .ok (.dup2, 1) := by decide +kernel
theorem dX4_makeHostile_22 : decode cX4_makeHostile 22 = .ok (.iaload, 1) := by decide +kernel
theorem dX4_makeHostile_23 : decode cX4_makeHostile 23 = .ok (.iconst 1, 1) := by decide +kernel
theorem dX4_makeHostile_24 : decode cX4_makeHostile 24 = .ok (.iload_n 2, 1) := by decide +kernel
theorem dX4_makeHostile_25 : decode cX4_makeHostile 25 = .ok (.ishl, 1) := by decide +kernel
theorem dX4_makeHostile_26 : decode cX4_makeHostile 26 = .ok (.ior, 1) := by decide +kernel
theorem dX4_makeHostile_27 : decode cX4_makeHostile 27 = .ok (.iastore, 1) := by decide +kernel
theorem dX4_makeHostile_28 : decode cX4_makeHostile 28 = .ok (.aload_n 0, 1) := by decide +kernel
