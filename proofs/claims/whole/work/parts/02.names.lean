theorem goodIn_r {big : List Cond} (ws : List Cond) (ps : List Nat) (hp : ws = ps.filterMap (fun i => big[i]?)) (h : ws.all goodWord = true) : GoodIn big ws := by
  intro w hw
  have h1 := List.all_eq_true.mp h w hw
  rw [hp] at hw
  obtain ⟨i, -, hi⟩ := List.mem_filterMap.mp hw
  have hm : w ∈ big := by first | exact List.mem_of_getElem? hi | exact List.getElem?_mem hi
  exact ⟨hm, good_of_word h1⟩
theorem goodIn_app {big a b : List Cond} (ha : GoodIn big a) (hb : GoodIn big b) : GoodIn big (a ++ b) := fun w h => (List.mem_append.mp h).elim (ha w) (hb w)
theorem goodIn_ca {big a b : List Cond} {c : Cond} (ha : GoodIn big (c :: a)) (hb : GoodIn big b) : GoodIn big (c :: (a ++ b)) := fun w h => (List.mem_cons.mp h).elim (fun e => ha w (List.mem_cons.mpr (Or.inl e))) (fun h => (List.mem_append.mp h).elim (fun h => ha w (List.mem_cons.mpr (Or.inr h))) (hb w))
theorem goodIn_sub {big ws : List Cond} (hm : ∀ w ∈ ws, w ∈ big) (h : ws.all goodWord = true) : GoodIn big ws := fun w hw => ⟨hm w hw, good_of_word (List.all_eq_true.mp h w hw)⟩
def RX0 : String := "ThirdFavour$Coins"
def TX0 : u_T := fun k => match k with
  | 0 => ("ThirdFavour$Coins", "minutes", "[I", true)
  | 1 => ("ThirdFavour$Coins", "buttons", "[I", true)
  | _ => ("ThirdFavour$Coins", "held", "I", false)
def tyX0 : Nat → FieldType := fun k => match k with
  | 0 => .array .int
  | 1 => .array .int
  | _ => .int
abbrev wsX00 : List Cond := u_ws RX0 TX0 3
theorem nmX0 : ∀ a, a < 3 → ∀ b, b < 3 → a ≠ b → (TX0 a).2.1 ≠ (TX0 b).2.1 := by decide +kernel
theorem tyX0_ok : ∀ k, k < 3 → parseFieldDescriptor (TX0 k).2.2.1 = some (tyX0 k) := by decide +kernel
abbrev cX0_init : ByteArray := prog_2_method_1_code
def yX0_init : MethodName := ⟨RX0, "<init>", "()V"⟩
abbrev cX0_number : ByteArray := prog_2_method_2_code
def yX0_number : MethodName := ⟨RX0, "number", "()I"⟩
abbrev cX0_isEmpty : ByteArray := prog_2_method_3_code
def yX0_isEmpty : MethodName := ⟨RX0, "isEmpty", "()Z"⟩
abbrev cX0_has : ByteArray := prog_2_method_4_code
def yX0_has : MethodName := ⟨RX0, "has", "(I)Z"⟩
abbrev cX0_minuteOf : ByteArray := prog_2_method_5_code
def yX0_minuteOf : MethodName := ⟨RX0, "minuteOf", "(I)I"⟩
abbrev cX0_buttonOf : ByteArray := prog_2_method_6_code
def yX0_buttonOf : MethodName := ⟨RX0, "buttonOf", "(I)I"⟩
abbrev cX0_lastMinute : ByteArray := prog_2_method_7_code
def yX0_lastMinute : MethodName := ⟨RX0, "lastMinute", "()I"⟩
abbrev cX0_add : ByteArray := prog_2_method_8_code
def yX0_add : MethodName := ⟨RX0, "add", "(II)V"⟩
abbrev cX0_clear : ByteArray := prog_2_method_9_code
def yX0_clear : MethodName := ⟨RX0, "clear", "()V"⟩
abbrev cX0_takeAll : ByteArray := prog_2_method_10_code
def yX0_takeAll : MethodName := ⟨RX0, "takeAll", "(LThirdFavour$Coins;)V"⟩
abbrev cX0_remove : ByteArray := prog_2_method_11_code
def yX0_remove : MethodName := ⟨RX0, "remove", "(I)V"⟩
abbrev cX0_askedFor : ByteArray := prog_2_method_12_code
def yX0_askedFor : MethodName := ⟨RX0, "askedFor", "(I)I"⟩
abbrev cX0_numberSince : ByteArray := prog_2_method_13_code
def yX0_numberSince : MethodName := ⟨RX0, "numberSince", "(I)I"⟩
def RX1 : String := "ThirdFavour$Disc"
def TX1 : u_T := fun k => match k with
  | 0 => ("ThirdFavour$Disc", "grooves", "I", false)
  | _ => ("ThirdFavour$Disc", "skips", "[I", true)
def tyX1 : Nat → FieldType := fun k => match k with
  | 0 => .int
  | _ => .array .int
abbrev wsX10 : List Cond := u_ws RX1 TX1 2
theorem nmX1 : ∀ a, a < 2 → ∀ b, b < 2 → a ≠ b → (TX1 a).2.1 ≠ (TX1 b).2.1 := by decide +kernel
theorem tyX1_ok : ∀ k, k < 2 → parseFieldDescriptor (TX1 k).2.2.1 = some (tyX1 k) := by decide +kernel
abbrev cX1_init : ByteArray := prog_3_method_1_code
def yX1_init : MethodName := ⟨RX1, "<init>", "()V"⟩
abbrev cX1_mayBeLong : ByteArray := prog_3_method_2_code
def yX1_mayBeLong : MethodName := ⟨RX1, "mayBeLong", "(I)Z"⟩
abbrev cX1_mayBeScratched : ByteArray := prog_3_method_3_code
def yX1_mayBeScratched : MethodName := ⟨RX1, "mayBeScratched", "(I)Z"⟩
abbrev cX1_mayLeadTo : ByteArray := prog_3_method_4_code
def yX1_mayLeadTo : MethodName := ⟨RX1, "mayLeadTo", "(I)Z"⟩
abbrev cX1_longNow : ByteArray := prog_3_method_5_code
def yX1_longNow : MethodName := ⟨RX1, "longNow", "()I"⟩
abbrev cX1_makeLong : ByteArray := prog_3_method_6_code
def yX1_makeLong : MethodName := ⟨RX1, "makeLong", "(I)V"⟩
abbrev cX1_skipFrom : ByteArray := prog_3_method_7_code
def yX1_skipFrom : MethodName := ⟨RX1, "skipFrom", "(I)I"⟩
abbrev cX1_skipTo : ByteArray := prog_3_method_8_code
def yX1_skipTo : MethodName := ⟨RX1, "skipTo", "(II)V"⟩
abbrev cX1_scratches : ByteArray := prog_3_method_9_code
def yX1_scratches : MethodName := ⟨RX1, "scratches", "()I"⟩
abbrev cX1_following : ByteArray := prog_3_method_10_code
def yX1_following : MethodName := ⟨RX1, "following", "(II)I"⟩
abbrev cX1_arrivesAt : ByteArray := prog_3_method_11_code
def yX1_arrivesAt : MethodName := ⟨RX1, "arrivesAt", "(II)I"⟩
abbrev cX1_goesRoundWithout : ByteArray := prog_3_method_12_code
def yX1_goesRoundWithout : MethodName := ⟨RX1, "goesRoundWithout", "(I)Z"⟩
abbrev cX1_goesRound : ByteArray := prog_3_method_13_code
def yX1_goesRound : MethodName := ⟨RX1, "goesRound", "()Z"⟩
abbrev cX1_minutes : ByteArray := prog_3_method_14_code
def yX1_minutes : MethodName := ⟨RX1, "minutes", "(I)I"⟩
abbrev cX1_grooveIn : ByteArray := prog_3_method_15_code
def yX1_grooveIn : MethodName := ⟨RX1, "grooveIn", "(II)I"⟩
abbrev cX1_scratchedBits : ByteArray := prog_3_method_16_code
def yX1_scratchedBits : MethodName := ⟨RX1, "scratchedBits", "()I"⟩
abbrev cX1_fewestWaxed : ByteArray := prog_3_method_17_code
def yX1_fewestWaxed : MethodName := ⟨RX1, "fewestWaxed", "()I"⟩
def RX2 : String := "ThirdFavour$Night"
def TX2 : u_T := fun k => match k with
  | 0 => ("ThirdFavour$Night", "lengths", "[I", true)
  | 1 => ("ThirdFavour$Night", "timesPlayed", "[I", true)
  | 2 => ("ThirdFavour$Night", "waiting", "[I", true)
  | 3 => ("ThirdFavour$Night", "chosen", "[I", true)
  | 4 => ("ThirdFavour$Night", "played", "[I", true)
  | 5 => ("ThirdFavour$Night", "coins", "LThirdFavour$Coins;", true)
  | 6 => ("ThirdFavour$Night", "plays", "I", false)
  | 7 => ("ThirdFavour$Night", "playedMinutes", "I", false)
  | 8 => ("ThirdFavour$Night", "lastEnd", "I", false)
  | _ => ("ThirdFavour$Night", "worn", "I", false)
def tyX2 : Nat → FieldType := fun k => match k with
  | 0 => .array .int
  | 1 => .array .int
  | 2 => .array .int
  | 3 => .array .int
  | 4 => .array .int
  | 5 => .object "ThirdFavour$Coins"
  | 6 => .int
  | 7 => .int
  | 8 => .int
  | _ => .int
abbrev wsX20 : List Cond := u_ws RX2 TX2 10
theorem nmX2 : ∀ a, a < 10 → ∀ b, b < 10 → a ≠ b → (TX2 a).2.1 ≠ (TX2 b).2.1 := by decide +kernel
theorem tyX2_ok : ∀ k, k < 10 → parseFieldDescriptor (TX2 k).2.2.1 = some (tyX2 k) := by decide +kernel
abbrev cX2_init : ByteArray := prog_4_method_1_code
def yX2_init : MethodName := ⟨RX2, "<init>", "()V"⟩
abbrev cX2_measure : ByteArray := prog_4_method_2_code
def yX2_measure : MethodName := ⟨RX2, "measure", "(II)V"⟩
abbrev cX2_coins : ByteArray := prog_4_method_3_code
def yX2_coins : MethodName := ⟨RX2, "coins", "()LThirdFavour$Coins;"⟩
abbrev cX2_pass : ByteArray := prog_4_method_4_code
def yX2_pass : MethodName := ⟨RX2, "pass", "(II)V"⟩
abbrev cX2_begin : ByteArray := prog_4_method_5_code
def yX2_begin : MethodName := ⟨RX2, "begin", "()V"⟩
abbrev cX2_firstLeft : ByteArray := prog_4_method_6_code
def yX2_firstLeft : MethodName := ⟨RX2, "firstLeft", "()I"⟩
abbrev cX2_waits : ByteArray := prog_4_method_7_code
def yX2_waits : MethodName := ⟨RX2, "waits", "(II)Z"⟩
abbrev cX2_firstOfMostAsked : ByteArray := prog_4_method_8_code
def yX2_firstOfMostAsked : MethodName := ⟨RX2, "firstOfMostAsked", "(II)I"⟩
abbrev cX2_latestAsked : ByteArray := prog_4_method_9_code
def yX2_latestAsked : MethodName := ⟨RX2, "latestAsked", "(II)I"⟩
abbrev cX2_serve : ByteArray := prog_4_method_10_code
def yX2_serve : MethodName := ⟨RX2, "serve", "(IIII)I"⟩
abbrev cX2_chosenIn : ByteArray := prog_4_method_11_code
def yX2_chosenIn : MethodName := ⟨RX2, "chosenIn", "(I)I"⟩
abbrev cX2_playedFor : ByteArray := prog_4_method_12_code
def yX2_playedFor : MethodName := ⟨RX2, "playedFor", "(I)I"⟩
abbrev cX2_waitOf : ByteArray := prog_4_method_13_code
def yX2_waitOf : MethodName := ⟨RX2, "waitOf", "(I)I"⟩
abbrev cX2_playingIn : ByteArray := prog_4_method_14_code
def yX2_playingIn : MethodName := ⟨RX2, "playingIn", "(I)I"⟩
abbrev cX2_silentMinutes : ByteArray := prog_4_method_15_code
def yX2_silentMinutes : MethodName := ⟨RX2, "silentMinutes", "()I"⟩
abbrev cX2_pleasedWithin : ByteArray := prog_4_method_16_code
def yX2_pleasedWithin : MethodName := ⟨RX2, "pleasedWithin", "(I)I"⟩
abbrev cX2_endOfLastPlay : ByteArray := prog_4_method_17_code
def yX2_endOfLastPlay : MethodName := ⟨RX2, "endOfLastPlay", "()I"⟩
abbrev cX2_playsOf : ByteArray := prog_4_method_18_code
def yX2_playsOf : MethodName := ⟨RX2, "playsOf", "(I)I"⟩
abbrev cX2_allPlays : ByteArray := prog_4_method_19_code
def yX2_allPlays : MethodName := ⟨RX2, "allPlays", "()I"⟩
abbrev cX2_firstWorn : ByteArray := prog_4_method_20_code
def yX2_firstWorn : MethodName := ⟨RX2, "firstWorn", "()I"⟩
def RX3 : String := "ThirdFavour$Sheet"
def TX3 : u_T := fun k => match k with
  | 0 => ("ThirdFavour$Sheet", "items", "[I", true)
  | 1 => ("ThirdFavour$Sheet", "form", "I", false)
  | _ => ("ThirdFavour$Sheet", "held", "I", false)
def tyX3 : Nat → FieldType := fun k => match k with
  | 0 => .array .int
  | 1 => .int
  | _ => .int
abbrev wsX30 : List Cond := u_ws RX3 TX3 3
theorem nmX3 : ∀ a, a < 3 → ∀ b, b < 3 → a ≠ b → (TX3 a).2.1 ≠ (TX3 b).2.1 := by decide +kernel
theorem tyX3_ok : ∀ k, k < 3 → parseFieldDescriptor (TX3 k).2.2.1 = some (tyX3 k) := by decide +kernel
abbrev cX3_init : ByteArray := prog_5_method_1_code
def yX3_init : MethodName := ⟨RX3, "<init>", "()V"⟩
abbrev cX3_isForm : ByteArray := prog_5_method_2_code
def yX3_isForm : MethodName := ⟨RX3, "isForm", "(I)Z"⟩
abbrev cX3_isLost : ByteArray := prog_5_method_3_code
def yX3_isLost : MethodName := ⟨RX3, "isLost", "()Z"⟩
abbrev cX3_formNow : ByteArray := prog_5_method_4_code
def yX3_formNow : MethodName := ⟨RX3, "formNow", "()I"⟩
abbrev cX3_number : ByteArray := prog_5_method_5_code
def yX3_number : MethodName := ⟨RX3, "number", "()I"⟩
abbrev cX3_renew : ByteArray := prog_5_method_6_code
def yX3_renew : MethodName := ⟨RX3, "renew", "(II)V"⟩
abbrev cX3_becomeLost : ByteArray := prog_5_method_7_code
def yX3_becomeLost : MethodName := ⟨RX3, "becomeLost", "()V"⟩
abbrev cX3_holds : ByteArray := prog_5_method_8_code
def yX3_holds : MethodName := ⟨RX3, "holds", "(I)Z"⟩
abbrev cX3_holdsRun : ByteArray := prog_5_method_9_code
def yX3_holdsRun : MethodName := ⟨RX3, "holdsRun", "(II)Z"⟩
abbrev cX3_item : ByteArray := prog_5_method_10_code
def yX3_item : MethodName := ⟨RX3, "item", "(I)I"⟩
abbrev cX3_put : ByteArray := prog_5_method_11_code
def yX3_put : MethodName := ⟨RX3, "put", "(II)V"⟩
abbrev cX3_narrowed : ByteArray := prog_5_method_12_code
def yX3_narrowed : MethodName := ⟨RX3, "narrowed", "(I)I"⟩
abbrev cX3_takeRun : ByteArray := prog_5_method_13_code
def yX3_takeRun : MethodName := ⟨RX3, "takeRun", "(LThirdFavour$Sheet;III)V"⟩
def RX4 : String := "ThirdFavour$Slip"
def TX4 : u_T := fun k => match k with
  | 0 => ("ThirdFavour$Slip", "bytes", "[I", true)
  | 1 => ("ThirdFavour$Slip", "told", "LThirdFavour$Coins;", true)
  | 2 => ("ThirdFavour$Slip", "held", "I", false)
  | _ => ("ThirdFavour$Slip", "wrongPlace", "I", false)
def tyX4 : Nat → FieldType := fun k => match k with
  | 0 => .array .int
  | 1 => .object "ThirdFavour$Coins"
  | 2 => .int
  | _ => .int
abbrev wsX40 : List Cond := u_ws RX4 TX4 4
theorem nmX4 : ∀ a, a < 4 → ∀ b, b < 4 → a ≠ b → (TX4 a).2.1 ≠ (TX4 b).2.1 := by decide +kernel
theorem tyX4_ok : ∀ k, k < 4 → parseFieldDescriptor (TX4 k).2.2.1 = some (tyX4 k) := by decide +kernel
abbrev cX4_init : ByteArray := prog_6_method_1_code
def yX4_init : MethodName := ⟨RX4, "<init>", "()V"⟩
abbrev cX4_bytesHeld : ByteArray := prog_6_method_2_code
def yX4_bytesHeld : MethodName := ⟨RX4, "bytesHeld", "()I"⟩
abbrev cX4_faultPlace : ByteArray := prog_6_method_3_code
def yX4_faultPlace : MethodName := ⟨RX4, "faultPlace", "()I"⟩
abbrev cX4_coins : ByteArray := prog_6_method_4_code
def yX4_coins : MethodName := ⟨RX4, "coins", "()LThirdFavour$Coins;"⟩
abbrev cX4_append : ByteArray := prog_6_method_5_code
def yX4_append : MethodName := ⟨RX4, "append", "(I)Z"⟩
abbrev cX4_clear : ByteArray := prog_6_method_6_code
def yX4_clear : MethodName := ⟨RX4, "clear", "()V"⟩
abbrev cX4_dropLastCoin : ByteArray := prog_6_method_7_code
def yX4_dropLastCoin : MethodName := ⟨RX4, "dropLastCoin", "()V"⟩
abbrev cX4_readAnew : ByteArray := prog_6_method_8_code
def yX4_readAnew : MethodName := ⟨RX4, "readAnew", "()V"⟩
abbrev cX4_findFault : ByteArray := prog_6_method_9_code
def yX4_findFault : MethodName := ⟨RX4, "findFault", "()I"⟩
abbrev cX4_goesOnAt : ByteArray := prog_6_method_10_code
def yX4_goesOnAt : MethodName := ⟨RX4, "goesOnAt", "(I)Z"⟩
abbrev cX4_minuteAt : ByteArray := prog_6_method_11_code
def yX4_minuteAt : MethodName := ⟨RX4, "minuteAt", "(I)I"⟩
abbrev cX4_figureAt : ByteArray := prog_6_method_12_code
def yX4_figureAt : MethodName := ⟨RX4, "figureAt", "(I)I"⟩
def RX5 : String := "ThirdFavour"
def TX5 : u_T := fun k => match k with
  | 0 => ("ThirdFavour", "discs", "[LThirdFavour$Disc;", true)
  | 1 => ("ThirdFavour", "sheets", "[LThirdFavour$Sheet;", true)
  | 2 => ("ThirdFavour", "slip", "LThirdFavour$Slip;", true)
  | 3 => ("ThirdFavour", "evening", "LThirdFavour$Night;", true)
  | 4 => ("ThirdFavour", "heardMinutes", "[I", true)
  | 5 => ("ThirdFavour", "heardRecords", "[I", true)
  | 6 => ("ThirdFavour", "heardCount", "I", false)
  | 7 => ("ThirdFavour", "kick", "I", false)
  | 8 => ("ThirdFavour", "lawNow", "I", false)
  | 9 => ("ThirdFavour", "life", "I", false)
  | 10 => ("ThirdFavour", "patience", "I", false)
  | _ => ("ThirdFavour", "latestFinding", "I", false)
def tyX5 : Nat → FieldType := fun k => match k with
  | 0 => .array (.object "ThirdFavour$Disc")
  | 1 => .array (.object "ThirdFavour$Sheet")
  | 2 => .object "ThirdFavour$Slip"
  | 3 => .object "ThirdFavour$Night"
  | 4 => .array .int
  | 5 => .array .int
  | 6 => .int
  | 7 => .int
  | 8 => .int
  | 9 => .int
  | 10 => .int
  | _ => .int
abbrev wsX50 : List Cond := u_ws RX5 TX5 12
theorem nmX5 : ∀ a, a < 12 → ∀ b, b < 12 → a ≠ b → (TX5 a).2.1 ≠ (TX5 b).2.1 := by decide +kernel
theorem tyX5_ok : ∀ k, k < 12 → parseFieldDescriptor (TX5 k).2.2.1 = some (tyX5 k) := by decide +kernel
abbrev cX5_init : ByteArray := prog_1_method_1_code
def yX5_init : MethodName := ⟨RX5, "<init>", "()V"⟩
abbrev cX5_record : ByteArray := prog_1_method_2_code
def yX5_record : MethodName := ⟨RX5, "record", "(II)I"⟩
abbrev cX5_scratch : ByteArray := prog_1_method_3_code
def yX5_scratch : MethodName := ⟨RX5, "scratch", "(III)I"⟩
abbrev cX5_type : ByteArray := prog_1_method_4_code
def yX5_type : MethodName := ⟨RX5, "type", "(I)I"⟩
abbrev cX5_wipe : ByteArray := prog_1_method_5_code
def yX5_wipe : MethodName := ⟨RX5, "wipe", "()I"⟩
abbrev cX5_fault : ByteArray := prog_1_method_6_code
def yX5_fault : MethodName := ⟨RX5, "fault", "()I"⟩
abbrev cX5_undo : ByteArray := prog_1_method_7_code
def yX5_undo : MethodName := ⟨RX5, "undo", "()I"⟩
abbrev cX5_set : ByteArray := prog_1_method_8_code
def yX5_set : MethodName := ⟨RX5, "set", "(II)I"⟩
abbrev cX5_read : ByteArray := prog_1_method_9_code
def yX5_read : MethodName := ⟨RX5, "read", "(I)I"⟩
abbrev cX5_plays : ByteArray := prog_1_method_10_code
def yX5_plays : MethodName := ⟨RX5, "plays", "(I)I"⟩
abbrev cX5_groove : ByteArray := prog_1_method_11_code
def yX5_groove : MethodName := ⟨RX5, "groove", "(II)I"⟩
abbrev cX5_loops : ByteArray := prog_1_method_12_code
def yX5_loops : MethodName := ⟨RX5, "loops", "(I)I"⟩
abbrev cX5_wax : ByteArray := prog_1_method_13_code
def yX5_wax : MethodName := ⟨RX5, "wax", "(II)I"⟩
abbrev cX5_coin : ByteArray := prog_1_method_14_code
def yX5_coin : MethodName := ⟨RX5, "coin", "(II)I"⟩
abbrev cX5_at : ByteArray := prog_1_method_15_code
def yX5_at : MethodName := ⟨RX5, "at", "(I)I"⟩
abbrev cX5_served : ByteArray := prog_1_method_16_code
def yX5_served : MethodName := ⟨RX5, "served", "(II)I"⟩
abbrev cX5_night : ByteArray := prog_1_method_17_code
def yX5_night : MethodName := ⟨RX5, "night", "(II)I"⟩
abbrev cX5_best : ByteArray := prog_1_method_18_code
def yX5_best : MethodName := ⟨RX5, "best", "()I"⟩
abbrev cX5_times : ByteArray := prog_1_method_19_code
def yX5_times : MethodName := ⟨RX5, "times", "(I)I"⟩
abbrev cX5_first : ByteArray := prog_1_method_20_code
def yX5_first : MethodName := ⟨RX5, "first", "()I"⟩
abbrev cX5_ask : ByteArray := prog_1_method_21_code
def yX5_ask : MethodName := ⟨RX5, "ask", "(IIII)I"⟩
abbrev cX5_stuck : ByteArray := prog_1_method_22_code
def yX5_stuck : MethodName := ⟨RX5, "stuck", "(II)I"⟩
abbrev cX5_heard : ByteArray := prog_1_method_23_code
def yX5_heard : MethodName := ⟨RX5, "heard", "(II)I"⟩
abbrev cX5_forget : ByteArray := prog_1_method_24_code
def yX5_forget : MethodName := ⟨RX5, "forget", "()I"⟩
abbrev cX5_laws : ByteArray := prog_1_method_25_code
def yX5_laws : MethodName := ⟨RX5, "laws", "()I"⟩
abbrev cX5_next : ByteArray := prog_1_method_26_code
def yX5_next : MethodName := ⟨RX5, "next", "(II)J"⟩
abbrev cX5_since : ByteArray := prog_1_method_27_code
def yX5_since : MethodName := ⟨RX5, "since", "(I)I"⟩
abbrev cX5_sheet : ByteArray := prog_1_method_28_code
def yX5_sheet : MethodName := ⟨RX5, "sheet", "(III)I"⟩
abbrev cX5_lose : ByteArray := prog_1_method_29_code
def yX5_lose : MethodName := ⟨RX5, "lose", "(I)I"⟩
abbrev cX5_lay : ByteArray := prog_1_method_30_code
def yX5_lay : MethodName := ⟨RX5, "lay", "(IIII)I"⟩
abbrev cX5_get : ByteArray := prog_1_method_31_code
def yX5_get : MethodName := ⟨RX5, "get", "(III)I"⟩
abbrev cX5_copy : ByteArray := prog_1_method_32_code
def yX5_copy : MethodName := ⟨RX5, "copy", "(IIIII)I"⟩
abbrev cX5_write : ByteArray := prog_1_method_33_code
def yX5_write : MethodName := ⟨RX5, "write", "(I)I"⟩
abbrev cX5_count : ByteArray := prog_1_method_34_code
def yX5_count : MethodName := ⟨RX5, "count", "(I)I"⟩
abbrev cX5_digest : ByteArray := prog_1_method_35_code
def yX5_digest : MethodName := ⟨RX5, "digest", "()J"⟩
abbrev cX5_within : ByteArray := prog_1_method_36_code
def yX5_within : MethodName := ⟨RX5, "within", "(III)Z"⟩
abbrev cX5_isRecord : ByteArray := prog_1_method_37_code
def yX5_isRecord : MethodName := ⟨RX5, "isRecord", "(I)Z"⟩
abbrev cX5_isLaw : ByteArray := prog_1_method_38_code
def yX5_isLaw : MethodName := ⟨RX5, "isLaw", "(I)Z"⟩
abbrev cX5_isNightMinute : ByteArray := prog_1_method_39_code
def yX5_isNightMinute : MethodName := ⟨RX5, "isNightMinute", "(I)Z"⟩
abbrev cX5_discOf : ByteArray := prog_1_method_40_code
def yX5_discOf : MethodName := ⟨RX5, "discOf", "(I)LThirdFavour$Disc;"⟩
abbrev cX5_sheetOf : ByteArray := prog_1_method_41_code
def yX5_sheetOf : MethodName := ⟨RX5, "sheetOf", "(I)LThirdFavour$Sheet;"⟩
abbrev cX5_finding : ByteArray := prog_1_method_42_code
def yX5_finding : MethodName := ⟨RX5, "finding", "(I)I"⟩
abbrev cX5_setKick : ByteArray := prog_1_method_43_code
def yX5_setKick : MethodName := ⟨RX5, "setKick", "(I)I"⟩
abbrev cX5_setLaw : ByteArray := prog_1_method_44_code
def yX5_setLaw : MethodName := ⟨RX5, "setLaw", "(I)I"⟩
abbrev cX5_setLife : ByteArray := prog_1_method_45_code
def yX5_setLife : MethodName := ⟨RX5, "setLife", "(I)I"⟩
abbrev cX5_setPatience : ByteArray := prog_1_method_46_code
def yX5_setPatience : MethodName := ⟨RX5, "setPatience", "(I)I"⟩
abbrev cX5_measureDiscs : ByteArray := prog_1_method_47_code
def yX5_measureDiscs : MethodName := ⟨RX5, "measureDiscs", "()V"⟩
abbrev cX5_passNight : ByteArray := prog_1_method_48_code
def yX5_passNight : MethodName := ⟨RX5, "passNight", "(I)V"⟩
abbrev cX5_fewestMore : ByteArray := prog_1_method_49_code
def yX5_fewestMore : MethodName := ⟨RX5, "fewestMore", "(III)I"⟩
abbrev cX5_passNightWith : ByteArray := prog_1_method_50_code
def yX5_passNightWith : MethodName := ⟨RX5, "passNightWith", "(III)V"⟩
abbrev cX5_rowOf : ByteArray := prog_1_method_51_code
def yX5_rowOf : MethodName := ⟨RX5, "rowOf", "(III)I"⟩
abbrev cX5_tellRow : ByteArray := prog_1_method_52_code
def yX5_tellRow : MethodName := ⟨RX5, "tellRow", "(II)I"⟩
abbrev cX5_soundsAsHeard : ByteArray := prog_1_method_53_code
def yX5_soundsAsHeard : MethodName := ⟨RX5, "soundsAsHeard", "()Z"⟩
abbrev cX5_commonDivisor : ByteArray := prog_1_method_54_code
def yX5_commonDivisor : MethodName := ⟨RX5, "commonDivisor", "(II)I"⟩
abbrev cX5_itemRefusal : ByteArray := prog_1_method_55_code
def yX5_itemRefusal : MethodName := ⟨RX5, "itemRefusal", "(III)I"⟩
abbrev cX5_allLong : ByteArray := prog_1_method_56_code
def yX5_allLong : MethodName := ⟨RX5, "allLong", "()I"⟩
abbrev cX5_allScratches : ByteArray := prog_1_method_57_code
def yX5_allScratches : MethodName := ⟨RX5, "allScratches", "()I"⟩
abbrev cX5_allPlays : ByteArray := prog_1_method_58_code
def yX5_allPlays : MethodName := ⟨RX5, "allPlays", "()I"⟩
abbrev cX5_mixed : ByteArray := prog_1_method_59_code
def yX5_mixed : MethodName := ⟨RX5, "mixed", "(JJ)J"⟩
abbrev cX5_digestRecords : ByteArray := prog_1_method_60_code
def yX5_digestRecords : MethodName := ⟨RX5, "digestRecords", "(J)J"⟩
abbrev cX5_digestNights : ByteArray := prog_1_method_61_code
def yX5_digestNights : MethodName := ⟨RX5, "digestNights", "(J)J"⟩
def RX6 : String := "ThirdFavourModel"
def TX6 : u_T := fun k => match k with
  | 0 => ("ThirdFavourModel", "forms", "[I", true)
  | 1 => ("ThirdFavourModel", "sizes", "[I", true)
  | 2 => ("ThirdFavourModel", "items", "[I", true)
  | 3 => ("ThirdFavourModel", "moved", "[I", true)
  | 4 => ("ThirdFavourModel", "latest", "I", false)
  | 5 => ("ThirdFavourModel", "grooves", "[I", true)
  | 6 => ("ThirdFavourModel", "scratches", "[I", true)
  | 7 => ("ThirdFavourModel", "settings", "[I", true)
  | 8 => ("ThirdFavourModel", "text", "[I", true)
  | 9 => ("ThirdFavourModel", "typed", "I", false)
  | 10 => ("ThirdFavourModel", "at", "I", false)
  | 11 => ("ThirdFavourModel", "coins", "I", false)
  | 12 => ("ThirdFavourModel", "coin", "[I", true)
  | 13 => ("ThirdFavourModel", "chosen", "[I", true)
  | 14 => ("ThirdFavourModel", "played", "[I", true)
  | 15 => ("ThirdFavourModel", "sounds", "[I", true)
  | 16 => ("ThirdFavourModel", "timesOf", "[I", true)
  | 17 => ("ThirdFavourModel", "end", "I", false)
  | 18 => ("ThirdFavourModel", "playing", "I", false)
  | 19 => ("ThirdFavourModel", "firstDone", "I", false)
  | 20 => ("ThirdFavourModel", "hearings", "I", false)
  | _ => ("ThirdFavourModel", "heard", "[I", true)
def tyX6 : Nat → FieldType := fun k => match k with
  | 0 => .array .int
  | 1 => .array .int
  | 2 => .array .int
  | 3 => .array .int
  | 4 => .int
  | 5 => .array .int
  | 6 => .array .int
  | 7 => .array .int
  | 8 => .array .int
  | 9 => .int
  | 10 => .int
  | 11 => .int
  | 12 => .array .int
  | 13 => .array .int
  | 14 => .array .int
  | 15 => .array .int
  | 16 => .array .int
  | 17 => .int
  | 18 => .int
  | 19 => .int
  | 20 => .int
  | _ => .array .int
abbrev wsX60 : List Cond := u_ws RX6 TX6 22
theorem nmX6 : ∀ a, a < 22 → ∀ b, b < 22 → a ≠ b → (TX6 a).2.1 ≠ (TX6 b).2.1 := by decide +kernel
theorem tyX6_ok : ∀ k, k < 22 → parseFieldDescriptor (TX6 k).2.2.1 = some (tyX6 k) := by decide +kernel
abbrev cX6_init : ByteArray := prog_8_method_1_code
def yX6_init : MethodName := ⟨RX6, "<init>", "()V"⟩
abbrev cX6_in : ByteArray := prog_8_method_3_code
def yX6_in : MethodName := ⟨RX6, "in", "(JJJ)Z"⟩
abbrev cX6_no : ByteArray := prog_8_method_4_code
def yX6_no : MethodName := ⟨RX6, "no", "(I)J"⟩
abbrev cX6_isTwo : ByteArray := prog_8_method_5_code
def yX6_isTwo : MethodName := ⟨RX6, "isTwo", "(I)Z"⟩
abbrev cX6_met : ByteArray := prog_8_method_6_code
def yX6_met : MethodName := ⟨RX6, "met", "(I)I"⟩
abbrev cX6_isSheet : ByteArray := prog_8_method_7_code
def yX6_isSheet : MethodName := ⟨RX6, "isSheet", "(I)Z"⟩
abbrev cX6_sheet : ByteArray := prog_8_method_8_code
def yX6_sheet : MethodName := ⟨RX6, "sheet", "(III)I"⟩
abbrev cX6_lose : ByteArray := prog_8_method_9_code
def yX6_lose : MethodName := ⟨RX6, "lose", "(I)I"⟩
abbrev cX6_lacks : ByteArray := prog_8_method_10_code
def yX6_lacks : MethodName := ⟨RX6, "lacks", "(III)I"⟩
abbrev cX6_cut : ByteArray := prog_8_method_11_code
def yX6_cut : MethodName := ⟨RX6, "cut", "(II)I"⟩
abbrev cX6_lay : ByteArray := prog_8_method_12_code
def yX6_lay : MethodName := ⟨RX6, "lay", "(IIII)I"⟩
abbrev cX6_get : ByteArray := prog_8_method_13_code
def yX6_get : MethodName := ⟨RX6, "get", "(III)I"⟩
abbrev cX6_copy : ByteArray := prog_8_method_14_code
def yX6_copy : MethodName := ⟨RX6, "copy", "(IIIII)I"⟩
abbrev cX6_isRecord : ByteArray := prog_8_method_15_code
def yX6_isRecord : MethodName := ⟨RX6, "isRecord", "(I)Z"⟩
abbrev cX6_record : ByteArray := prog_8_method_16_code
def yX6_record : MethodName := ⟨RX6, "record", "(II)I"⟩
abbrev cX6_scratch : ByteArray := prog_8_method_17_code
def yX6_scratch : MethodName := ⟨RX6, "scratch", "(III)I"⟩
abbrev cX6_most : ByteArray := prog_8_method_18_code
def yX6_most : MethodName := ⟨RX6, "most", "(I)I"⟩
abbrev cX6_set : ByteArray := prog_8_method_19_code
def yX6_set : MethodName := ⟨RX6, "set", "(II)I"⟩
abbrev cX6_read : ByteArray := prog_8_method_20_code
def yX6_read : MethodName := ⟨RX6, "read", "(I)I"⟩
abbrev cX6_onFrom : ByteArray := prog_8_method_21_code
def yX6_onFrom : MethodName := ⟨RX6, "onFrom", "(III)I"⟩
abbrev cX6_goes : ByteArray := prog_8_method_22_code
def yX6_goes : MethodName := ⟨RX6, "goes", "(II)I"⟩
abbrev cX6_playsOf : ByteArray := prog_8_method_23_code
def yX6_playsOf : MethodName := ⟨RX6, "playsOf", "(I)I"⟩
abbrev cX6_plays : ByteArray := prog_8_method_24_code
def yX6_plays : MethodName := ⟨RX6, "plays", "(I)I"⟩
abbrev cX6_grooveOf : ByteArray := prog_8_method_25_code
def yX6_grooveOf : MethodName := ⟨RX6, "grooveOf", "(II)I"⟩
abbrev cX6_groove : ByteArray := prog_8_method_26_code
def yX6_groove : MethodName := ⟨RX6, "groove", "(II)I"⟩
abbrev cX6_loopsOf : ByteArray := prog_8_method_27_code
def yX6_loopsOf : MethodName := ⟨RX6, "loopsOf", "(I)I"⟩
abbrev cX6_loops : ByteArray := prog_8_method_28_code
def yX6_loops : MethodName := ⟨RX6, "loops", "(I)I"⟩
abbrev cX6_ones : ByteArray := prog_8_method_29_code
def yX6_ones : MethodName := ⟨RX6, "ones", "(I)I"⟩
abbrev cX6_waxOf : ByteArray := prog_8_method_30_code
def yX6_waxOf : MethodName := ⟨RX6, "waxOf", "(II)I"⟩
abbrev cX6_wax : ByteArray := prog_8_method_31_code
def yX6_wax : MethodName := ⟨RX6, "wax", "(II)I"⟩
abbrev cX6_type : ByteArray := prog_8_method_32_code
def yX6_type : MethodName := ⟨RX6, "type", "(I)I"⟩
abbrev cX6_wipe : ByteArray := prog_8_method_33_code
def yX6_wipe : MethodName := ⟨RX6, "wipe", "()I"⟩
abbrev cX6_here : ByteArray := prog_8_method_34_code
def yX6_here : MethodName := ⟨RX6, "here", "()I"⟩
abbrev cX6_none : ByteArray := prog_8_method_35_code
def yX6_none : MethodName := ⟨RX6, "none", "()I"⟩
abbrev cX6_readsPart : ByteArray := prog_8_method_36_code
def yX6_readsPart : MethodName := ⟨RX6, "readsPart", "()Z"⟩
abbrev cX6_reads : ByteArray := prog_8_method_37_code
def yX6_reads : MethodName := ⟨RX6, "reads", "()I"⟩
abbrev cX6_fault : ByteArray := prog_8_method_38_code
def yX6_fault : MethodName := ⟨RX6, "fault", "()I"⟩
abbrev cX6_undo : ByteArray := prog_8_method_39_code
def yX6_undo : MethodName := ⟨RX6, "undo", "()I"⟩
abbrev cX6_isCoin : ByteArray := prog_8_method_40_code
def yX6_isCoin : MethodName := ⟨RX6, "isCoin", "(I)Z"⟩
abbrev cX6_coin : ByteArray := prog_8_method_41_code
def yX6_coin : MethodName := ⟨RX6, "coin", "(II)I"⟩
abbrev cX6_chooses : ByteArray := prog_8_method_42_code
def yX6_chooses : MethodName := ⟨RX6, "chooses", "(II)I"⟩
abbrev cX6_mostAsked : ByteArray := prog_8_method_43_code
def yX6_mostAsked : MethodName := ⟨RX6, "mostAsked", "(I)I"⟩
abbrev cX6_nextCoin : ByteArray := prog_8_method_44_code
def yX6_nextCoin : MethodName := ⟨RX6, "nextCoin", "()I"⟩
abbrev cX6_runs : ByteArray := prog_8_method_45_code
def yX6_runs : MethodName := ⟨RX6, "runs", "(I)V"⟩
abbrev cX6_starts : ByteArray := prog_8_method_46_code
def yX6_starts : MethodName := ⟨RX6, "starts", "(III)I"⟩
abbrev cX6_nightNow : ByteArray := prog_8_method_47_code
def yX6_nightNow : MethodName := ⟨RX6, "nightNow", "()V"⟩
abbrev cX6_isPleased : ByteArray := prog_8_method_48_code
def yX6_isPleased : MethodName := ⟨RX6, "isPleased", "(I)Z"⟩
abbrev cX6_pleased : ByteArray := prog_8_method_49_code
def yX6_pleased : MethodName := ⟨RX6, "pleased", "()I"⟩
abbrev cX6_at : ByteArray := prog_8_method_50_code
def yX6_at : MethodName := ⟨RX6, "at", "(I)I"⟩
abbrev cX6_servedNow : ByteArray := prog_8_method_51_code
def yX6_servedNow : MethodName := ⟨RX6, "servedNow", "(II)I"⟩
abbrev cX6_served : ByteArray := prog_8_method_52_code
def yX6_served : MethodName := ⟨RX6, "served", "(II)I"⟩
abbrev cX6_nightOf : ByteArray := prog_8_method_53_code
def yX6_nightOf : MethodName := ⟨RX6, "nightOf", "(II)I"⟩
abbrev cX6_night : ByteArray := prog_8_method_54_code
def yX6_night : MethodName := ⟨RX6, "night", "(II)I"⟩
abbrev cX6_bestNow : ByteArray := prog_8_method_55_code
def yX6_bestNow : MethodName := ⟨RX6, "bestNow", "()I"⟩
abbrev cX6_best : ByteArray := prog_8_method_56_code
def yX6_best : MethodName := ⟨RX6, "best", "()I"⟩
abbrev cX6_times : ByteArray := prog_8_method_57_code
def yX6_times : MethodName := ⟨RX6, "times", "(I)I"⟩
abbrev cX6_first : ByteArray := prog_8_method_58_code
def yX6_first : MethodName := ⟨RX6, "first", "()I"⟩
abbrev cX6_isPlaying : ByteArray := prog_8_method_59_code
def yX6_isPlaying : MethodName := ⟨RX6, "isPlaying", "(II)Z"⟩
abbrev cX6_askOf : ByteArray := prog_8_method_60_code
def yX6_askOf : MethodName := ⟨RX6, "askOf", "(IIII)I"⟩
abbrev cX6_ask : ByteArray := prog_8_method_61_code
def yX6_ask : MethodName := ⟨RX6, "ask", "(IIII)I"⟩
abbrev cX6_stuckOf : ByteArray := prog_8_method_62_code
def yX6_stuckOf : MethodName := ⟨RX6, "stuckOf", "(II)I"⟩
abbrev cX6_stuck : ByteArray := prog_8_method_63_code
def yX6_stuck : MethodName := ⟨RX6, "stuck", "(II)I"⟩
abbrev cX6_heard : ByteArray := prog_8_method_64_code
def yX6_heard : MethodName := ⟨RX6, "heard", "(II)I"⟩
abbrev cX6_forget : ByteArray := prog_8_method_65_code
def yX6_forget : MethodName := ⟨RX6, "forget", "()I"⟩
abbrev cX6_lawsNow : ByteArray := prog_8_method_66_code
def yX6_lawsNow : MethodName := ⟨RX6, "lawsNow", "()I"⟩
abbrev cX6_laws : ByteArray := prog_8_method_67_code
def yX6_laws : MethodName := ⟨RX6, "laws", "()I"⟩
abbrev cX6_part : ByteArray := prog_8_method_68_code
def yX6_part : MethodName := ⟨RX6, "part", "(JJI)J"⟩
abbrev cX6_nextOf : ByteArray := prog_8_method_69_code
def yX6_nextOf : MethodName := ⟨RX6, "nextOf", "(II)J"⟩
abbrev cX6_next : ByteArray := prog_8_method_70_code
def yX6_next : MethodName := ⟨RX6, "next", "(II)J"⟩
abbrev cX6_sinceOf : ByteArray := prog_8_method_71_code
def yX6_sinceOf : MethodName := ⟨RX6, "sinceOf", "(I)I"⟩
abbrev cX6_since : ByteArray := prog_8_method_72_code
def yX6_since : MethodName := ⟨RX6, "since", "(I)I"⟩
abbrev cX6_write : ByteArray := prog_8_method_73_code
def yX6_write : MethodName := ⟨RX6, "write", "(I)I"⟩
abbrev cX6_playsAll : ByteArray := prog_8_method_74_code
def yX6_playsAll : MethodName := ⟨RX6, "playsAll", "()I"⟩
abbrev cX6_count : ByteArray := prog_8_method_75_code
def yX6_count : MethodName := ⟨RX6, "count", "(I)I"⟩
abbrev cX6_digest : ByteArray := prog_8_method_76_code
def yX6_digest : MethodName := ⟨RX6, "digest", "()J"⟩
def RJ6 : String := "java/lang/Integer"
def TJ6 : u_T := fun k => match k with
  | _ => ("", "", "", false)
def tyJ6 : Nat → FieldType := fun k => match k with
  | _ => .int
abbrev cJ6_bitCount_0f7a4 : ByteArray := prog_9_method_49_code
def yJ6_bitCount_0f7a4 : MethodName := ⟨RJ6, "bitCount", "(I)I"⟩
def RJ9 : String := "java/lang/Math"
def TJ9 : u_T := fun k => match k with
  | _ => ("", "", "", false)
def tyJ9 : Nat → FieldType := fun k => match k with
  | _ => .int
abbrev cJ9_max_7cf53 : ByteArray := prog_10_method_65_code
def yJ9_max_7cf53 : MethodName := ⟨RJ9, "max", "(II)I"⟩
abbrev cJ9_min_7cf53 : ByteArray := prog_10_method_69_code
def yJ9_min_7cf53 : MethodName := ⟨RJ9, "min", "(II)I"⟩
def RJ10 : String := "java/lang/System"
def TJ10 : u_T := fun k => match k with
  | _ => ("", "", "", false)
def tyJ10 : Nat → FieldType := fun k => match k with
  | _ => .int
def RJ7 : String := "java/util/Arrays"
def TJ7 : u_T := fun k => match k with
  | _ => ("", "", "", false)
def tyJ7 : Nat → FieldType := fun k => match k with
  | _ => .int
abbrev cJ7_fill_53178 : ByteArray := prog_12_method_103_code
def yJ7_fill_53178 : MethodName := ⟨RJ7, "fill", "([II)V"⟩
def RL : String := "ThirdFavourLaw"
abbrev cL_law : ByteArray := code
def yL_law : MethodName := ⟨RL, "law", "([I)Z"⟩
def wsL_law_r1 : List Cond := [Cond.classLink RL 7 RX5, Cond.instantiable RX5 12, Cond.initialized RX5, Cond.classLink RL 10 RX6, Cond.instantiable RX6 22, Cond.initialized RX6, Cond.methodLink RL 9 yX5_init, Cond.instanceMethod yX5_init, Cond.code yX5_init cX5_init 2 none, Cond.methodLink RX5 1 objectInit, Cond.instanceMethod objectInit, Cond.code objectInit ⟨#[0xb1]⟩ 1 none, Cond.classLink RX5 9 RX1, Cond.fieldLink RX5 11 "ThirdFavour" "discs" "[LThirdFavour$Disc;", Cond.classLink RX5 15 RX3, Cond.fieldLink RX5 17 "ThirdFavour" "sheets" "[LThirdFavour$Sheet;", Cond.classLink RX5 21 RX4, Cond.instantiable RX4 4, Cond.initialized RX4, Cond.fieldLink RX5 24 "ThirdFavour" "slip" "LThirdFavour$Slip;", Cond.classLink RX5 28 RX2, Cond.instantiable RX2 10, Cond.initialized RX2, Cond.fieldLink RX5 31 "ThirdFavour" "evening" "LThirdFavour$Night;"]
def wsL_law_r2 : List Cond := [Cond.arrayClass .int, Cond.fieldLink RX5 35 "ThirdFavour" "heardMinutes" "[I", Cond.fieldLink RX5 39 "ThirdFavour" "heardRecords" "[I", Cond.fieldLink RX5 42 "ThirdFavour" "heardCount" "I", Cond.fieldLink RX5 46 "ThirdFavour" "kick" "I", Cond.fieldLink RX5 49 "ThirdFavour" "lawNow" "I", Cond.fieldLink RX5 52 "ThirdFavour" "life" "I", Cond.fieldLink RX5 55 "ThirdFavour" "patience" "I", Cond.fieldLink RX5 58 "ThirdFavour" "latestFinding" "I", Cond.instantiable RX1 2, Cond.initialized RX1, Cond.instantiable RX3 3, Cond.initialized RX3, Cond.instanceMethod yX4_init, Cond.code yX4_init cX4_init 1 none, Cond.methodLink RX4 3 objectInit, Cond.fieldLink RX4 11 "ThirdFavour$Slip" "bytes" "[I", Cond.classLink RX4 15 RX0, Cond.instantiable RX0 3, Cond.initialized RX0, Cond.fieldLink RX4 18 "ThirdFavour$Slip" "told" "LThirdFavour$Coins;", Cond.fieldLink RX4 22 "ThirdFavour$Slip" "held" "I", Cond.fieldLink RX4 26 "ThirdFavour$Slip" "wrongPlace" "I", Cond.instanceMethod yX0_init]
def wsL_law_r3 : List Cond := [Cond.code yX0_init cX0_init 1 none, Cond.methodLink RX0 3 objectInit, Cond.fieldLink RX0 9 "ThirdFavour$Coins" "minutes" "[I", Cond.fieldLink RX0 15 "ThirdFavour$Coins" "buttons" "[I", Cond.fieldLink RX0 18 "ThirdFavour$Coins" "held" "I", Cond.instanceMethod yX2_init, Cond.code yX2_init cX2_init 1 none, Cond.methodLink RX2 3 objectInit, Cond.fieldLink RX2 9 "ThirdFavour$Night" "lengths" "[I", Cond.fieldLink RX2 15 "ThirdFavour$Night" "timesPlayed" "[I", Cond.fieldLink RX2 18 "ThirdFavour$Night" "waiting" "[I", Cond.fieldLink RX2 21 "ThirdFavour$Night" "chosen" "[I", Cond.fieldLink RX2 24 "ThirdFavour$Night" "played" "[I", Cond.classLink RX2 27 RX0, Cond.fieldLink RX2 30 "ThirdFavour$Night" "coins" "LThirdFavour$Coins;", Cond.fieldLink RX2 34 "ThirdFavour$Night" "plays" "I", Cond.fieldLink RX2 38 "ThirdFavour$Night" "playedMinutes" "I", Cond.fieldLink RX2 41 "ThirdFavour$Night" "lastEnd" "I", Cond.fieldLink RX2 44 "ThirdFavour$Night" "worn" "I", Cond.methodLink RX5 61 yX1_init, Cond.instanceMethod yX1_init, Cond.code yX1_init cX1_init 1 none, Cond.methodLink RX1 3 objectInit, Cond.fieldLink RX1 9 "ThirdFavour$Disc" "grooves" "I"]
def wsL_law_r4 : List Cond := [Cond.fieldLink RX1 15 "ThirdFavour$Disc" "skips" "[I", Cond.methodLink RX1 19 yJ7_fill_53178, Cond.static yJ7_fill_53178, Cond.initialized RJ7, Cond.code yJ7_fill_53178 cJ7_fill_53178 4 none, Cond.instanceMethod yX3_init, Cond.code yX3_init cX3_init 1 none, Cond.methodLink RX3 1 objectInit, Cond.fieldLink RX3 9 "ThirdFavour$Sheet" "items" "[I", Cond.fieldLink RX3 13 "ThirdFavour$Sheet" "form" "I", Cond.fieldLink RX3 17 "ThirdFavour$Sheet" "held" "I", Cond.methodLink RL 12 yX6_init, Cond.instanceMethod yX6_init, Cond.code yX6_init cX6_init 2 none, Cond.methodLink RX6 1 objectInit, Cond.fieldLink RX6 7 "ThirdFavourModel" "forms" "[I", Cond.fieldLink RX6 13 "ThirdFavourModel" "sizes" "[I", Cond.fieldLink RX6 16 "ThirdFavourModel" "items" "[I", Cond.fieldLink RX6 19 "ThirdFavourModel" "moved" "[I", Cond.fieldLink RX6 22 "ThirdFavourModel" "grooves" "[I", Cond.fieldLink RX6 25 "ThirdFavourModel" "scratches" "[I", Cond.fieldLink RX6 28 "ThirdFavourModel" "settings" "[I", Cond.fieldLink RX6 31 "ThirdFavourModel" "text" "[I", Cond.fieldLink RX6 34 "ThirdFavourModel" "coin" "[I"]
def wsL_law_r5 : List Cond := [Cond.fieldLink RX6 37 "ThirdFavourModel" "chosen" "[I", Cond.fieldLink RX6 40 "ThirdFavourModel" "played" "[I", Cond.fieldLink RX6 43 "ThirdFavourModel" "sounds" "[I", Cond.fieldLink RX6 46 "ThirdFavourModel" "timesOf" "[I", Cond.fieldLink RX6 49 "ThirdFavourModel" "heard" "[I", Cond.methodLink RL 13 yX5_record, Cond.instanceMethod yX5_record, Cond.selects RX5 yX5_record yX5_record, Cond.code yX5_record cX5_record 5 (some .int), Cond.methodLink RX5 63 yX5_discOf, Cond.instanceMethod yX5_discOf, Cond.selects RX5 yX5_discOf yX5_discOf, Cond.code yX5_discOf cX5_discOf 2 (some (.object "ThirdFavour$Disc")), Cond.methodLink RX5 210 yX5_isRecord, Cond.static yX5_isRecord, Cond.code yX5_isRecord cX5_isRecord 1 (some .boolean), Cond.methodLink RX5 67 yX1_mayBeLong, Cond.static yX1_mayBeLong, Cond.code yX1_mayBeLong cX1_mayBeLong 1 (some .boolean), Cond.methodLink RX5 71 yX1_longNow, Cond.instanceMethod yX1_longNow, Cond.selects RX1 yX1_longNow yX1_longNow, Cond.code yX1_longNow cX1_longNow 1 (some .int), Cond.methodLink RX5 75 yX1_makeLong]
def wsL_law_r6 : List Cond := [Cond.instanceMethod yX1_makeLong, Cond.selects RX1 yX1_makeLong yX1_makeLong, Cond.code yX1_makeLong cX1_makeLong 2 none, Cond.methodLink RX1 25 yX1_mayBeLong, Cond.methodLink RL 17 yX6_record, Cond.instanceMethod yX6_record, Cond.selects RX6 yX6_record yX6_record, Cond.code yX6_record cX6_record 4 (some .int), Cond.constantLong RX6 83 (9), Cond.methodLink RX6 85 yX6_isRecord, Cond.static yX6_isRecord, Cond.code yX6_isRecord cX6_isRecord 1 (some .boolean), Cond.methodLink RX6 54 yX6_in, Cond.static yX6_in, Cond.code yX6_in cX6_in 6 (some .boolean), Cond.methodLink RL 18 yX5_scratch, Cond.instanceMethod yX5_scratch, Cond.selects RX5 yX5_scratch yX5_scratch, Cond.code yX5_scratch cX5_scratch 6 (some .int), Cond.methodLink RX5 79 yX1_mayBeScratched, Cond.static yX1_mayBeScratched, Cond.code yX1_mayBeScratched cX1_mayBeScratched 1 (some .boolean), Cond.methodLink RX5 82 yX1_mayLeadTo, Cond.static yX1_mayLeadTo]
def wsL_law_r7 : List Cond := [Cond.code yX1_mayLeadTo cX1_mayLeadTo 1 (some .boolean), Cond.methodLink RX5 85 yX1_skipFrom, Cond.instanceMethod yX1_skipFrom, Cond.selects RX1 yX1_skipFrom yX1_skipFrom, Cond.code yX1_skipFrom cX1_skipFrom 2 (some .int), Cond.methodLink RX1 29 yX1_mayBeScratched, Cond.methodLink RX5 89 yX1_skipTo, Cond.instanceMethod yX1_skipTo, Cond.selects RX1 yX1_skipTo yX1_skipTo, Cond.code yX1_skipTo cX1_skipTo 3 none, Cond.methodLink RX1 32 yX1_mayLeadTo, Cond.methodLink RL 22 yX6_scratch, Cond.instanceMethod yX6_scratch, Cond.selects RX6 yX6_scratch yX6_scratch, Cond.code yX6_scratch cX6_scratch 5 (some .int), Cond.constantLong RX6 88 (8), Cond.constantLong RX6 90 (-1), Cond.methodLink RL 23 yX5_type, Cond.instanceMethod yX5_type, Cond.selects RX5 yX5_type yX5_type, Cond.code yX5_type cX5_type 2 (some .int), Cond.methodLink RX5 93 yX5_within, Cond.static yX5_within, Cond.code yX5_within cX5_within 3 (some .boolean)]
def wsL_law_r8 : List Cond := [Cond.methodLink RX5 97 yX4_append, Cond.instanceMethod yX4_append, Cond.selects RX4 yX4_append yX4_append, Cond.code yX4_append cX4_append 2 (some .boolean), Cond.methodLink RX4 29 yX4_readAnew, Cond.instanceMethod yX4_readAnew, Cond.selects RX4 yX4_readAnew yX4_readAnew, Cond.code yX4_readAnew cX4_readAnew 2 none, Cond.methodLink RX4 38 yX4_findFault, Cond.instanceMethod yX4_findFault, Cond.selects RX4 yX4_findFault yX4_findFault, Cond.code yX4_findFault cX4_findFault 2 (some .int), Cond.methodLink RX4 56 yX4_goesOnAt, Cond.instanceMethod yX4_goesOnAt, Cond.selects RX4 yX4_goesOnAt yX4_goesOnAt, Cond.code yX4_goesOnAt cX4_goesOnAt 3 (some .boolean), Cond.methodLink RX4 45 yX4_minuteAt, Cond.instanceMethod yX4_minuteAt, Cond.selects RX4 yX4_minuteAt yX4_minuteAt, Cond.code yX4_minuteAt cX4_minuteAt 2 (some .int), Cond.methodLink RX4 49 yX4_figureAt, Cond.instanceMethod yX4_figureAt, Cond.selects RX4 yX4_figureAt yX4_figureAt, Cond.code yX4_figureAt cX4_figureAt 3 (some .int)]
def wsL_law_r9 : List Cond := [Cond.methodLink RX4 42 yX0_clear, Cond.instanceMethod yX0_clear, Cond.selects RX0 yX0_clear yX0_clear, Cond.code yX0_clear cX0_clear 1 none, Cond.methodLink RX4 52 yX0_add, Cond.instanceMethod yX0_add, Cond.selects RX0 yX0_add yX0_add, Cond.code yX0_add cX0_add 3 none, Cond.methodLink RX5 100 yX4_bytesHeld, Cond.instanceMethod yX4_bytesHeld, Cond.selects RX4 yX4_bytesHeld yX4_bytesHeld, Cond.code yX4_bytesHeld cX4_bytesHeld 1 (some .int), Cond.methodLink RL 27 yX6_type, Cond.instanceMethod yX6_type, Cond.selects RX6 yX6_type yX6_type, Cond.code yX6_type cX6_type 2 (some .int), Cond.constantLong RX6 124 (255), Cond.fieldLink RX6 126 "ThirdFavourModel" "typed" "I", Cond.methodLink RL 28 yX5_wipe, Cond.instanceMethod yX5_wipe, Cond.selects RX5 yX5_wipe yX5_wipe, Cond.code yX5_wipe cX5_wipe 2 (some .int), Cond.methodLink RX5 103 yX4_clear, Cond.instanceMethod yX4_clear]
def wsL_law_r10 : List Cond := [Cond.selects RX4 yX4_clear yX4_clear, Cond.code yX4_clear cX4_clear 1 none, Cond.methodLink RL 32 yX6_wipe, Cond.instanceMethod yX6_wipe, Cond.selects RX6 yX6_wipe yX6_wipe, Cond.code yX6_wipe cX6_wipe 2 (some .int), Cond.methodLink RL 33 yX5_fault, Cond.instanceMethod yX5_fault, Cond.selects RX5 yX5_fault yX5_fault, Cond.code yX5_fault cX5_fault 1 (some .int), Cond.methodLink RX5 106 yX4_faultPlace, Cond.instanceMethod yX4_faultPlace, Cond.selects RX4 yX4_faultPlace yX4_faultPlace, Cond.code yX4_faultPlace cX4_faultPlace 1 (some .int), Cond.methodLink RL 36 yX6_fault, Cond.instanceMethod yX6_fault, Cond.selects RX6 yX6_fault yX6_fault, Cond.code yX6_fault cX6_fault 1 (some .int), Cond.methodLink RX6 146 yX6_reads, Cond.instanceMethod yX6_reads, Cond.selects RX6 yX6_reads yX6_reads, Cond.code yX6_reads cX6_reads 2 (some .int), Cond.fieldLink RX6 129 "ThirdFavourModel" "at" "I", Cond.fieldLink RX6 132 "ThirdFavourModel" "coins" "I"]
def wsL_law_r11 : List Cond := [Cond.methodLink RX6 139 yX6_readsPart, Cond.instanceMethod yX6_readsPart, Cond.selects RX6 yX6_readsPart yX6_readsPart, Cond.code yX6_readsPart cX6_readsPart 4 (some .boolean), Cond.methodLink RX6 135 yX6_here, Cond.instanceMethod yX6_here, Cond.selects RX6 yX6_here yX6_here, Cond.code yX6_here cX6_here 1 (some .int), Cond.methodLink RX6 143 yX6_none, Cond.instanceMethod yX6_none, Cond.selects RX6 yX6_none yX6_none, Cond.code yX6_none cX6_none 1 (some .int), Cond.methodLink RL 37 yX5_undo, Cond.instanceMethod yX5_undo, Cond.selects RX5 yX5_undo yX5_undo, Cond.code yX5_undo cX5_undo 1 (some .int), Cond.methodLink RX5 109 yX4_coins, Cond.instanceMethod yX4_coins, Cond.selects RX4 yX4_coins yX4_coins, Cond.code yX4_coins cX4_coins 1 (some (.object "ThirdFavour$Coins")), Cond.methodLink RX5 113 yX0_isEmpty, Cond.instanceMethod yX0_isEmpty, Cond.selects RX0 yX0_isEmpty yX0_isEmpty, Cond.code yX0_isEmpty cX0_isEmpty 1 (some .boolean)]
def wsL_law_r12 : List Cond := [Cond.methodLink RX5 119 yX4_dropLastCoin, Cond.instanceMethod yX4_dropLastCoin, Cond.selects RX4 yX4_dropLastCoin yX4_dropLastCoin, Cond.code yX4_dropLastCoin cX4_dropLastCoin 1 none, Cond.methodLink RX4 32 Lib.Math.max.name, Cond.static Lib.Math.max.name, Cond.initialized "java/lang/Math", Cond.code Lib.Math.max.name Lib.Math.max.code 2 (some .int), Cond.methodLink RX5 122 yX0_number, Cond.instanceMethod yX0_number, Cond.selects RX0 yX0_number yX0_number, Cond.code yX0_number cX0_number 1 (some .int), Cond.methodLink RL 40 yX6_undo, Cond.instanceMethod yX6_undo, Cond.selects RX6 yX6_undo yX6_undo, Cond.code yX6_undo cX6_undo 1 (some .int), Cond.methodLink RL 41 yX5_set, Cond.instanceMethod yX5_set, Cond.selects RX5 yX5_set yX5_set, Cond.code yX5_set cX5_set 3 (some .int), Cond.methodLink RX5 125 yX5_setKick, Cond.instanceMethod yX5_setKick, Cond.selects RX5 yX5_setKick yX5_setKick, Cond.code yX5_setKick cX5_setKick 3 (some .int)]
def wsL_law_r13 : List Cond := [Cond.methodLink RX5 128 yX5_setLaw, Cond.instanceMethod yX5_setLaw, Cond.selects RX5 yX5_setLaw yX5_setLaw, Cond.code yX5_setLaw cX5_setLaw 3 (some .int), Cond.methodLink RX5 198 yX5_isLaw, Cond.static yX5_isLaw, Cond.code yX5_isLaw cX5_isLaw 1 (some .boolean), Cond.methodLink RX5 131 yX5_setLife, Cond.instanceMethod yX5_setLife, Cond.selects RX5 yX5_setLife yX5_setLife, Cond.code yX5_setLife cX5_setLife 3 (some .int), Cond.methodLink RX5 134 yX5_setPatience, Cond.instanceMethod yX5_setPatience, Cond.selects RX5 yX5_setPatience yX5_setPatience, Cond.code yX5_setPatience cX5_setPatience 3 (some .int), Cond.methodLink RL 44 yX6_set, Cond.instanceMethod yX6_set, Cond.selects RX6 yX6_set yX6_set, Cond.code yX6_set cX6_set 4 (some .int), Cond.constantLong RX6 62 (3), Cond.methodLink RX6 92 yX6_most, Cond.static yX6_most, Cond.code yX6_most cX6_most 1 (some .int), Cond.methodLink RL 45 yX5_read]
def wsL_law_r14 : List Cond := [Cond.instanceMethod yX5_read, Cond.selects RX5 yX5_read yX5_read, Cond.code yX5_read cX5_read 5 (some .int), Cond.methodLink RX5 137 yX5_sheetOf, Cond.instanceMethod yX5_sheetOf, Cond.selects RX5 yX5_sheetOf yX5_sheetOf, Cond.code yX5_sheetOf cX5_sheetOf 2 (some (.object "ThirdFavour$Sheet")), Cond.methodLink RX5 141 yX3_isLost, Cond.instanceMethod yX3_isLost, Cond.selects RX3 yX3_isLost yX3_isLost, Cond.code yX3_isLost cX3_isLost 1 (some .boolean), Cond.methodLink RX5 144 yX5_finding, Cond.instanceMethod yX5_finding, Cond.selects RX5 yX5_finding yX5_finding, Cond.code yX5_finding cX5_finding 2 (some .int), Cond.methodLink RX5 147 yX3_holds, Cond.instanceMethod yX3_holds, Cond.selects RX3 yX3_holds yX3_holds, Cond.code yX3_holds cX3_holds 2 (some .boolean), Cond.methodLink RX5 150 yX3_item, Cond.instanceMethod yX3_item, Cond.selects RX3 yX3_item yX3_item, Cond.code yX3_item cX3_item 2 (some .int), Cond.methodLink RX3 30 yX3_holds]
def wsL_law_r15 : List Cond := [Cond.methodLink RL 48 yX6_read, Cond.instanceMethod yX6_read, Cond.selects RX6 yX6_read yX6_read, Cond.code yX6_read cX6_read 3 (some .int), Cond.methodLink RX6 64 yX6_isSheet, Cond.static yX6_isSheet, Cond.code yX6_isSheet cX6_isSheet 1 (some .boolean), Cond.methodLink RX6 70 yX6_met, Cond.instanceMethod yX6_met, Cond.selects RX6 yX6_met yX6_met, Cond.code yX6_met cX6_met 2 (some .int), Cond.fieldLink RX6 58 "ThirdFavourModel" "latest" "I", Cond.methodLink RX6 95 yX6_record, Cond.methodLink RL 49 yX5_plays, Cond.instanceMethod yX5_plays, Cond.selects RX5 yX5_plays yX5_plays, Cond.code yX5_plays cX5_plays 3 (some .int), Cond.methodLink RX5 153 yX1_minutes, Cond.instanceMethod yX1_minutes, Cond.selects RX1 yX1_minutes yX1_minutes, Cond.code yX1_minutes cX1_minutes 4 (some .int), Cond.methodLink RX1 35 yX1_following, Cond.instanceMethod yX1_following, Cond.selects RX1 yX1_following yX1_following]
def wsL_law_r16 : List Cond := [Cond.code yX1_following cX1_following 5 (some .int), Cond.methodLink RL 52 yX6_plays, Cond.instanceMethod yX6_plays, Cond.selects RX6 yX6_plays yX6_plays, Cond.code yX6_plays cX6_plays 2 (some .int), Cond.methodLink RX6 104 yX6_playsOf, Cond.instanceMethod yX6_playsOf, Cond.selects RX6 yX6_playsOf yX6_playsOf, Cond.code yX6_playsOf cX6_playsOf 3 (some .int), Cond.methodLink RX6 101 yX6_goes, Cond.instanceMethod yX6_goes, Cond.selects RX6 yX6_goes yX6_goes, Cond.code yX6_goes cX6_goes 6 (some .int), Cond.methodLink RX6 98 yX6_onFrom, Cond.instanceMethod yX6_onFrom, Cond.selects RX6 yX6_onFrom yX6_onFrom, Cond.code yX6_onFrom cX6_onFrom 5 (some .int), Cond.methodLink RL 53 yX5_groove, Cond.instanceMethod yX5_groove, Cond.selects RX5 yX5_groove yX5_groove, Cond.code yX5_groove cX5_groove 4 (some .int), Cond.methodLink RX5 156 yX1_grooveIn, Cond.instanceMethod yX1_grooveIn, Cond.selects RX1 yX1_grooveIn yX1_grooveIn]
def wsL_law_r17 : List Cond := [Cond.code yX1_grooveIn cX1_grooveIn 3 (some .int), Cond.methodLink RX1 45 yX1_minutes, Cond.methodLink RX1 39 yX1_arrivesAt, Cond.instanceMethod yX1_arrivesAt, Cond.selects RX1 yX1_arrivesAt yX1_arrivesAt, Cond.code yX1_arrivesAt cX1_arrivesAt 5 (some .int), Cond.methodLink RL 56 yX6_groove, Cond.instanceMethod yX6_groove, Cond.selects RX6 yX6_groove yX6_groove, Cond.code yX6_groove cX6_groove 3 (some .int), Cond.constantLong RX6 107 (59), Cond.methodLink RX6 109 yX6_grooveOf, Cond.instanceMethod yX6_grooveOf, Cond.selects RX6 yX6_grooveOf yX6_grooveOf, Cond.code yX6_grooveOf cX6_grooveOf 5 (some .int), Cond.methodLink RL 57 yX5_loops, Cond.instanceMethod yX5_loops, Cond.selects RX5 yX5_loops yX5_loops, Cond.code yX5_loops cX5_loops 3 (some .int), Cond.methodLink RX5 160 yX1_goesRound, Cond.instanceMethod yX1_goesRound, Cond.selects RX1 yX1_goesRound yX1_goesRound, Cond.code yX1_goesRound cX1_goesRound 1 (some .boolean), Cond.methodLink RX1 42 yX1_goesRoundWithout]
def wsL_law_r18 : List Cond := [Cond.instanceMethod yX1_goesRoundWithout, Cond.selects RX1 yX1_goesRoundWithout yX1_goesRoundWithout, Cond.code yX1_goesRoundWithout cX1_goesRoundWithout 2 (some .boolean), Cond.methodLink RL 60 yX6_loops, Cond.instanceMethod yX6_loops, Cond.selects RX6 yX6_loops yX6_loops, Cond.code yX6_loops cX6_loops 2 (some .int), Cond.methodLink RX6 112 yX6_loopsOf, Cond.instanceMethod yX6_loopsOf, Cond.selects RX6 yX6_loopsOf yX6_loopsOf, Cond.code yX6_loopsOf cX6_loopsOf 2 (some .int), Cond.methodLink RL 61 yX5_wax, Cond.instanceMethod yX5_wax, Cond.selects RX5 yX5_wax yX5_wax, Cond.code yX5_wax cX5_wax 5 (some .int), Cond.methodLink RX5 163 yX1_fewestWaxed, Cond.instanceMethod yX1_fewestWaxed, Cond.selects RX1 yX1_fewestWaxed yX1_fewestWaxed, Cond.code yX1_fewestWaxed cX1_fewestWaxed 5 (some .int), Cond.methodLink RX1 49 yX1_scratchedBits, Cond.instanceMethod yX1_scratchedBits, Cond.selects RX1 yX1_scratchedBits yX1_scratchedBits, Cond.code yX1_scratchedBits cX1_scratchedBits 3 (some .int), Cond.methodLink RX1 53 yJ6_bitCount_0f7a4]
def wsL_law_r19 : List Cond := [Cond.static yJ6_bitCount_0f7a4, Cond.initialized RJ6, Cond.code yJ6_bitCount_0f7a4 cJ6_bitCount_0f7a4 1 (some .int), Cond.constant RJ6 265 (1431655765), Cond.constant RJ6 266 (858993459), Cond.constant RJ6 267 (252645135), Cond.methodLink RX5 166 yJ6_bitCount_0f7a4, Cond.methodLink RL 64 yX6_wax, Cond.instanceMethod yX6_wax, Cond.selects RX6 yX6_wax yX6_wax, Cond.code yX6_wax cX6_wax 3 (some .int), Cond.methodLink RX6 118 yX6_isTwo, Cond.static yX6_isTwo, Cond.code yX6_isTwo cX6_isTwo 1 (some .boolean), Cond.methodLink RX6 121 yX6_waxOf, Cond.instanceMethod yX6_waxOf, Cond.selects RX6 yX6_waxOf yX6_waxOf, Cond.code yX6_waxOf cX6_waxOf 7 (some .int), Cond.methodLink RX6 115 yX6_ones, Cond.static yX6_ones, Cond.code yX6_ones cX6_ones 3 (some .int), Cond.methodLink RL 65 yX5_coin, Cond.instanceMethod yX5_coin, Cond.selects RX5 yX5_coin yX5_coin]
def wsL_law_r20 : List Cond := [Cond.code yX5_coin cX5_coin 3 (some .int), Cond.methodLink RX5 171 yX0_has, Cond.instanceMethod yX0_has, Cond.selects RX0 yX0_has yX0_has, Cond.code yX0_has cX0_has 2 (some .boolean), Cond.methodLink RX5 174 yX0_minuteOf, Cond.instanceMethod yX0_minuteOf, Cond.selects RX0 yX0_minuteOf yX0_minuteOf, Cond.code yX0_minuteOf cX0_minuteOf 2 (some .int), Cond.methodLink RX5 177 yX0_buttonOf, Cond.instanceMethod yX0_buttonOf, Cond.selects RX0 yX0_buttonOf yX0_buttonOf, Cond.code yX0_buttonOf cX0_buttonOf 2 (some .int), Cond.methodLink RL 68 yX6_coin, Cond.instanceMethod yX6_coin, Cond.selects RX6 yX6_coin yX6_coin, Cond.code yX6_coin cX6_coin 3 (some .int), Cond.methodLink RX6 149 yX6_isCoin, Cond.instanceMethod yX6_isCoin, Cond.selects RX6 yX6_isCoin yX6_isCoin, Cond.code yX6_isCoin cX6_isCoin 2 (some .boolean), Cond.methodLink RL 69 yX5_at, Cond.instanceMethod yX5_at, Cond.selects RX5 yX5_at yX5_at]
def wsL_law_r21 : List Cond := [Cond.code yX5_at cX5_at 2 (some .int), Cond.methodLink RX5 180 yX5_isNightMinute, Cond.static yX5_isNightMinute, Cond.code yX5_isNightMinute cX5_isNightMinute 1 (some .boolean), Cond.methodLink RX5 183 yX5_passNight, Cond.instanceMethod yX5_passNight, Cond.selects RX5 yX5_passNight yX5_passNight, Cond.code yX5_passNight cX5_passNight 2 none, Cond.methodLink RX5 229 yX5_measureDiscs, Cond.instanceMethod yX5_measureDiscs, Cond.selects RX5 yX5_measureDiscs yX5_measureDiscs, Cond.code yX5_measureDiscs cX5_measureDiscs 3 none, Cond.methodLink RX5 335 yX2_measure, Cond.instanceMethod yX2_measure, Cond.selects RX2 yX2_measure yX2_measure, Cond.code yX2_measure cX2_measure 3 none, Cond.methodLink RX5 232 yX2_coins, Cond.instanceMethod yX2_coins, Cond.selects RX2 yX2_coins yX2_coins, Cond.code yX2_coins cX2_coins 1 (some (.object "ThirdFavour$Coins")), Cond.methodLink RX5 233 yX0_takeAll, Cond.instanceMethod yX0_takeAll, Cond.selects RX0 yX0_takeAll yX0_takeAll, Cond.code yX0_takeAll cX0_takeAll 2 none]
def wsL_law_r22 : List Cond := [Cond.methodLink RX0 26 arraycopyName, Cond.native arraycopyName, Cond.static arraycopyName, Cond.initialized "java/lang/System", Cond.methodLink RX5 240 yX2_pass, Cond.instanceMethod yX2_pass, Cond.selects RX2 yX2_pass yX2_pass, Cond.code yX2_pass cX2_pass 8 none, Cond.methodLink RX2 65 Lib.Math.max.name, Cond.methodLink RX2 51 yX2_begin, Cond.instanceMethod yX2_begin, Cond.selects RX2 yX2_begin yX2_begin, Cond.code yX2_begin cX2_begin 1 none, Cond.methodLink RX2 84 yJ7_fill_53178, Cond.methodLink RX2 54 yX0_number, Cond.methodLink RX2 58 yX2_firstLeft, Cond.instanceMethod yX2_firstLeft, Cond.selects RX2 yX2_firstLeft yX2_firstLeft, Cond.code yX2_firstLeft cX2_firstLeft 3 (some .int), Cond.methodLink RX2 90 yX2_chosenIn, Cond.instanceMethod yX2_chosenIn, Cond.selects RX2 yX2_chosenIn yX2_chosenIn, Cond.code yX2_chosenIn cX2_chosenIn 2 (some .int), Cond.methodLink RX2 61 yX0_minuteOf]
def wsL_law_r23 : List Cond := [Cond.methodLink RX2 71 yX2_firstOfMostAsked, Cond.instanceMethod yX2_firstOfMostAsked, Cond.selects RX2 yX2_firstOfMostAsked yX2_firstOfMostAsked, Cond.code yX2_firstOfMostAsked cX2_firstOfMostAsked 6 (some .int), Cond.methodLink RX2 77 yX0_buttonOf, Cond.methodLink RX2 99 yX2_waits, Cond.instanceMethod yX2_waits, Cond.selects RX2 yX2_waits yX2_waits, Cond.code yX2_waits cX2_waits 3 (some .boolean), Cond.methodLink RX2 74 yX2_latestAsked, Cond.instanceMethod yX2_latestAsked, Cond.selects RX2 yX2_latestAsked yX2_latestAsked, Cond.code yX2_latestAsked cX2_latestAsked 4 (some .int), Cond.methodLink RX2 80 yX2_serve, Cond.instanceMethod yX2_serve, Cond.selects RX2 yX2_serve yX2_serve, Cond.code yX2_serve cX2_serve 5 (some .int), Cond.methodLink RX2 103 yX0_has, Cond.methodLink RX5 186 yX2_playingIn, Cond.instanceMethod yX2_playingIn, Cond.selects RX2 yX2_playingIn yX2_playingIn, Cond.code yX2_playingIn cX2_playingIn 5 (some .int), Cond.methodLink RX2 106 yX2_playedFor, Cond.instanceMethod yX2_playedFor]
def wsL_law_r24 : List Cond := [Cond.selects RX2 yX2_playedFor yX2_playedFor, Cond.code yX2_playedFor cX2_playedFor 2 (some .int), Cond.methodLink RL 72 yX6_at, Cond.instanceMethod yX6_at, Cond.selects RX6 yX6_at yX6_at, Cond.code yX6_at cX6_at 2 (some .int), Cond.constantLong RX6 180 (199), Cond.methodLink RX6 182 yX6_nightNow, Cond.instanceMethod yX6_nightNow, Cond.selects RX6 yX6_nightNow yX6_nightNow, Cond.code yX6_nightNow cX6_nightNow 1 none, Cond.methodLink RX6 173 yX6_runs, Cond.instanceMethod yX6_runs, Cond.selects RX6 yX6_runs yX6_runs, Cond.code yX6_runs cX6_runs 5 none, Cond.fieldLink RX6 155 "ThirdFavourModel" "end" "I", Cond.fieldLink RX6 158 "ThirdFavourModel" "playing" "I", Cond.fieldLink RX6 161 "ThirdFavourModel" "firstDone" "I", Cond.methodLink RX6 164 yX6_chooses, Cond.instanceMethod yX6_chooses, Cond.selects RX6 yX6_chooses yX6_chooses, Cond.code yX6_chooses cX6_chooses 6 (some .int), Cond.methodLink RX6 152 yX6_mostAsked, Cond.instanceMethod yX6_mostAsked]
def wsL_law_r25 : List Cond := [Cond.selects RX6 yX6_mostAsked yX6_mostAsked, Cond.code yX6_mostAsked cX6_mostAsked 8 (some .int), Cond.methodLink RX6 167 yX6_nextCoin, Cond.instanceMethod yX6_nextCoin, Cond.selects RX6 yX6_nextCoin yX6_nextCoin, Cond.code yX6_nextCoin cX6_nextCoin 3 (some .int), Cond.methodLink RX6 170 yX6_starts, Cond.instanceMethod yX6_starts, Cond.selects RX6 yX6_starts yX6_starts, Cond.code yX6_starts cX6_starts 6 (some .int), Cond.methodLink RL 73 yX5_served, Cond.instanceMethod yX5_served, Cond.selects RX5 yX5_served yX5_served, Cond.code yX5_served cX5_served 3 (some .int), Cond.methodLink RX5 189 yX2_chosenIn, Cond.methodLink RX5 192 yX2_playedFor, Cond.methodLink RX5 195 yX2_waitOf, Cond.instanceMethod yX2_waitOf, Cond.selects RX2 yX2_waitOf yX2_waitOf, Cond.code yX2_waitOf cX2_waitOf 2 (some .int), Cond.methodLink RL 76 yX6_served, Cond.instanceMethod yX6_served, Cond.selects RX6 yX6_served yX6_served, Cond.code yX6_served cX6_served 3 (some .int)]
def wsL_law_r26 : List Cond := [Cond.constantLong RX6 68 (2), Cond.methodLink RX6 185 yX6_servedNow, Cond.instanceMethod yX6_servedNow, Cond.selects RX6 yX6_servedNow yX6_servedNow, Cond.code yX6_servedNow cX6_servedNow 3 (some .int), Cond.methodLink RL 77 yX5_night, Cond.instanceMethod yX5_night, Cond.selects RX5 yX5_night yX5_night, Cond.code yX5_night cX5_night 3 (some .int), Cond.methodLink RX5 201 yX2_silentMinutes, Cond.instanceMethod yX2_silentMinutes, Cond.selects RX2 yX2_silentMinutes yX2_silentMinutes, Cond.code yX2_silentMinutes cX2_silentMinutes 1 (some .int), Cond.methodLink RX5 204 yX2_pleasedWithin, Cond.instanceMethod yX2_pleasedWithin, Cond.selects RX2 yX2_pleasedWithin yX2_pleasedWithin, Cond.code yX2_pleasedWithin cX2_pleasedWithin 5 (some .int), Cond.methodLink RX2 109 yX2_waitOf, Cond.methodLink RX5 207 yX2_endOfLastPlay, Cond.instanceMethod yX2_endOfLastPlay, Cond.selects RX2 yX2_endOfLastPlay yX2_endOfLastPlay, Cond.code yX2_endOfLastPlay cX2_endOfLastPlay 1 (some .int), Cond.methodLink RL 80 yX6_night, Cond.instanceMethod yX6_night]
def wsL_law_r27 : List Cond := [Cond.selects RX6 yX6_night yX6_night, Cond.code yX6_night cX6_night 3 (some .int), Cond.methodLink RX6 191 yX6_nightOf, Cond.instanceMethod yX6_nightOf, Cond.selects RX6 yX6_nightOf yX6_nightOf, Cond.code yX6_nightOf cX6_nightOf 3 (some .int), Cond.methodLink RX6 188 yX6_pleased, Cond.instanceMethod yX6_pleased, Cond.selects RX6 yX6_pleased yX6_pleased, Cond.code yX6_pleased cX6_pleased 3 (some .int), Cond.methodLink RX6 177 yX6_isPleased, Cond.instanceMethod yX6_isPleased, Cond.selects RX6 yX6_isPleased yX6_isPleased, Cond.code yX6_isPleased cX6_isPleased 2 (some .boolean), Cond.methodLink RL 81 yX5_best, Cond.instanceMethod yX5_best, Cond.selects RX5 yX5_best yX5_best, Cond.code yX5_best cX5_best 5 (some .int), Cond.methodLink RL 84 yX6_best, Cond.instanceMethod yX6_best, Cond.selects RX6 yX6_best yX6_best, Cond.code yX6_best cX6_best 1 (some .int), Cond.methodLink RX6 194 yX6_bestNow, Cond.instanceMethod yX6_bestNow]
def wsL_law_r28 : List Cond := [Cond.selects RX6 yX6_bestNow yX6_bestNow, Cond.code yX6_bestNow cX6_bestNow 5 (some .int), Cond.methodLink RL 85 yX5_times, Cond.instanceMethod yX5_times, Cond.selects RX5 yX5_times yX5_times, Cond.code yX5_times cX5_times 2 (some .int), Cond.methodLink RX5 213 yX2_playsOf, Cond.instanceMethod yX2_playsOf, Cond.selects RX2 yX2_playsOf yX2_playsOf, Cond.code yX2_playsOf cX2_playsOf 2 (some .int), Cond.methodLink RL 88 yX6_times, Cond.instanceMethod yX6_times, Cond.selects RX6 yX6_times yX6_times, Cond.code yX6_times cX6_times 2 (some .int), Cond.methodLink RL 89 yX5_first, Cond.instanceMethod yX5_first, Cond.selects RX5 yX5_first yX5_first, Cond.code yX5_first cX5_first 1 (some .int), Cond.methodLink RX5 216 yX2_firstWorn, Cond.instanceMethod yX2_firstWorn, Cond.selects RX2 yX2_firstWorn yX2_firstWorn, Cond.code yX2_firstWorn cX2_firstWorn 1 (some .int), Cond.methodLink RL 92 yX6_first, Cond.instanceMethod yX6_first]
def wsL_law_r29 : List Cond := [Cond.selects RX6 yX6_first yX6_first, Cond.code yX6_first cX6_first 1 (some .int), Cond.methodLink RL 93 yX5_ask, Cond.instanceMethod yX5_ask, Cond.selects RX5 yX5_ask yX5_ask, Cond.code yX5_ask cX5_ask 6 (some .int), Cond.methodLink RX5 219 yX0_lastMinute, Cond.instanceMethod yX0_lastMinute, Cond.selects RX0 yX0_lastMinute yX0_lastMinute, Cond.code yX0_lastMinute cX0_lastMinute 1 (some .int), Cond.methodLink RX0 22 yX0_minuteOf, Cond.methodLink RX5 222 yX5_fewestMore, Cond.instanceMethod yX5_fewestMore, Cond.selects RX5 yX5_fewestMore yX5_fewestMore, Cond.code yX5_fewestMore cX5_fewestMore 9 (some .int), Cond.methodLink RX5 338 yX5_passNightWith, Cond.instanceMethod yX5_passNightWith, Cond.selects RX5 yX5_passNightWith yX5_passNightWith, Cond.code yX5_passNightWith cX5_passNightWith 4 none, Cond.methodLink RX5 345 yX0_add, Cond.methodLink RX5 342 yX5_rowOf, Cond.static yX5_rowOf, Cond.code yX5_rowOf cX5_rowOf 3 (some .int), Cond.methodLink RX5 226 yX5_tellRow]
def wsL_law_r30 : List Cond := [Cond.static yX5_tellRow, Cond.code yX5_tellRow cX5_tellRow 2 (some .int), Cond.methodLink RL 97 yX6_ask, Cond.instanceMethod yX6_ask, Cond.selects RX6 yX6_ask yX6_ask, Cond.code yX6_ask cX6_ask 6 (some .int), Cond.constantLong RX6 201 (99), Cond.methodLink RX6 203 yX6_askOf, Cond.instanceMethod yX6_askOf, Cond.selects RX6 yX6_askOf yX6_askOf, Cond.code yX6_askOf cX6_askOf 10 (some .int), Cond.methodLink RX6 197 yX6_isPlaying, Cond.instanceMethod yX6_isPlaying, Cond.selects RX6 yX6_isPlaying yX6_isPlaying, Cond.code yX6_isPlaying cX6_isPlaying 3 (some .boolean), Cond.methodLink RL 98 yX5_stuck, Cond.instanceMethod yX5_stuck, Cond.selects RX5 yX5_stuck yX5_stuck, Cond.code yX5_stuck cX5_stuck 3 (some .int), Cond.methodLink RX5 237 yX0_remove, Cond.instanceMethod yX0_remove, Cond.selects RX0 yX0_remove yX0_remove, Cond.code yX0_remove cX0_remove 3 none, Cond.methodLink RX0 32 yX0_has]
def wsL_law_r31 : List Cond := [Cond.methodLink RL 101 yX6_stuck, Cond.instanceMethod yX6_stuck, Cond.selects RX6 yX6_stuck yX6_stuck, Cond.code yX6_stuck cX6_stuck 3 (some .int), Cond.methodLink RX6 207 yX6_stuckOf, Cond.instanceMethod yX6_stuckOf, Cond.selects RX6 yX6_stuckOf yX6_stuckOf, Cond.code yX6_stuckOf cX6_stuckOf 4 (some .int), Cond.methodLink RL 102 yX5_heard, Cond.instanceMethod yX5_heard, Cond.selects RX5 yX5_heard yX5_heard, Cond.code yX5_heard cX5_heard 3 (some .int), Cond.methodLink RL 105 yX6_heard, Cond.instanceMethod yX6_heard, Cond.selects RX6 yX6_heard yX6_heard, Cond.code yX6_heard cX6_heard 3 (some .int), Cond.fieldLink RX6 210 "ThirdFavourModel" "hearings" "I", Cond.methodLink RL 106 yX5_forget, Cond.instanceMethod yX5_forget, Cond.selects RX5 yX5_forget yX5_forget, Cond.code yX5_forget cX5_forget 2 (some .int), Cond.methodLink RL 109 yX6_forget, Cond.instanceMethod yX6_forget, Cond.selects RX6 yX6_forget yX6_forget]
def wsL_law_r32 : List Cond := [Cond.code yX6_forget cX6_forget 2 (some .int), Cond.methodLink RL 110 yX5_laws, Cond.instanceMethod yX5_laws, Cond.selects RX5 yX5_laws yX5_laws, Cond.code yX5_laws cX5_laws 3 (some .int), Cond.methodLink RX5 243 yX5_soundsAsHeard, Cond.instanceMethod yX5_soundsAsHeard, Cond.selects RX5 yX5_soundsAsHeard yX5_soundsAsHeard, Cond.code yX5_soundsAsHeard cX5_soundsAsHeard 2 (some .boolean), Cond.methodLink RL 113 yX6_laws, Cond.instanceMethod yX6_laws, Cond.selects RX6 yX6_laws yX6_laws, Cond.code yX6_laws cX6_laws 1 (some .int), Cond.methodLink RX6 213 yX6_lawsNow, Cond.instanceMethod yX6_lawsNow, Cond.selects RX6 yX6_lawsNow yX6_lawsNow, Cond.code yX6_lawsNow cX6_lawsNow 5 (some .int), Cond.methodLink RL 114 yX5_next, Cond.instanceMethod yX5_next, Cond.selects RX5 yX5_next yX5_next, Cond.code yX5_next cX5_next 6 (some .long), Cond.constantLong RX5 248 (-9223372036854775806), Cond.methodLink RX5 250 yX0_askedFor, Cond.instanceMethod yX0_askedFor]
def wsL_law_r33 : List Cond := [Cond.selects RX0 yX0_askedFor yX0_askedFor, Cond.code yX0_askedFor cX0_askedFor 4 (some .int), Cond.methodLink RX0 36 yX0_buttonOf, Cond.methodLink RX5 253 yX5_commonDivisor, Cond.static yX5_commonDivisor, Cond.code yX5_commonDivisor cX5_commonDivisor 6 (some .int), Cond.methodLink RX5 348 Lib.Math.max.name, Cond.methodLink RL 118 yX6_next, Cond.instanceMethod yX6_next, Cond.selects RX6 yX6_next yX6_next, Cond.code yX6_next cX6_next 3 (some .long), Cond.methodLink RX6 222 yX6_nextOf, Cond.instanceMethod yX6_nextOf, Cond.selects RX6 yX6_nextOf yX6_nextOf, Cond.code yX6_nextOf cX6_nextOf 6 (some .long), Cond.constantLong RX6 216 (10), Cond.methodLink RX6 218 yX6_part, Cond.static yX6_part, Cond.code yX6_part cX6_part 11 (some .long), Cond.methodLink RX6 226 yX6_no, Cond.static yX6_no, Cond.code yX6_no cX6_no 1 (some .long), Cond.constantLong RX6 52 (-9223372036854775808), Cond.methodLink RL 119 yX5_since]
def wsL_law_r34 : List Cond := [Cond.instanceMethod yX5_since, Cond.selects RX5 yX5_since yX5_since, Cond.code yX5_since cX5_since 2 (some .int), Cond.methodLink RX5 256 yX0_numberSince, Cond.instanceMethod yX0_numberSince, Cond.selects RX0 yX0_numberSince yX0_numberSince, Cond.code yX0_numberSince cX0_numberSince 3 (some .int), Cond.methodLink RL 122 yX6_since, Cond.instanceMethod yX6_since, Cond.selects RX6 yX6_since yX6_since, Cond.code yX6_since cX6_since 2 (some .int), Cond.methodLink RX6 230 yX6_sinceOf, Cond.instanceMethod yX6_sinceOf, Cond.selects RX6 yX6_sinceOf yX6_sinceOf, Cond.code yX6_sinceOf cX6_sinceOf 3 (some .int), Cond.methodLink RL 123 yX5_sheet, Cond.instanceMethod yX5_sheet, Cond.selects RX5 yX5_sheet yX5_sheet, Cond.code yX5_sheet cX5_sheet 5 (some .int), Cond.methodLink RX5 259 yX3_isForm, Cond.static yX3_isForm, Cond.code yX3_isForm cX3_isForm 1 (some .boolean), Cond.methodLink RX5 262 yX3_renew, Cond.instanceMethod yX3_renew]
def wsL_law_r35 : List Cond := [Cond.selects RX3 yX3_renew yX3_renew, Cond.code yX3_renew cX3_renew 3 none, Cond.methodLink RX3 20 yX3_isForm, Cond.methodLink RX3 24 yJ7_fill_53178, Cond.methodLink RL 126 yX6_sheet, Cond.instanceMethod yX6_sheet, Cond.selects RX6 yX6_sheet yX6_sheet, Cond.code yX6_sheet cX6_sheet 5 (some .int), Cond.methodLink RL 127 yX5_lose, Cond.instanceMethod yX5_lose, Cond.selects RX5 yX5_lose yX5_lose, Cond.code yX5_lose cX5_lose 4 (some .int), Cond.methodLink RX5 265 yX3_number, Cond.instanceMethod yX3_number, Cond.selects RX3 yX3_number yX3_number, Cond.code yX3_number cX3_number 1 (some .int), Cond.methodLink RX5 266 yX3_becomeLost, Cond.instanceMethod yX3_becomeLost, Cond.selects RX3 yX3_becomeLost yX3_becomeLost, Cond.code yX3_becomeLost cX3_becomeLost 1 none, Cond.methodLink RL 130 yX6_lose, Cond.instanceMethod yX6_lose, Cond.selects RX6 yX6_lose yX6_lose, Cond.code yX6_lose cX6_lose 2 (some .int)]
def wsL_law_r36 : List Cond := [Cond.methodLink RL 131 yX5_lay, Cond.instanceMethod yX5_lay, Cond.selects RX5 yX5_lay yX5_lay, Cond.code yX5_lay cX5_lay 7 (some .int), Cond.methodLink RX5 269 yX5_itemRefusal, Cond.instanceMethod yX5_itemRefusal, Cond.selects RX5 yX5_itemRefusal yX5_itemRefusal, Cond.code yX5_itemRefusal cX5_itemRefusal 5 (some .int), Cond.methodLink RX5 276 yX3_formNow, Cond.instanceMethod yX3_formNow, Cond.selects RX3 yX3_formNow yX3_formNow, Cond.code yX3_formNow cX3_formNow 1 (some .int), Cond.methodLink RX5 272 yX3_put, Cond.instanceMethod yX3_put, Cond.selects RX3 yX3_put yX3_put, Cond.code yX3_put cX3_put 3 none, Cond.methodLink RX3 33 yX3_narrowed, Cond.instanceMethod yX3_narrowed, Cond.selects RX3 yX3_narrowed yX3_narrowed, Cond.code yX3_narrowed cX3_narrowed 2 (some .int), Cond.methodLink RL 134 yX6_lay, Cond.instanceMethod yX6_lay, Cond.selects RX6 yX6_lay yX6_lay, Cond.code yX6_lay cX6_lay 6 (some .int)]
def wsL_law_r37 : List Cond := [Cond.methodLink RX6 74 yX6_lacks, Cond.instanceMethod yX6_lacks, Cond.selects RX6 yX6_lacks yX6_lacks, Cond.code yX6_lacks cX6_lacks 4 (some .int), Cond.methodLink RX6 78 yX6_cut, Cond.static yX6_cut, Cond.code yX6_cut cX6_cut 2 (some .int), Cond.methodLink RL 135 yX5_get, Cond.instanceMethod yX5_get, Cond.selects RX5 yX5_get yX5_get, Cond.code yX5_get cX5_get 6 (some .int), Cond.constant RX5 275 (-2147483648), Cond.methodLink RL 138 yX6_get, Cond.instanceMethod yX6_get, Cond.selects RX6 yX6_get yX6_get, Cond.code yX6_get cX6_get 4 (some .int), Cond.constant RX6 82 (-2147483648), Cond.methodLink RL 139 yX5_copy, Cond.instanceMethod yX5_copy, Cond.selects RX5 yX5_copy yX5_copy, Cond.code yX5_copy cX5_copy 8 (some .int), Cond.methodLink RX5 279 yX3_holdsRun, Cond.instanceMethod yX3_holdsRun, Cond.selects RX3 yX3_holdsRun yX3_holdsRun]
def wsL_law_r38 : List Cond := [Cond.code yX3_holdsRun cX3_holdsRun 3 (some .boolean), Cond.methodLink RX5 283 yX3_takeRun, Cond.instanceMethod yX3_takeRun, Cond.selects RX3 yX3_takeRun yX3_takeRun, Cond.code yX3_takeRun cX3_takeRun 5 none, Cond.methodLink RX3 41 arraycopyName, Cond.methodLink RX3 37 yX3_holdsRun, Cond.methodLink RL 143 yX6_copy, Cond.instanceMethod yX6_copy, Cond.selects RX6 yX6_copy yX6_copy, Cond.code yX6_copy cX6_copy 7 (some .int), Cond.methodLink RL 144 yX5_write, Cond.instanceMethod yX5_write, Cond.selects RX5 yX5_write yX5_write, Cond.code yX5_write cX5_write 5 (some .int), Cond.methodLink RX5 287 Lib.Math.min.name, Cond.static Lib.Math.min.name, Cond.code Lib.Math.min.name Lib.Math.min.code 2 (some .int), Cond.methodLink RL 147 yX6_write, Cond.instanceMethod yX6_write, Cond.selects RX6 yX6_write yX6_write, Cond.code yX6_write cX6_write 4 (some .int), Cond.methodLink RL 148 yX5_count, Cond.instanceMethod yX5_count]
def wsL_law_r39 : List Cond := [Cond.selects RX5 yX5_count yX5_count, Cond.code yX5_count cX5_count 2 (some .int), Cond.methodLink RX5 292 yX5_allLong, Cond.instanceMethod yX5_allLong, Cond.selects RX5 yX5_allLong yX5_allLong, Cond.code yX5_allLong cX5_allLong 4 (some .int), Cond.methodLink RX5 295 yX5_allScratches, Cond.instanceMethod yX5_allScratches, Cond.selects RX5 yX5_allScratches yX5_allScratches, Cond.code yX5_allScratches cX5_allScratches 4 (some .int), Cond.methodLink RX5 351 yX1_scratches, Cond.instanceMethod yX1_scratches, Cond.selects RX1 yX1_scratches yX1_scratches, Cond.code yX1_scratches cX1_scratches 3 (some .int), Cond.methodLink RX5 298 yX5_allPlays, Cond.instanceMethod yX5_allPlays, Cond.selects RX5 yX5_allPlays yX5_allPlays, Cond.code yX5_allPlays cX5_allPlays 1 (some .int), Cond.methodLink RX5 354 yX2_allPlays, Cond.instanceMethod yX2_allPlays, Cond.selects RX2 yX2_allPlays yX2_allPlays, Cond.code yX2_allPlays cX2_allPlays 1 (some .int), Cond.methodLink RL 151 yX6_count, Cond.instanceMethod yX6_count]
def wsL_law_r40 : List Cond := [Cond.selects RX6 yX6_count yX6_count, Cond.code yX6_count cX6_count 4 (some .int), Cond.methodLink RX6 233 yX6_playsAll, Cond.instanceMethod yX6_playsAll, Cond.selects RX6 yX6_playsAll yX6_playsAll, Cond.code yX6_playsAll cX6_playsAll 3 (some .int), Cond.methodLink RL 152 yX5_digest, Cond.instanceMethod yX5_digest, Cond.selects RX5 yX5_digest yX5_digest, Cond.code yX5_digest cX5_digest 5 (some .long), Cond.constantLong RX5 301 (17), Cond.methodLink RX5 303 yX5_count, Cond.methodLink RX5 306 yX5_mixed, Cond.static yX5_mixed, Cond.code yX5_mixed cX5_mixed 4 (some .long), Cond.constantLong RX5 355 (31), Cond.methodLink RX5 310 yX5_fault, Cond.methodLink RX5 313 yX5_digestRecords, Cond.instanceMethod yX5_digestRecords, Cond.selects RX5 yX5_digestRecords yX5_digestRecords, Cond.code yX5_digestRecords cX5_digestRecords 6 (some .long), Cond.methodLink RX5 357 yX5_plays, Cond.methodLink RX5 360 yX5_loops, Cond.methodLink RX5 363 yX5_groove]
def wsL_law_r41 : List Cond := [Cond.methodLink RX5 366 yX5_wax, Cond.methodLink RX5 369 yX5_times, Cond.methodLink RX5 372 yX5_next, Cond.methodLink RX5 376 yX5_since, Cond.methodLink RX5 317 yX5_digestNights, Cond.instanceMethod yX5_digestNights, Cond.selects RX5 yX5_digestNights yX5_digestNights, Cond.code yX5_digestNights cX5_digestNights 8 (some .long), Cond.methodLink RX5 379 yX5_served, Cond.methodLink RX5 382 yX5_night, Cond.methodLink RX5 320 yX5_at, Cond.methodLink RX5 323 yX5_best, Cond.methodLink RX5 326 yX5_first, Cond.methodLink RX5 329 yX5_stuck, Cond.methodLink RX5 332 yX5_laws, Cond.methodLink RL 156 yX6_digest, Cond.instanceMethod yX6_digest, Cond.selects RX6 yX6_digest yX6_digest, Cond.code yX6_digest cX6_digest 5 (some .long), Cond.constantLong RX6 236 (17), Cond.constantLong RX6 238 (31), Cond.methodLink RX6 240 yX6_count, Cond.methodLink RX6 243 yX6_at, Cond.methodLink RX6 245 yX6_ask]
def wsL_law_r42 : List Cond := [Cond.methodLink RX6 248 yX6_stuck]
def wsL_law : List Cond := (wsL_law_r1 ++ (wsL_law_r2 ++ (wsL_law_r3 ++ (wsL_law_r4 ++ (wsL_law_r5 ++ (wsL_law_r6 ++ (wsL_law_r7 ++ (wsL_law_r8 ++ (wsL_law_r9 ++ (wsL_law_r10 ++ (wsL_law_r11 ++ (wsL_law_r12 ++ (wsL_law_r13 ++ (wsL_law_r14 ++ (wsL_law_r15 ++ (wsL_law_r16 ++ (wsL_law_r17 ++ (wsL_law_r18 ++ (wsL_law_r19 ++ (wsL_law_r20 ++ (wsL_law_r21 ++ (wsL_law_r22 ++ (wsL_law_r23 ++ (wsL_law_r24 ++ (wsL_law_r25 ++ (wsL_law_r26 ++ (wsL_law_r27 ++ (wsL_law_r28 ++ (wsL_law_r29 ++ (wsL_law_r30 ++ (wsL_law_r31 ++ (wsL_law_r32 ++ (wsL_law_r33 ++ (wsL_law_r34 ++ (wsL_law_r35 ++ (wsL_law_r36 ++ (wsL_law_r37 ++ (wsL_law_r38 ++ (wsL_law_r39 ++ (wsL_law_r40 ++ (wsL_law_r41 ++ wsL_law_r42))))))))))))))))))))))))))))))))))))))))) ++ wsX50 ++ wsX60 ++ wsX40 ++ wsX20 ++ wsX10 ++ wsX30 ++ wsX00 ++ ([] : List Cond)
set_option maxRecDepth 20000 in
theorem dX0_init_0 : decode cX0_init 0 = .ok (.aload_n 0, 1) := by decide +kernel
theorem dX0_init_1 : decode cX0_init 1 = .ok (.invokespecial 3, 3) := by decide +kernel
theorem dX0_init_4 : decode cX0_init 4 = .ok (.aload_n 0, 1) := by decide +kernel
theorem dX0_init_5 : decode cX0_init 5 = .ok (.bipush 20, 2) := by decide +kernel
theorem dX0_init_7 : decode cX0_init 7 = .ok (.newarray .int, 2) := by decide +kernel
theorem dX0_init_9 : decode cX0_init 9 = .ok (.putfield 9, 3) := by decide +kernel
theorem dX0_init_12 : decode cX0_init 12 = .ok (.aload_n 0, 1) := by decide +kernel
theorem dX0_init_13 : decode cX0_init 13 = .ok (.bipush 20, 2) := by decide +kernel
theorem dX0_init_15 : decode cX0_init 15 = .ok (.newarray .int, 2) := by decide +kernel
theorem dX0_init_17 : decode cX0_init 17 = .ok (.putfield 15, 3) := by decide +kernel
theorem dX0_init_20 : decode cX0_init 20 = .ok (.aload_n 0, 1) := by decide +kernel
theorem dX0_init_21 : decode cX0_init 21 = .ok (.iconst 0, 1) := by decide +kernel
theorem dX0_init_22 : decode cX0_init 22 = .ok (.putfield 18, 3) := by decide +kernel
theorem dX0_init_25 : decode cX0_init 25 = .ok (.return_, 1) := by decide +kernel
theorem dX1_init_0 : decode cX1_init 0 = .ok (.aload_n 0, 1) := by decide +kernel
theorem dX1_init_1 : decode cX1_init 1 = .ok (.invokespecial 3, 3) := by decide +kernel
theorem dX1_init_4 : decode cX1_init 4 = .ok (.aload_n 0, 1) := by decide +kernel
theorem dX1_init_5 : decode cX1_init 5 = .ok (.iconst 3, 1) := by decide +kernel
theorem dX1_init_6 : decode cX1_init 6 = .ok (.putfield 9, 3) := by decide +kernel
theorem dX1_init_9 : decode cX1_init 9 = .ok (.aload_n 0, 1) := by decide +kernel
theorem dX1_init_10 : decode cX1_init 10 = .ok (.bipush 9, 2) := by decide +kernel
theorem dX1_init_12 : decode cX1_init 12 = .ok (.newarray .int, 2) := by decide +kernel
theorem dX1_init_14 : decode cX1_init 14 = .ok (.putfield 15, 3) := by decide +kernel
theorem dX1_init_17 : decode cX1_init 17 = .ok (.aload_n 0, 1) := by decide +kernel
theorem dX1_init_18 : decode cX1_init 18 = .ok (.getfield 15, 3) := by decide +kernel
theorem dX1_init_21 : decode cX1_init 21 = .ok (.iconst (-1), 1) := by decide +kernel
theorem dX1_init_22 : decode cX1_init 22 = .ok (.invokestatic 19, 3) := by decide +kernel
theorem dX1_init_25 : decode cX1_init 25 = .ok (.return_, 1) := by decide +kernel
theorem dX2_init_0 : decode cX2_init 0 = .ok (.aload_n 0, 1) := by decide +kernel
theorem dX2_init_1 : decode cX2_init 1 = .ok (.invokespecial 3, 3) := by decide +kernel
theorem dX2_init_4 : decode cX2_init 4 = .ok (.aload_n 0, 1) := by decide +kernel
theorem dX2_init_5 : decode cX2_init 5 = .ok (.bipush 10, 2) := by decide +kernel
theorem dX2_init_7 : decode cX2_init 7 = .ok (.newarray .int, 2) := by decide +kernel
theorem dX2_init_9 : decode cX2_init 9 = .ok (.putfield 9, 3) := by decide +kernel
theorem dX2_init_12 : decode cX2_init 12 = .ok (.aload_n 0, 1) := by decide +kernel
theorem dX2_init_13 : decode cX2_init 13 = .ok (.bipush 10, 2) := by decide +kernel
theorem dX2_init_15 : decode cX2_init 15 = .ok (.newarray .int, 2) := by decide +kernel
theorem dX2_init_17 : decode cX2_init 17 = .ok (.putfield 15, 3) := by decide +kernel
theorem dX2_init_20 : decode cX2_init 20 = .ok (.aload_n 0, 1) := by decide +kernel
theorem dX2_init_21 : decode cX2_init 21 = .ok (.bipush 10, 2) := by decide +kernel
theorem dX2_init_23 : decode cX2_init 23 = .ok (.newarray .int, 2) := by decide +kernel
theorem dX2_init_25 : decode cX2_init 25 = .ok (.putfield 18, 3) := by decide +kernel
theorem dX2_init_28 : decode cX2_init 28 = .ok (.aload_n 0, 1) := by decide +kernel
theorem dX2_init_29 : decode cX2_init 29 = .ok (.bipush 20, 2) := by decide +kernel
theorem dX2_init_31 : decode cX2_init 31 = .ok (.newarray .int, 2) := by decide +kernel
theorem dX2_init_33 : decode cX2_init 33 = .ok (.putfield 21, 3) := by decide +kernel
theorem dX2_init_36 : decode cX2_init 36 = .ok (.aload_n 0, 1) := by decide +kernel
theorem dX2_init_37 : decode cX2_init 37 = .ok (.bipush 20, 2) := by decide +kernel
theorem dX2_init_39 : decode cX2_init 39 = .ok (.newarray .int, 2) := by decide +kernel
theorem dX2_init_41 : decode cX2_init 41 = .ok (.putfield 24, 3) := by decide +kernel
theorem dX2_init_44 : decode cX2_init 44 = .ok (.aload_n 0, 1) := by decide +kernel
theorem dX2_init_45 : decode cX2_init 45 = .ok (.new 27, 3) := by decide +kernel
theorem dX2_init_48 : decode cX2_init 48 = .ok (.dup, 1) := by decide +kernel
theorem dX2_init_49 : decode cX2_init 49 = .ok (.invokespecial 29, 3) := by decide +kernel
theorem dX2_init_52 : decode cX2_init 52 = .ok (.putfield 30, 3) := by decide +kernel
theorem dX2_init_55 : decode cX2_init 55 = .ok (.aload_n 0, 1) := by decide +kernel
theorem dX2_init_56 : decode cX2_init 56 = .ok (.iconst 0, 1) := by decide +kernel
theorem dX2_init_57 : decode cX2_init 57 = .ok (.putfield 34, 3) := by decide +kernel
theorem dX2_init_60 : decode cX2_init 60 = .ok (.aload_n 0, 1) := by decide +kernel
theorem dX2_init_61 : decode cX2_init 61 = .ok (.iconst 0, 1) := by decide +kernel
theorem dX2_init_62 : decode cX2_init 62 = .ok (.putfield 38, 3) := by decide +kernel
theorem dX2_init_65 : decode cX2_init 65 = .ok (.aload_n 0, 1) := by decide +kernel
theorem dX2_init_66 : decode cX2_init 66 = .ok (.iconst 0, 1) := by decide +kernel
theorem dX2_init_67 : decode cX2_init 67 = .ok (.putfield 41, 3) := by decide +kernel
theorem dX2_init_70 : decode cX2_init 70 = .ok (.aload_n 0, 1) := by decide +kernel
theorem dX2_init_71 : decode cX2_init 71 = .ok (.iconst (-1), 1) := by decide +kernel
theorem dX2_init_72 : decode cX2_init 72 = .ok (.putfield 44, 3) := by decide +kernel
theorem dX2_init_75 : decode cX2_init 75 = .ok (.return_, 1) := by decide +kernel
theorem dX3_init_0 : decode cX3_init 0 = .ok (.aload_n 0, 1) := by decide +kernel
theorem dX3_init_1 : decode cX3_init 1 = .ok (.invokespecial 1, 3) := by decide +kernel
theorem dX3_init_4 : decode cX3_init 4 = .ok (.aload_n 0, 1) := by decide +kernel
theorem dX3_init_5 : decode cX3_init 5 = .ok (.bipush 60, 2) := by decide +kernel
theorem dX3_init_7 : decode cX3_init 7 = .ok (.newarray .int, 2) := by decide +kernel
theorem dX3_init_9 : decode cX3_init 9 = .ok (.putfield 9, 3) := by decide +kernel
theorem dX3_init_12 : decode cX3_init 12 = .ok (.aload_n 0, 1) := by decide +kernel
theorem dX3_init_13 : decode cX3_init 13 = .ok (.iconst (-1), 1) := by decide +kernel
theorem dX3_init_14 : decode cX3_init 14 = .ok (.putfield 13, 3) := by decide +kernel
theorem dX3_init_17 : decode cX3_init 17 = .ok (.aload_n 0, 1) := by decide +kernel
theorem dX3_init_18 : decode cX3_init 18 = .ok (.iconst 0, 1) := by decide +kernel
theorem dX3_init_19 : decode cX3_init 19 = .ok (.putfield 17, 3) := by decide +kernel
theorem dX3_init_22 : decode cX3_init 22 = .ok (.return_, 1) := by decide +kernel
theorem dX4_init_0 : decode cX4_init 0 = .ok (.aload_n 0, 1) := by decide +kernel
theorem dX4_init_1 : decode cX4_init 1 = .ok (.invokespecial 3, 3) := by decide +kernel
theorem dX4_init_4 : decode cX4_init 4 = .ok (.aload_n 0, 1) := by decide +kernel
theorem dX4_init_5 : decode cX4_init 5 = .ok (.bipush 80, 2) := by decide +kernel
theorem dX4_init_7 : decode cX4_init 7 = .ok (.newarray .int, 2) := by decide +kernel
theorem dX4_init_9 : decode cX4_init 9 = .ok (.putfield 11, 3) := by decide +kernel
theorem dX4_init_12 : decode cX4_init 12 = .ok (.aload_n 0, 1) := by decide +kernel
theorem dX4_init_13 : decode cX4_init 13 = .ok (.new 15, 3) := by decide +kernel
theorem dX4_init_16 : decode cX4_init 16 = .ok (.dup, 1) := by decide +kernel
theorem dX4_init_17 : decode cX4_init 17 = .ok (.invokespecial 17, 3) := by decide +kernel
theorem dX4_init_20 : decode cX4_init 20 = .ok (.putfield 18, 3) := by decide +kernel
theorem dX4_init_23 : decode cX4_init 23 = .ok (.aload_n 0, 1) := by decide +kernel
theorem dX4_init_24 : decode cX4_init 24 = .ok (.iconst 0, 1) := by decide +kernel
theorem dX4_init_25 : decode cX4_init 25 = .ok (.putfield 22, 3) := by decide +kernel
theorem dX4_init_28 : decode cX4_init 28 = .ok (.aload_n 0, 1) := by decide +kernel
theorem dX4_init_29 : decode cX4_init 29 = .ok (.iconst (-1), 1) := by decide +kernel
theorem dX4_init_30 : decode cX4_init 30 = .ok (.putfield 26, 3) := by decide +kernel
theorem dX4_init_33 : decode cX4_init 33 = .ok (.return_, 1) := by decide +kernel
theorem dX5_init_0 : decode cX5_init 0 = .ok (.aload_n 0, 1) := by decide +kernel
theorem dX5_init_1 : decode cX5_init 1 = .ok (.invokespecial 1, 3) := by decide +kernel
theorem dX5_init_4 : decode cX5_init 4 = .ok (.aload_n 0, 1) := by decide +kernel
theorem dX5_init_5 : decode cX5_init 5 = .ok (.bipush 10, 2) := by decide +kernel
theorem dX5_init_7 : decode cX5_init 7 = .ok (.anewarray 9, 3) := by decide +kernel
theorem dX5_init_10 : decode cX5_init 10 = .ok (.putfield 11, 3) := by decide +kernel
theorem dX5_init_13 : decode cX5_init 13 = .ok (.aload_n 0, 1) := by decide +kernel
theorem dX5_init_14 : decode cX5_init 14 = .ok (.iconst 4, 1) := by decide +kernel
theorem dX5_init_15 : decode cX5_init 15 = .ok (.anewarray 15, 3) := by decide +kernel
theorem dX5_init_18 : decode cX5_init 18 = .ok (.putfield 17, 3) := by decide +kernel
theorem dX5_init_21 : decode cX5_init 21 = .ok (.aload_n 0, 1) := by decide +kernel
theorem dX5_init_22 : decode cX5_init 22 = .ok (.new 21, 3) := by decide +kernel
theorem dX5_init_25 : decode cX5_init 25 = .ok (.dup, 1) := by decide +kernel
theorem dX5_init_26 : decode cX5_init 26 = .ok (.invokespecial 23, 3) := by decide +kernel
theorem dX5_init_29 : decode cX5_init 29 = .ok (.putfield 24, 3) := by decide +kernel
theorem dX5_init_32 : decode cX5_init 32 = .ok (.aload_n 0, 1) := by decide +kernel
theorem dX5_init_33 : decode cX5_init 33 = .ok (.new 28, 3) := by decide +kernel
theorem dX5_init_36 : decode cX5_init 36 = .ok (.dup, 1) := by decide +kernel
theorem dX5_init_37 : decode cX5_init 37 = .ok (.invokespecial 30, 3) := by decide +kernel
theorem dX5_init_40 : decode cX5_init 40 = .ok (.putfield 31, 3) := by decide +kernel
theorem dX5_init_43 : decode cX5_init 43 = .ok (.aload_n 0, 1) := by decide +kernel
theorem dX5_init_44 : decode cX5_init 44 = .ok (.bipush 8, 2) := by decide +kernel
theorem dX5_init_46 : decode cX5_init 46 = .ok (.newarray .int, 2) := by decide +kernel
theorem dX5_init_48 : decode cX5_init 48 = .ok (.putfield 35, 3) := by decide +kernel
theorem dX5_init_51 : decode cX5_init 51 = .ok (.aload_n 0, 1) := by decide +kernel
theorem dX5_init_52 : decode cX5_init 52 = .ok (.bipush 8, 2) := by decide +kernel
theorem dX5_init_54 : decode cX5_init 54 = .ok (.newarray .int, 2) := by decide +kernel
theorem dX5_init_56 : decode cX5_init 56 = .ok (.putfield 39, 3) := by decide +kernel
theorem dX5_init_59 : decode cX5_init 59 = .ok (.aload_n 0, 1) := by decide +kernel
theorem dX5_init_60 : decode cX5_init 60 = .ok (.iconst 0, 1) := by decide +kernel
theorem dX5_init_61 : decode cX5_init 61 = .ok (.putfield 42, 3) := by decide +kernel
theorem dX5_init_64 : decode cX5_init 64 = .ok (.aload_n 0, 1) := by decide +kernel
theorem dX5_init_65 : decode cX5_init 65 = .ok (.bipush 20, 2) := by decide +kernel
theorem dX5_init_67 : decode cX5_init 67 = .ok (.putfield 46, 3) := by decide +kernel
theorem dX5_init_70 : decode cX5_init 70 = .ok (.aload_n 0, 1) := by decide +kernel
theorem dX5_init_71 : decode cX5_init 71 = .ok (.iconst 1, 1) := by decide +kernel
theorem dX5_init_72 : decode cX5_init 72 = .ok (.putfield 49, 3) := by decide +kernel
theorem dX5_init_75 : decode cX5_init 75 = .ok (.aload_n 0, 1) := by decide +kernel
theorem dX5_init_76 : decode cX5_init 76 = .ok (.bipush 99, 2) := by decide +kernel
theorem dX5_init_78 : decode cX5_init 78 = .ok (.putfield 52, 3) := by decide +kernel
theorem dX5_init_81 : decode cX5_init 81 = .ok (.aload_n 0, 1) := by decide +kernel
theorem dX5_init_82 : decode cX5_init 82 = .ok (.bipush 15, 2) := by decide +kernel
theorem dX5_init_84 : decode cX5_init 84 = .ok (.putfield 55, 3) := by decide +kernel
theorem dX5_init_87 : decode cX5_init 87 = .ok (.aload_n 0, 1) := by decide +kernel
theorem dX5_init_88 : decode cX5_init 88 = .ok (.iconst 0, 1) := by decide +kernel
theorem dX5_init_89 : decode cX5_init 89 = .ok (.putfield 58, 3) := by decide +kernel
theorem dX5_init_92 : decode cX5_init 92 = .ok (.iconst 0, 1) := by decide +kernel
theorem dX5_init_93 : decode cX5_init 93 = .ok (.istore_n 1, 1) := by decide +kernel
theorem dX5_init_94 : decode cX5_init 94 = .ok (.iload_n 1, 1) := by decide +kernel
theorem dX5_init_95 : decode cX5_init 95 = .ok (.bipush 10, 2) := by decide +kernel
theorem dX5_init_97 : decode cX5_init 97 = .ok (.if_icmp .ge 22, 3) := by decide +kernel
theorem dX5_init_100 : decode cX5_init 100 = .ok (.aload_n 0, 1) := by decide +kernel
theorem dX5_init_101 : decode cX5_init 101 = .ok (.getfield 11, 3) := by decide +kernel
theorem dX5_init_104 : decode cX5_init 104 = .ok (.iload_n 1, 1) := by decide +kernel
theorem dX5_init_105 : decode cX5_init 105 = .ok (.new 9, 3) := by decide +kernel
theorem dX5_init_108 : decode cX5_init 108 = .ok (.dup, 1) := by decide +kernel
theorem dX5_init_109 : decode cX5_init 109 = .ok (.invokespecial 61, 3) := by decide +kernel
theorem dX5_init_112 : decode cX5_init 112 = .ok (.aastore, 1) := by decide +kernel
theorem dX5_init_113 : decode cX5_init 113 = .ok (.iinc 1 1, 3) := by decide +kernel
theorem dX5_init_116 : decode cX5_init 116 = .ok (.goto (-22), 3) := by decide +kernel
theorem dX5_init_119 : decode cX5_init 119 = .ok (.iconst 0, 1) := by decide +kernel
theorem dX5_init_120 : decode cX5_init 120 = .ok (.istore_n 1, 1) := by decide +kernel
theorem dX5_init_121 : decode cX5_init 121 = .ok (.iload_n 1, 1) := by decide +kernel
theorem dX5_init_122 : decode cX5_init 122 = .ok (.iconst 4, 1) := by decide +kernel
theorem dX5_init_123 : decode cX5_init 123 = .ok (.if_icmp .ge 22, 3) := by decide +kernel
theorem dX5_init_126 : decode cX5_init 126 = .ok (.aload_n 0, 1) := by decide +kernel
theorem dX5_init_127 : decode cX5_init 127 = .ok (.getfield 17, 3) := by decide +kernel
theorem dX5_init_130 : decode cX5_init 130 = .ok (.iload_n 1, 1) := by decide +kernel
theorem dX5_init_131 : decode cX5_init 131 = .ok (.new 15, 3) := by decide +kernel
theorem dX5_init_134 : decode cX5_init 134 = .ok (.dup, 1) := by decide +kernel
theorem dX5_init_135 : decode cX5_init 135 = .ok (.invokespecial 62, 3) := by decide +kernel
theorem dX5_init_138 : decode cX5_init 138 = .ok (.aastore, 1) := by decide +kernel
theorem dX5_init_139 : decode cX5_init 139 = .ok (.iinc 1 1, 3) := by decide +kernel
theorem dX5_init_142 : decode cX5_init 142 = .ok (.goto (-21), 3) := by decide +kernel
theorem dX5_init_145 : decode cX5_init 145 = .ok (.return_, 1) := by decide +kernel
theorem dX6_init_0 : decode cX6_init 0 = .ok (.aload_n 0, 1) := by decide +kernel
theorem dX6_init_1 : decode cX6_init 1 = .ok (.invokespecial 1, 3) := by decide +kernel
theorem dX6_init_4 : decode cX6_init 4 = .ok (.aload_n 0, 1) := by decide +kernel
theorem dX6_init_5 : decode cX6_init 5 = .ok (.iconst 4, 1) := by decide +kernel
theorem dX6_init_6 : decode cX6_init 6 = .ok (.newarray .int, 2) := by decide +kernel
theorem dX6_init_8 : decode cX6_init 8 = .ok (.putfield 7, 3) := by decide +kernel
theorem dX6_init_11 : decode cX6_init 11 = .ok (.aload_n 0, 1) := by decide +kernel
theorem dX6_init_12 : decode cX6_init 12 = .ok (.iconst 4, 1) := by decide +kernel
theorem dX6_init_13 : decode cX6_init 13 = .ok (.newarray .int, 2) := by decide +kernel
theorem dX6_init_15 : decode cX6_init 15 = .ok (.putfield 13, 3) := by decide +kernel
theorem dX6_init_18 : decode cX6_init 18 = .ok (.aload_n 0, 1) := by decide +kernel
theorem dX6_init_19 : decode cX6_init 19 = .ok (.sipush 240, 3) := by decide +kernel
theorem dX6_init_22 : decode cX6_init 22 = .ok (.newarray .int, 2) := by decide +kernel
theorem dX6_init_24 : decode cX6_init 24 = .ok (.putfield 16, 3) := by decide +kernel
theorem dX6_init_27 : decode cX6_init 27 = .ok (.aload_n 0, 1) := by decide +kernel
theorem dX6_init_28 : decode cX6_init 28 = .ok (.bipush 60, 2) := by decide +kernel
theorem dX6_init_30 : decode cX6_init 30 = .ok (.newarray .int, 2) := by decide +kernel
theorem dX6_init_32 : decode cX6_init 32 = .ok (.putfield 19, 3) := by decide +kernel
theorem dX6_init_35 : decode cX6_init 35 = .ok (.aload_n 0, 1) := by decide +kernel
theorem dX6_init_36 : decode cX6_init 36 = .ok (.bipush 10, 2) := by decide +kernel
theorem dX6_init_38 : decode cX6_init 38 = .ok (.newarray .int, 2) := by decide +kernel
theorem dX6_init_40 : decode cX6_init 40 = .ok (.putfield 22, 3) := by decide +kernel
theorem dX6_init_43 : decode cX6_init 43 = .ok (.aload_n 0, 1) := by decide +kernel
theorem dX6_init_44 : decode cX6_init 44 = .ok (.bipush 90, 2) := by decide +kernel
theorem dX6_init_46 : decode cX6_init 46 = .ok (.newarray .int, 2) := by decide +kernel
theorem dX6_init_48 : decode cX6_init 48 = .ok (.putfield 25, 3) := by decide +kernel
theorem dX6_init_51 : decode cX6_init 51 = .ok (.aload_n 0, 1) := by decide +kernel
theorem dX6_init_52 : decode cX6_init 52 = .ok (.iconst 4, 1) := by decide +kernel
theorem dX6_init_53 : decode cX6_init 53 = .ok (.newarray .int, 2) := by decide +kernel
theorem dX6_init_55 : decode cX6_init 55 = .ok (.putfield 28, 3) := by decide +kernel
theorem dX6_init_58 : decode cX6_init 58 = .ok (.aload_n 0, 1) := by decide +kernel
theorem dX6_init_59 : decode cX6_init 59 = .ok (.bipush 80, 2) := by decide +kernel
theorem dX6_init_61 : decode cX6_init 61 = .ok (.newarray .int, 2) := by decide +kernel
theorem dX6_init_63 : decode cX6_init 63 = .ok (.putfield 31, 3) := by decide +kernel
theorem dX6_init_66 : decode cX6_init 66 = .ok (.aload_n 0, 1) := by decide +kernel
theorem dX6_init_67 : decode cX6_init 67 = .ok (.bipush 44, 2) := by decide +kernel
theorem dX6_init_69 : decode cX6_init 69 = .ok (.newarray .int, 2) := by decide +kernel
theorem dX6_init_71 : decode cX6_init 71 = .ok (.putfield 34, 3) := by decide +kernel
theorem dX6_init_74 : decode cX6_init 74 = .ok (.aload_n 0, 1) := by decide +kernel
theorem dX6_init_75 : decode cX6_init 75 = .ok (.bipush 22, 2) := by decide +kernel
theorem dX6_init_77 : decode cX6_init 77 = .ok (.newarray .int, 2) := by decide +kernel
theorem dX6_init_79 : decode cX6_init 79 = .ok (.putfield 37, 3) := by decide +kernel
theorem dX6_init_82 : decode cX6_init 82 = .ok (.aload_n 0, 1) := by decide +kernel
theorem dX6_init_83 : decode cX6_init 83 = .ok (.bipush 22, 2) := by decide +kernel
theorem dX6_init_85 : decode cX6_init 85 = .ok (.newarray .int, 2) := by decide +kernel
theorem dX6_init_87 : decode cX6_init 87 = .ok (.putfield 40, 3) := by decide +kernel
theorem dX6_init_90 : decode cX6_init 90 = .ok (.aload_n 0, 1) := by decide +kernel
theorem dX6_init_91 : decode cX6_init 91 = .ok (.sipush 200, 3) := by decide +kernel
theorem dX6_init_94 : decode cX6_init 94 = .ok (.newarray .int, 2) := by decide +kernel
theorem dX6_init_96 : decode cX6_init 96 = .ok (.putfield 43, 3) := by decide +kernel
theorem dX6_init_99 : decode cX6_init 99 = .ok (.aload_n 0, 1) := by decide +kernel
theorem dX6_init_100 : decode cX6_init 100 = .ok (.bipush 10, 2) := by decide +kernel
theorem dX6_init_102 : decode cX6_init 102 = .ok (.newarray .int, 2) := by decide +kernel
theorem dX6_init_104 : decode cX6_init 104 = .ok (.putfield 46, 3) := by decide +kernel
theorem dX6_init_107 : decode cX6_init 107 = .ok (.aload_n 0, 1) := by decide +kernel
theorem dX6_init_108 : decode cX6_init 108 = .ok (.bipush 16, 2) := by decide +kernel
theorem dX6_init_110 : decode cX6_init 110 = .ok (.newarray .int, 2) := by decide +kernel
theorem dX6_init_112 : decode cX6_init 112 = .ok (.putfield 49, 3) := by decide +kernel
theorem dX6_init_115 : decode cX6_init 115 = .ok (.iconst 0, 1) := by decide +kernel
theorem dX6_init_116 : decode cX6_init 116 = .ok (.istore_n 1, 1) := by decide +kernel
theorem dX6_init_117 : decode cX6_init 117 = .ok (.iload_n 1, 1) := by decide +kernel
theorem dX6_init_118 : decode cX6_init 118 = .ok (.iconst 4, 1) := by decide +kernel
theorem dX6_init_119 : decode cX6_init 119 = .ok (.if_icmp .ge 16, 3) := by decide +kernel
theorem dX6_init_122 : decode cX6_init 122 = .ok (.aload_n 0, 1) := by decide +kernel
theorem dX6_init_123 : decode cX6_init 123 = .ok (.getfield 7, 3) := by decide +kernel
theorem dX6_init_126 : decode cX6_init 126 = .ok (.iload_n 1, 1) := by decide +kernel
theorem dX6_init_127 : decode cX6_init 127 = .ok (.iconst (-1), 1) := by decide +kernel
theorem dX6_init_128 : decode cX6_init 128 = .ok (.iastore, 1) := by decide +kernel
theorem dX6_init_129 : decode cX6_init 129 = .ok (.iinc 1 1, 3) := by decide +kernel
theorem dX6_init_132 : decode cX6_init 132 = .ok (.goto (-15), 3) := by decide +kernel
theorem dX6_init_135 : decode cX6_init 135 = .ok (.iconst 0, 1) := by decide +kernel
theorem dX6_init_136 : decode cX6_init 136 = .ok (.istore_n 1, 1) := by decide +kernel
theorem dX6_init_137 : decode cX6_init 137 = .ok (.iload_n 1, 1) := by decide +kernel
theorem dX6_init_138 : decode cX6_init 138 = .ok (.bipush 10, 2) := by decide +kernel
theorem dX6_init_140 : decode cX6_init 140 = .ok (.if_icmp .ge 16, 3) := by decide +kernel
theorem dX6_init_143 : decode cX6_init 143 = .ok (.aload_n 0, 1) := by decide +kernel
theorem dX6_init_144 : decode cX6_init 144 = .ok (.getfield 22, 3) := by decide +kernel
theorem dX6_init_147 : decode cX6_init 147 = .ok (.iload_n 1, 1) := by decide +kernel
theorem dX6_init_148 : decode cX6_init 148 = .ok (.iconst 3, 1) := by decide +kernel
theorem dX6_init_149 : decode cX6_init 149 = .ok (.iastore, 1) := by decide +kernel
theorem dX6_init_150 : decode cX6_init 150 = .ok (.iinc 1 1, 3) := by decide +kernel
theorem dX6_init_153 : decode cX6_init 153 = .ok (.goto (-16), 3) := by decide +kernel
theorem dX6_init_156 : decode cX6_init 156 = .ok (.iconst 0, 1) := by decide +kernel
theorem dX6_init_157 : decode cX6_init 157 = .ok (.istore_n 1, 1) := by decide +kernel
theorem dX6_init_158 : decode cX6_init 158 = .ok (.iload_n 1, 1) := by decide +kernel
theorem dX6_init_159 : decode cX6_init 159 = .ok (.bipush 90, 2) := by decide +kernel
theorem dX6_init_161 : decode cX6_init 161 = .ok (.if_icmp .ge 16, 3) := by decide +kernel
theorem dX6_init_164 : decode cX6_init 164 = .ok (.aload_n 0, 1) := by decide +kernel
theorem dX6_init_165 : decode cX6_init 165 = .ok (.getfield 25, 3) := by decide +kernel
theorem dX6_init_168 : decode cX6_init 168 = .ok (.iload_n 1, 1) := by decide +kernel
theorem dX6_init_169 : decode cX6_init 169 = .ok (.iconst (-1), 1) := by decide +kernel
theorem dX6_init_170 : decode cX6_init 170 = .ok (.iastore, 1) := by decide +kernel
theorem dX6_init_171 : decode cX6_init 171 = .ok (.iinc 1 1, 3) := by decide +kernel
theorem dX6_init_174 : decode cX6_init 174 = .ok (.goto (-16), 3) := by decide +kernel
theorem dX6_init_177 : decode cX6_init 177 = .ok (.aload_n 0, 1) := by decide +kernel
theorem dX6_init_178 : decode cX6_init 178 = .ok (.getfield 28, 3) := by decide +kernel
theorem dX6_init_181 : decode cX6_init 181 = .ok (.iconst 0, 1) := by decide +kernel
theorem dX6_init_182 : decode cX6_init 182 = .ok (.bipush 20, 2) := by decide +kernel
theorem dX6_init_184 : decode cX6_init 184 = .ok (.iastore, 1) := by decide +kernel
theorem dX6_init_185 : decode cX6_init 185 = .ok (.aload_n 0, 1) := by decide +kernel
theorem dX6_init_186 : decode cX6_init 186 = .ok (.getfield 28, 3) := by decide +kernel
theorem dX6_init_189 : decode cX6_init 189 = .ok (.iconst 1, 1) := by decide +kernel
theorem dX6_init_190 : decode cX6_init 190 = .ok (.iconst 1, 1) := by decide +kernel
theorem dX6_init_191 : decode cX6_init 191 = .ok (.iastore, 1) := by decide +kernel
theorem dX6_init_192 : decode cX6_init 192 = .ok (.aload_n 0, 1) := by decide +kernel
theorem dX6_init_193 : decode cX6_init 193 = .ok (.getfield 28, 3) := by decide +kernel
theorem dX6_init_196 : decode cX6_init 196 = .ok (.iconst 2, 1) := by decide +kernel
theorem dX6_init_197 : decode cX6_init 197 = .ok (.bipush 99, 2) := by decide +kernel
theorem dX6_init_199 : decode cX6_init 199 = .ok (.iastore, 1) := by decide +kernel
theorem dX6_init_200 : decode cX6_init 200 = .ok (.aload_n 0, 1) := by decide +kernel
theorem dX6_init_201 : decode cX6_init 201 = .ok (.getfield 28, 3) := by decide +kernel
theorem dX6_init_204 : decode cX6_init 204 = .ok (.iconst 3, 1) := by decide +kernel
theorem dX6_init_205 : decode cX6_init 205 = .ok (.bipush 15, 2) := by decide +kernel
theorem dX6_init_207 : decode cX6_init 207 = .ok (.iastore, 1) := by decide +kernel
theorem dX6_init_208 : decode cX6_init 208 = .ok (.return_, 1) := by decide +kernel
theorem dL_law_0 : decode cL_law 0 = .ok (.new 7, 3) := by decide +kernel
theorem dL_law_3 : decode cL_law 3 = .ok (.dup, 1) := by decide +kernel
theorem dL_law_4 : decode cL_law 4 = .ok (.invokespecial 9, 3) := by decide +kernel
theorem dL_law_7 : decode cL_law 7 = .ok (.astore_n 1, 1) := by decide +kernel
theorem dL_law_8 : decode cL_law 8 = .ok (.new 10, 3) := by decide +kernel
theorem dL_law_11 : decode cL_law 11 = .ok (.dup, 1) := by decide +kernel
theorem dL_law_12 : decode cL_law 12 = .ok (.invokespecial 12, 3) := by decide +kernel
theorem dL_law_15 : decode cL_law 15 = .ok (.astore_n 2, 1) := by decide +kernel
theorem dL_law_16 : decode cL_law 16 = .ok (.iconst 0, 1) := by decide +kernel
theorem dL_law_17 : decode cL_law 17 = .ok (.istore_n 3, 1) := by decide +kernel
theorem dL_law_18 : decode cL_law 18 = .ok (.iload_n 3, 1) := by decide +kernel
theorem dL_law_19 : decode cL_law 19 = .ok (.aload_n 0, 1) := by decide +kernel
theorem dL_law_20 : decode cL_law 20 = .ok (.arraylength, 1) := by decide +kernel
theorem dL_law_21 : decode cL_law 21 = .ok (.bipush 6, 2) := by decide +kernel
theorem dL_law_23 : decode cL_law 23 = .ok (.isub, 1) := by decide +kernel
abbrev vwCl : List vw_C := [(RX0, TX0, 3), (RX1, TX1, 2), (RX2, TX2, 10), (RX3, TX3, 3), (RX4, TX4, 4), (RX5, TX5, 12), (RX6, TX6, 22)]
/-- the words of nest mates: they go on apart, as facts of the state -/
def wsL_law_r43 : List Jvm.Cond := [Jvm.Cond.methodLinkNest RX5 23 yX4_init "ThirdFavour", Jvm.Cond.methodLinkNest RX4 17 yX0_init "ThirdFavour", Jvm.Cond.fieldLinkNest RX2 96 "ThirdFavour$Coins" "minutes" "[I" "ThirdFavour", Jvm.Cond.fieldLinkNest RX2 93 "ThirdFavour$Coins" "held" "I" "ThirdFavour", Jvm.Cond.methodLinkNest RX5 30 yX2_init "ThirdFavour", Jvm.Cond.methodLinkNest RX2 29 yX0_init "ThirdFavour", Jvm.Cond.methodLinkNest RX5 62 yX3_init "ThirdFavour", Jvm.Cond.methodLinkNest RX2 47 yX5_isRecord "ThirdFavour"]
/-- all words that the methods need -/
abbrev wsG : List Jvm.Cond := wsL_law
theorem lwt_1 {i : Nat} {w : Jvm.Cond} (h : tables_1_1[i]? = some w) : w ∈ lw_tbl := by
  have h1 := List.mem_of_getElem? h
  simp only [lw_tbl, tables_1, List.mem_append]
  simp [h1]
theorem lwt_2 {i : Nat} {w : Jvm.Cond} (h : tables_1_2[i]? = some w) : w ∈ lw_tbl := by
  have h1 := List.mem_of_getElem? h
  simp only [lw_tbl, tables_1, List.mem_append]
  simp [h1]
theorem lwt_3 {i : Nat} {w : Jvm.Cond} (h : tables_1_3[i]? = some w) : w ∈ lw_tbl := by
  have h1 := List.mem_of_getElem? h
  simp only [lw_tbl, tables_1, List.mem_append]
  simp [h1]
theorem lwt_4 {i : Nat} {w : Jvm.Cond} (h : tables_1_4[i]? = some w) : w ∈ lw_tbl := by
  have h1 := List.mem_of_getElem? h
  simp only [lw_tbl, tables_1, List.mem_append]
  simp [h1]
theorem lwt_5 {i : Nat} {w : Jvm.Cond} (h : tables_1_5[i]? = some w) : w ∈ lw_tbl := by
  have h1 := List.mem_of_getElem? h
  simp only [lw_tbl, tables_1, List.mem_append]
  simp [h1]
theorem lwp_1 {i : Nat} {q : MethodName × Nat} (h : lw_privs_1[i]? = some q) : Jvm.Cond.selects q.1.cls q.1 q.1 ∈ lw_tbl := by
  have h1 : q ∈ lw_privs := by
    have h1 := List.mem_of_getElem? h
    simp only [lw_privs, List.mem_append]
    simp [h1]
  exact List.mem_append_left _ (List.mem_map.mpr ⟨q, h1, rfl⟩)
theorem lwp_2 {i : Nat} {q : MethodName × Nat} (h : lw_privs_2[i]? = some q) : Jvm.Cond.selects q.1.cls q.1 q.1 ∈ lw_tbl := by
  have h1 : q ∈ lw_privs := by
    have h1 := List.mem_of_getElem? h
    simp only [lw_privs, List.mem_append]
    simp [h1]
  exact List.mem_append_left _ (List.mem_map.mpr ⟨q, h1, rfl⟩)
theorem lwp_3 {i : Nat} {q : MethodName × Nat} (h : lw_privs_3[i]? = some q) : Jvm.Cond.selects q.1.cls q.1 q.1 ∈ lw_tbl := by
  have h1 : q ∈ lw_privs := by
    have h1 := List.mem_of_getElem? h
    simp only [lw_privs, List.mem_append]
    simp [h1]
  exact List.mem_append_left _ (List.mem_map.mpr ⟨q, h1, rfl⟩)
theorem lwp_4 {i : Nat} {q : MethodName × Nat} (h : lw_privs_4[i]? = some q) : Jvm.Cond.selects q.1.cls q.1 q.1 ∈ lw_tbl := by
  have h1 : q ∈ lw_privs := by
    have h1 := List.mem_of_getElem? h
    simp only [lw_privs, List.mem_append]
    simp [h1]
  exact List.mem_append_left _ (List.mem_map.mpr ⟨q, h1, rfl⟩)
theorem lwp_5 {i : Nat} {q : MethodName × Nat} (h : lw_privs_5[i]? = some q) : Jvm.Cond.selects q.1.cls q.1 q.1 ∈ lw_tbl := by
  have h1 : q ∈ lw_privs := by
    have h1 := List.mem_of_getElem? h
    simp only [lw_privs, List.mem_append]
    simp [h1]
  exact List.mem_append_left _ (List.mem_map.mpr ⟨q, h1, rfl⟩)
set_option maxRecDepth 20000 in
theorem wsr_1 : ∀ w ∈ wsL_law_r1, w ∈ lw_tbl := List.forall_mem_cons.mpr ⟨lwt_1 (i := 12) rfl, List.forall_mem_cons.mpr ⟨lwt_1 (i := 13) rfl, List.forall_mem_cons.mpr ⟨lwt_1 (i := 1) rfl, List.forall_mem_cons.mpr ⟨lwt_4 (i := 16) rfl, List.forall_mem_cons.mpr ⟨lwt_4 (i := 17) rfl, List.forall_mem_cons.mpr ⟨lwt_1 (i := 8) rfl, List.forall_mem_cons.mpr ⟨lwt_1 (i := 14) rfl, List.forall_mem_cons.mpr ⟨lwt_1 (i := 15) rfl, List.forall_mem_cons.mpr ⟨lwt_1 (i := 16) rfl, List.forall_mem_cons.mpr ⟨lwt_1 (i := 17) rfl, List.forall_mem_cons.mpr ⟨lwt_1 (i := 18) rfl, List.forall_mem_cons.mpr ⟨lwt_1 (i := 19) rfl, List.forall_mem_cons.mpr ⟨lwt_1 (i := 20) rfl, List.forall_mem_cons.mpr ⟨lwt_1 (i := 131) rfl, List.forall_mem_cons.mpr ⟨lwt_1 (i := 22) rfl, List.forall_mem_cons.mpr ⟨lwt_1 (i := 132) rfl, List.forall_mem_cons.mpr ⟨lwt_1 (i := 24) rfl, List.forall_mem_cons.mpr ⟨lwt_1 (i := 25) rfl, List.forall_mem_cons.mpr ⟨lwt_1 (i := 2) rfl, List.forall_mem_cons.mpr ⟨lwt_1 (i := 133) rfl, List.forall_mem_cons.mpr ⟨lwt_1 (i := 62) rfl, List.forall_mem_cons.mpr ⟨lwt_1 (i := 63) rfl, List.forall_mem_cons.mpr ⟨lwt_1 (i := 4) rfl, List.forall_mem_cons.mpr ⟨lwt_1 (i := 134) rfl, (fun _ h => absurd h List.not_mem_nil)⟩⟩⟩⟩⟩⟩⟩⟩⟩⟩⟩⟩⟩⟩⟩⟩⟩⟩⟩⟩⟩⟩⟩⟩
theorem wsg_1 : wsL_law_r1.all goodWord = true := by decide +kernel
set_option maxRecDepth 20000 in
theorem wsr_2 : ∀ w ∈ wsL_law_r2, w ∈ lw_tbl := List.forall_mem_cons.mpr ⟨lwt_1 (i := 48) rfl, List.forall_mem_cons.mpr ⟨lwt_1 (i := 135) rfl, List.forall_mem_cons.mpr ⟨lwt_1 (i := 136) rfl, List.forall_mem_cons.mpr ⟨lwt_1 (i := 137) rfl, List.forall_mem_cons.mpr ⟨lwt_1 (i := 138) rfl, List.forall_mem_cons.mpr ⟨lwt_1 (i := 139) rfl, List.forall_mem_cons.mpr ⟨lwt_1 (i := 140) rfl, List.forall_mem_cons.mpr ⟨lwt_1 (i := 141) rfl, List.forall_mem_cons.mpr ⟨lwt_1 (i := 142) rfl, List.forall_mem_cons.mpr ⟨lwt_1 (i := 101) rfl, List.forall_mem_cons.mpr ⟨lwt_1 (i := 5) rfl, List.forall_mem_cons.mpr ⟨lwt_1 (i := 116) rfl, List.forall_mem_cons.mpr ⟨lwt_1 (i := 7) rfl, List.forall_mem_cons.mpr ⟨lwt_1 (i := 27) rfl, List.forall_mem_cons.mpr ⟨lwt_1 (i := 28) rfl, List.forall_mem_cons.mpr ⟨lwt_1 (i := 29) rfl, List.forall_mem_cons.mpr ⟨lwt_1 (i := 49) rfl, List.forall_mem_cons.mpr ⟨lwt_1 (i := 30) rfl, List.forall_mem_cons.mpr ⟨lwt_1 (i := 31) rfl, List.forall_mem_cons.mpr ⟨lwt_1 (i := 3) rfl, List.forall_mem_cons.mpr ⟨lwt_1 (i := 50) rfl, List.forall_mem_cons.mpr ⟨lwt_1 (i := 51) rfl, List.forall_mem_cons.mpr ⟨lwt_1 (i := 52) rfl, List.forall_mem_cons.mpr ⟨lwt_1 (i := 33) rfl, (fun _ h => absurd h List.not_mem_nil)⟩⟩⟩⟩⟩⟩⟩⟩⟩⟩⟩⟩⟩⟩⟩⟩⟩⟩⟩⟩⟩⟩⟩⟩
theorem wsg_2 : wsL_law_r2.all goodWord = true := by decide +kernel
set_option maxRecDepth 20000 in
theorem wsr_3 : ∀ w ∈ wsL_law_r3, w ∈ lw_tbl := List.forall_mem_cons.mpr ⟨lwt_1 (i := 34) rfl, List.forall_mem_cons.mpr ⟨lwt_1 (i := 35) rfl, List.forall_mem_cons.mpr ⟨lwt_1 (i := 36) rfl, List.forall_mem_cons.mpr ⟨lwt_1 (i := 38) rfl, List.forall_mem_cons.mpr ⟨lwt_1 (i := 39) rfl, List.forall_mem_cons.mpr ⟨lwt_1 (i := 65) rfl, List.forall_mem_cons.mpr ⟨lwt_1 (i := 66) rfl, List.forall_mem_cons.mpr ⟨lwt_1 (i := 67) rfl, List.forall_mem_cons.mpr ⟨lwt_1 (i := 70) rfl, List.forall_mem_cons.mpr ⟨lwt_1 (i := 71) rfl, List.forall_mem_cons.mpr ⟨lwt_1 (i := 72) rfl, List.forall_mem_cons.mpr ⟨lwt_1 (i := 73) rfl, List.forall_mem_cons.mpr ⟨lwt_1 (i := 74) rfl, List.forall_mem_cons.mpr ⟨lwt_1 (i := 68) rfl, List.forall_mem_cons.mpr ⟨lwt_1 (i := 75) rfl, List.forall_mem_cons.mpr ⟨lwt_1 (i := 76) rfl, List.forall_mem_cons.mpr ⟨lwt_1 (i := 77) rfl, List.forall_mem_cons.mpr ⟨lwt_1 (i := 78) rfl, List.forall_mem_cons.mpr ⟨lwt_1 (i := 79) rfl, List.forall_mem_cons.mpr ⟨lwt_1 (i := 102) rfl, List.forall_mem_cons.mpr ⟨lwt_1 (i := 103) rfl, List.forall_mem_cons.mpr ⟨lwt_1 (i := 104) rfl, List.forall_mem_cons.mpr ⟨lwt_1 (i := 105) rfl, List.forall_mem_cons.mpr ⟨lwt_1 (i := 109) rfl, (fun _ h => absurd h List.not_mem_nil)⟩⟩⟩⟩⟩⟩⟩⟩⟩⟩⟩⟩⟩⟩⟩⟩⟩⟩⟩⟩⟩⟩⟩⟩
theorem wsg_3 : wsL_law_r3.all goodWord = true := by decide +kernel
set_option maxRecDepth 20000 in
theorem wsr_4 : ∀ w ∈ wsL_law_r4, w ∈ lw_tbl := List.forall_mem_cons.mpr ⟨lwt_1 (i := 110) rfl, List.forall_mem_cons.mpr ⟨lwt_1 (i := 106) rfl, List.forall_mem_cons.mpr ⟨lwt_1 (i := 107) rfl, List.forall_mem_cons.mpr ⟨lwt_1 (i := 6) rfl, List.forall_mem_cons.mpr ⟨lwt_1 (i := 108) rfl, List.forall_mem_cons.mpr ⟨lwt_1 (i := 118) rfl, List.forall_mem_cons.mpr ⟨lwt_1 (i := 119) rfl, List.forall_mem_cons.mpr ⟨lwt_1 (i := 120) rfl, List.forall_mem_cons.mpr ⟨lwt_1 (i := 121) rfl, List.forall_mem_cons.mpr ⟨lwt_1 (i := 122) rfl, List.forall_mem_cons.mpr ⟨lwt_1 (i := 123) rfl, List.forall_mem_cons.mpr ⟨lwt_4 (i := 18) rfl, List.forall_mem_cons.mpr ⟨lwt_4 (i := 19) rfl, List.forall_mem_cons.mpr ⟨lwt_4 (i := 20) rfl, List.forall_mem_cons.mpr ⟨lwt_4 (i := 21) rfl, List.forall_mem_cons.mpr ⟨lwt_4 (i := 22) rfl, List.forall_mem_cons.mpr ⟨lwt_4 (i := 23) rfl, List.forall_mem_cons.mpr ⟨lwt_4 (i := 24) rfl, List.forall_mem_cons.mpr ⟨lwt_4 (i := 25) rfl, List.forall_mem_cons.mpr ⟨lwt_4 (i := 27) rfl, List.forall_mem_cons.mpr ⟨lwt_4 (i := 28) rfl, List.forall_mem_cons.mpr ⟨lwt_4 (i := 29) rfl, List.forall_mem_cons.mpr ⟨lwt_4 (i := 30) rfl, List.forall_mem_cons.mpr ⟨lwt_4 (i := 34) rfl, (fun _ h => absurd h List.not_mem_nil)⟩⟩⟩⟩⟩⟩⟩⟩⟩⟩⟩⟩⟩⟩⟩⟩⟩⟩⟩⟩⟩⟩⟩⟩
theorem wsg_4 : wsL_law_r4.all goodWord = true := by decide +kernel
set_option maxRecDepth 20000 in
theorem wsr_5 : ∀ w ∈ wsL_law_r5, w ∈ lw_tbl := List.forall_mem_cons.mpr ⟨lwt_4 (i := 35) rfl, List.forall_mem_cons.mpr ⟨lwt_4 (i := 36) rfl, List.forall_mem_cons.mpr ⟨lwt_4 (i := 37) rfl, List.forall_mem_cons.mpr ⟨lwt_4 (i := 38) rfl, List.forall_mem_cons.mpr ⟨lwt_4 (i := 43) rfl, List.forall_mem_cons.mpr ⟨lwt_1 (i := 168) rfl, List.forall_mem_cons.mpr ⟨lwt_1 (i := 169) rfl, List.forall_mem_cons.mpr ⟨lwt_1 (i := 170) rfl, List.forall_mem_cons.mpr ⟨lwt_1 (i := 171) rfl, List.forall_mem_cons.mpr ⟨lwt_1 (i := 172) rfl, List.forall_mem_cons.mpr ⟨lwt_1 (i := 174) rfl, List.forall_mem_cons.mpr ⟨lwp_1 (i := 0) (q := (⟨"ThirdFavour", "discOf", "(I)LThirdFavour$Disc;"⟩, 12)) rfl, List.forall_mem_cons.mpr ⟨lwt_1 (i := 175) rfl, List.forall_mem_cons.mpr ⟨lwt_1 (i := 176) rfl, List.forall_mem_cons.mpr ⟨lwt_1 (i := 177) rfl, List.forall_mem_cons.mpr ⟨lwt_1 (i := 178) rfl, List.forall_mem_cons.mpr ⟨lwt_1 (i := 179) rfl, List.forall_mem_cons.mpr ⟨lwt_1 (i := 180) rfl, List.forall_mem_cons.mpr ⟨lwt_1 (i := 181) rfl, List.forall_mem_cons.mpr ⟨lwt_1 (i := 182) rfl, List.forall_mem_cons.mpr ⟨lwt_1 (i := 183) rfl, List.forall_mem_cons.mpr ⟨lwt_1 (i := 184) rfl, List.forall_mem_cons.mpr ⟨lwt_1 (i := 185) rfl, List.forall_mem_cons.mpr ⟨lwt_1 (i := 186) rfl, (fun _ h => absurd h List.not_mem_nil)⟩⟩⟩⟩⟩⟩⟩⟩⟩⟩⟩⟩⟩⟩⟩⟩⟩⟩⟩⟩⟩⟩⟩⟩
theorem wsg_5 : wsL_law_r5.all goodWord = true := by decide +kernel
set_option maxRecDepth 20000 in
theorem wsr_6 : ∀ w ∈ wsL_law_r6, w ∈ lw_tbl := List.forall_mem_cons.mpr ⟨lwt_1 (i := 187) rfl, List.forall_mem_cons.mpr ⟨lwt_1 (i := 188) rfl, List.forall_mem_cons.mpr ⟨lwt_1 (i := 189) rfl, List.forall_mem_cons.mpr ⟨lwt_1 (i := 190) rfl, List.forall_mem_cons.mpr ⟨lwt_4 (i := 129) rfl, List.forall_mem_cons.mpr ⟨lwt_4 (i := 130) rfl, List.forall_mem_cons.mpr ⟨lwt_4 (i := 131) rfl, List.forall_mem_cons.mpr ⟨lwt_4 (i := 132) rfl, List.forall_mem_cons.mpr ⟨lwt_4 (i := 136) rfl, List.forall_mem_cons.mpr ⟨lwt_4 (i := 133) rfl, List.forall_mem_cons.mpr ⟨lwt_4 (i := 134) rfl, List.forall_mem_cons.mpr ⟨lwt_4 (i := 135) rfl, List.forall_mem_cons.mpr ⟨lwt_4 (i := 97) rfl, List.forall_mem_cons.mpr ⟨lwt_4 (i := 98) rfl, List.forall_mem_cons.mpr ⟨lwt_4 (i := 99) rfl, List.forall_mem_cons.mpr ⟨lwt_1 (i := 191) rfl, List.forall_mem_cons.mpr ⟨lwt_1 (i := 192) rfl, List.forall_mem_cons.mpr ⟨lwt_1 (i := 193) rfl, List.forall_mem_cons.mpr ⟨lwt_1 (i := 194) rfl, List.forall_mem_cons.mpr ⟨lwt_1 (i := 195) rfl, List.forall_mem_cons.mpr ⟨lwt_1 (i := 196) rfl, List.forall_mem_cons.mpr ⟨lwt_1 (i := 197) rfl, List.forall_mem_cons.mpr ⟨lwt_1 (i := 198) rfl, List.forall_mem_cons.mpr ⟨lwt_1 (i := 199) rfl, (fun _ h => absurd h List.not_mem_nil)⟩⟩⟩⟩⟩⟩⟩⟩⟩⟩⟩⟩⟩⟩⟩⟩⟩⟩⟩⟩⟩⟩⟩⟩
theorem wsg_6 : wsL_law_r6.all goodWord = true := by decide +kernel
set_option maxRecDepth 20000 in
theorem wsr_7 : ∀ w ∈ wsL_law_r7, w ∈ lw_tbl := List.forall_mem_cons.mpr ⟨lwt_1 (i := 200) rfl, List.forall_mem_cons.mpr ⟨lwt_1 (i := 201) rfl, List.forall_mem_cons.mpr ⟨lwt_1 (i := 202) rfl, List.forall_mem_cons.mpr ⟨lwt_1 (i := 203) rfl, List.forall_mem_cons.mpr ⟨lwt_1 (i := 204) rfl, List.forall_mem_cons.mpr ⟨lwt_1 (i := 205) rfl, List.forall_mem_cons.mpr ⟨lwt_1 (i := 206) rfl, List.forall_mem_cons.mpr ⟨lwt_1 (i := 207) rfl, List.forall_mem_cons.mpr ⟨lwt_1 (i := 208) rfl, List.forall_mem_cons.mpr ⟨lwt_1 (i := 209) rfl, List.forall_mem_cons.mpr ⟨lwt_1 (i := 210) rfl, List.forall_mem_cons.mpr ⟨lwt_4 (i := 137) rfl, List.forall_mem_cons.mpr ⟨lwt_4 (i := 138) rfl, List.forall_mem_cons.mpr ⟨lwt_4 (i := 139) rfl, List.forall_mem_cons.mpr ⟨lwt_4 (i := 140) rfl, List.forall_mem_cons.mpr ⟨lwt_4 (i := 141) rfl, List.forall_mem_cons.mpr ⟨lwt_4 (i := 142) rfl, List.forall_mem_cons.mpr ⟨lwt_1 (i := 211) rfl, List.forall_mem_cons.mpr ⟨lwt_1 (i := 212) rfl, List.forall_mem_cons.mpr ⟨lwt_1 (i := 213) rfl, List.forall_mem_cons.mpr ⟨lwt_1 (i := 214) rfl, List.forall_mem_cons.mpr ⟨lwt_1 (i := 215) rfl, List.forall_mem_cons.mpr ⟨lwt_1 (i := 216) rfl, List.forall_mem_cons.mpr ⟨lwt_1 (i := 217) rfl, (fun _ h => absurd h List.not_mem_nil)⟩⟩⟩⟩⟩⟩⟩⟩⟩⟩⟩⟩⟩⟩⟩⟩⟩⟩⟩⟩⟩⟩⟩⟩
theorem wsg_7 : wsL_law_r7.all goodWord = true := by decide +kernel
set_option maxRecDepth 20000 in
theorem wsr_8 : ∀ w ∈ wsL_law_r8, w ∈ lw_tbl := List.forall_mem_cons.mpr ⟨lwt_1 (i := 218) rfl, List.forall_mem_cons.mpr ⟨lwt_1 (i := 219) rfl, List.forall_mem_cons.mpr ⟨lwt_1 (i := 220) rfl, List.forall_mem_cons.mpr ⟨lwt_1 (i := 221) rfl, List.forall_mem_cons.mpr ⟨lwt_1 (i := 222) rfl, List.forall_mem_cons.mpr ⟨lwt_1 (i := 224) rfl, List.forall_mem_cons.mpr ⟨lwp_1 (i := 1) (q := (⟨"ThirdFavour$Slip", "readAnew", "()V"⟩, 4)) rfl, List.forall_mem_cons.mpr ⟨lwt_1 (i := 225) rfl, List.forall_mem_cons.mpr ⟨lwt_1 (i := 226) rfl, List.forall_mem_cons.mpr ⟨lwt_1 (i := 228) rfl, List.forall_mem_cons.mpr ⟨lwp_1 (i := 2) (q := (⟨"ThirdFavour$Slip", "findFault", "()I"⟩, 4)) rfl, List.forall_mem_cons.mpr ⟨lwt_1 (i := 229) rfl, List.forall_mem_cons.mpr ⟨lwt_1 (i := 230) rfl, List.forall_mem_cons.mpr ⟨lwt_1 (i := 232) rfl, List.forall_mem_cons.mpr ⟨lwp_1 (i := 3) (q := (⟨"ThirdFavour$Slip", "goesOnAt", "(I)Z"⟩, 4)) rfl, List.forall_mem_cons.mpr ⟨lwt_1 (i := 233) rfl, List.forall_mem_cons.mpr ⟨lwt_1 (i := 234) rfl, List.forall_mem_cons.mpr ⟨lwt_1 (i := 236) rfl, List.forall_mem_cons.mpr ⟨lwp_1 (i := 4) (q := (⟨"ThirdFavour$Slip", "minuteAt", "(I)I"⟩, 4)) rfl, List.forall_mem_cons.mpr ⟨lwt_1 (i := 237) rfl, List.forall_mem_cons.mpr ⟨lwt_1 (i := 238) rfl, List.forall_mem_cons.mpr ⟨lwt_2 (i := 0) rfl, List.forall_mem_cons.mpr ⟨lwp_1 (i := 5) (q := (⟨"ThirdFavour$Slip", "figureAt", "(I)I"⟩, 4)) rfl, List.forall_mem_cons.mpr ⟨lwt_2 (i := 1) rfl, (fun _ h => absurd h List.not_mem_nil)⟩⟩⟩⟩⟩⟩⟩⟩⟩⟩⟩⟩⟩⟩⟩⟩⟩⟩⟩⟩⟩⟩⟩⟩
theorem wsg_8 : wsL_law_r8.all goodWord = true := by decide +kernel
set_option maxRecDepth 20000 in
theorem wsr_9 : ∀ w ∈ wsL_law_r9, w ∈ lw_tbl := List.forall_mem_cons.mpr ⟨lwt_2 (i := 2) rfl, List.forall_mem_cons.mpr ⟨lwt_2 (i := 3) rfl, List.forall_mem_cons.mpr ⟨lwt_2 (i := 4) rfl, List.forall_mem_cons.mpr ⟨lwt_2 (i := 5) rfl, List.forall_mem_cons.mpr ⟨lwt_2 (i := 6) rfl, List.forall_mem_cons.mpr ⟨lwt_2 (i := 7) rfl, List.forall_mem_cons.mpr ⟨lwt_2 (i := 8) rfl, List.forall_mem_cons.mpr ⟨lwt_2 (i := 9) rfl, List.forall_mem_cons.mpr ⟨lwt_2 (i := 10) rfl, List.forall_mem_cons.mpr ⟨lwt_2 (i := 11) rfl, List.forall_mem_cons.mpr ⟨lwt_2 (i := 12) rfl, List.forall_mem_cons.mpr ⟨lwt_2 (i := 13) rfl, List.forall_mem_cons.mpr ⟨lwt_4 (i := 202) rfl, List.forall_mem_cons.mpr ⟨lwt_4 (i := 203) rfl, List.forall_mem_cons.mpr ⟨lwt_4 (i := 204) rfl, List.forall_mem_cons.mpr ⟨lwt_4 (i := 205) rfl, List.forall_mem_cons.mpr ⟨lwt_4 (i := 206) rfl, List.forall_mem_cons.mpr ⟨lwt_4 (i := 31) rfl, List.forall_mem_cons.mpr ⟨lwt_2 (i := 14) rfl, List.forall_mem_cons.mpr ⟨lwt_2 (i := 15) rfl, List.forall_mem_cons.mpr ⟨lwt_2 (i := 16) rfl, List.forall_mem_cons.mpr ⟨lwt_2 (i := 17) rfl, List.forall_mem_cons.mpr ⟨lwt_2 (i := 18) rfl, List.forall_mem_cons.mpr ⟨lwt_2 (i := 19) rfl, (fun _ h => absurd h List.not_mem_nil)⟩⟩⟩⟩⟩⟩⟩⟩⟩⟩⟩⟩⟩⟩⟩⟩⟩⟩⟩⟩⟩⟩⟩⟩
theorem wsg_9 : wsL_law_r9.all goodWord = true := by decide +kernel
set_option maxRecDepth 20000 in
theorem wsr_10 : ∀ w ∈ wsL_law_r10, w ∈ lw_tbl := List.forall_mem_cons.mpr ⟨lwt_2 (i := 20) rfl, List.forall_mem_cons.mpr ⟨lwt_2 (i := 21) rfl, List.forall_mem_cons.mpr ⟨lwt_4 (i := 207) rfl, List.forall_mem_cons.mpr ⟨lwt_4 (i := 208) rfl, List.forall_mem_cons.mpr ⟨lwt_4 (i := 209) rfl, List.forall_mem_cons.mpr ⟨lwt_4 (i := 210) rfl, List.forall_mem_cons.mpr ⟨lwt_2 (i := 22) rfl, List.forall_mem_cons.mpr ⟨lwt_2 (i := 23) rfl, List.forall_mem_cons.mpr ⟨lwt_2 (i := 24) rfl, List.forall_mem_cons.mpr ⟨lwt_2 (i := 25) rfl, List.forall_mem_cons.mpr ⟨lwt_2 (i := 26) rfl, List.forall_mem_cons.mpr ⟨lwt_2 (i := 27) rfl, List.forall_mem_cons.mpr ⟨lwt_2 (i := 28) rfl, List.forall_mem_cons.mpr ⟨lwt_2 (i := 29) rfl, List.forall_mem_cons.mpr ⟨lwt_4 (i := 211) rfl, List.forall_mem_cons.mpr ⟨lwt_4 (i := 212) rfl, List.forall_mem_cons.mpr ⟨lwt_4 (i := 213) rfl, List.forall_mem_cons.mpr ⟨lwt_4 (i := 214) rfl, List.forall_mem_cons.mpr ⟨lwt_4 (i := 215) rfl, List.forall_mem_cons.mpr ⟨lwt_4 (i := 217) rfl, List.forall_mem_cons.mpr ⟨lwp_3 (i := 10) (q := (⟨"ThirdFavourModel", "reads", "()I"⟩, 22)) rfl, List.forall_mem_cons.mpr ⟨lwt_4 (i := 218) rfl, List.forall_mem_cons.mpr ⟨lwt_4 (i := 32) rfl, List.forall_mem_cons.mpr ⟨lwt_4 (i := 33) rfl, (fun _ h => absurd h List.not_mem_nil)⟩⟩⟩⟩⟩⟩⟩⟩⟩⟩⟩⟩⟩⟩⟩⟩⟩⟩⟩⟩⟩⟩⟩⟩
theorem wsg_10 : wsL_law_r10.all goodWord = true := by decide +kernel
set_option maxRecDepth 20000 in
theorem wsr_11 : ∀ w ∈ wsL_law_r11, w ∈ lw_tbl := List.forall_mem_cons.mpr ⟨lwt_4 (i := 219) rfl, List.forall_mem_cons.mpr ⟨lwt_4 (i := 221) rfl, List.forall_mem_cons.mpr ⟨lwp_3 (i := 11) (q := (⟨"ThirdFavourModel", "readsPart", "()Z"⟩, 22)) rfl, List.forall_mem_cons.mpr ⟨lwt_4 (i := 222) rfl, List.forall_mem_cons.mpr ⟨lwt_4 (i := 223) rfl, List.forall_mem_cons.mpr ⟨lwt_4 (i := 225) rfl, List.forall_mem_cons.mpr ⟨lwp_3 (i := 12) (q := (⟨"ThirdFavourModel", "here", "()I"⟩, 22)) rfl, List.forall_mem_cons.mpr ⟨lwt_4 (i := 226) rfl, List.forall_mem_cons.mpr ⟨lwt_4 (i := 227) rfl, List.forall_mem_cons.mpr ⟨lwt_4 (i := 229) rfl, List.forall_mem_cons.mpr ⟨lwp_3 (i := 13) (q := (⟨"ThirdFavourModel", "none", "()I"⟩, 22)) rfl, List.forall_mem_cons.mpr ⟨lwt_4 (i := 230) rfl, List.forall_mem_cons.mpr ⟨lwt_2 (i := 30) rfl, List.forall_mem_cons.mpr ⟨lwt_2 (i := 31) rfl, List.forall_mem_cons.mpr ⟨lwt_2 (i := 32) rfl, List.forall_mem_cons.mpr ⟨lwt_2 (i := 33) rfl, List.forall_mem_cons.mpr ⟨lwt_2 (i := 34) rfl, List.forall_mem_cons.mpr ⟨lwt_2 (i := 35) rfl, List.forall_mem_cons.mpr ⟨lwt_2 (i := 36) rfl, List.forall_mem_cons.mpr ⟨lwt_2 (i := 37) rfl, List.forall_mem_cons.mpr ⟨lwt_2 (i := 38) rfl, List.forall_mem_cons.mpr ⟨lwt_2 (i := 39) rfl, List.forall_mem_cons.mpr ⟨lwt_2 (i := 40) rfl, List.forall_mem_cons.mpr ⟨lwt_2 (i := 41) rfl, (fun _ h => absurd h List.not_mem_nil)⟩⟩⟩⟩⟩⟩⟩⟩⟩⟩⟩⟩⟩⟩⟩⟩⟩⟩⟩⟩⟩⟩⟩⟩
theorem wsg_11 : wsL_law_r11.all goodWord = true := by decide +kernel
set_option maxRecDepth 20000 in
theorem wsr_12 : ∀ w ∈ wsL_law_r12, w ∈ lw_tbl := List.forall_mem_cons.mpr ⟨lwt_2 (i := 42) rfl, List.forall_mem_cons.mpr ⟨lwt_2 (i := 43) rfl, List.forall_mem_cons.mpr ⟨lwt_2 (i := 44) rfl, List.forall_mem_cons.mpr ⟨lwt_2 (i := 45) rfl, List.forall_mem_cons.mpr ⟨lwt_2 (i := 46) rfl, List.forall_mem_cons.mpr ⟨lwt_2 (i := 47) rfl, List.forall_mem_cons.mpr ⟨lwt_1 (i := 9) rfl, List.forall_mem_cons.mpr ⟨lwt_2 (i := 48) rfl, List.forall_mem_cons.mpr ⟨lwt_2 (i := 49) rfl, List.forall_mem_cons.mpr ⟨lwt_2 (i := 50) rfl, List.forall_mem_cons.mpr ⟨lwt_2 (i := 51) rfl, List.forall_mem_cons.mpr ⟨lwt_2 (i := 52) rfl, List.forall_mem_cons.mpr ⟨lwt_4 (i := 231) rfl, List.forall_mem_cons.mpr ⟨lwt_4 (i := 232) rfl, List.forall_mem_cons.mpr ⟨lwt_4 (i := 233) rfl, List.forall_mem_cons.mpr ⟨lwt_4 (i := 234) rfl, List.forall_mem_cons.mpr ⟨lwt_2 (i := 53) rfl, List.forall_mem_cons.mpr ⟨lwt_2 (i := 54) rfl, List.forall_mem_cons.mpr ⟨lwt_2 (i := 55) rfl, List.forall_mem_cons.mpr ⟨lwt_2 (i := 56) rfl, List.forall_mem_cons.mpr ⟨lwt_2 (i := 57) rfl, List.forall_mem_cons.mpr ⟨lwt_2 (i := 59) rfl, List.forall_mem_cons.mpr ⟨lwp_1 (i := 6) (q := (⟨"ThirdFavour", "setKick", "(I)I"⟩, 12)) rfl, List.forall_mem_cons.mpr ⟨lwt_2 (i := 60) rfl, (fun _ h => absurd h List.not_mem_nil)⟩⟩⟩⟩⟩⟩⟩⟩⟩⟩⟩⟩⟩⟩⟩⟩⟩⟩⟩⟩⟩⟩⟩⟩
theorem wsg_12 : wsL_law_r12.all goodWord = true := by decide +kernel
set_option maxRecDepth 20000 in
theorem wsr_13 : ∀ w ∈ wsL_law_r13, w ∈ lw_tbl := List.forall_mem_cons.mpr ⟨lwt_2 (i := 61) rfl, List.forall_mem_cons.mpr ⟨lwt_2 (i := 63) rfl, List.forall_mem_cons.mpr ⟨lwp_1 (i := 7) (q := (⟨"ThirdFavour", "setLaw", "(I)I"⟩, 12)) rfl, List.forall_mem_cons.mpr ⟨lwt_2 (i := 64) rfl, List.forall_mem_cons.mpr ⟨lwt_2 (i := 65) rfl, List.forall_mem_cons.mpr ⟨lwt_2 (i := 66) rfl, List.forall_mem_cons.mpr ⟨lwt_2 (i := 67) rfl, List.forall_mem_cons.mpr ⟨lwt_2 (i := 68) rfl, List.forall_mem_cons.mpr ⟨lwt_2 (i := 70) rfl, List.forall_mem_cons.mpr ⟨lwp_1 (i := 8) (q := (⟨"ThirdFavour", "setLife", "(I)I"⟩, 12)) rfl, List.forall_mem_cons.mpr ⟨lwt_2 (i := 71) rfl, List.forall_mem_cons.mpr ⟨lwt_2 (i := 72) rfl, List.forall_mem_cons.mpr ⟨lwt_2 (i := 74) rfl, List.forall_mem_cons.mpr ⟨lwp_1 (i := 9) (q := (⟨"ThirdFavour", "setPatience", "(I)I"⟩, 12)) rfl, List.forall_mem_cons.mpr ⟨lwt_2 (i := 75) rfl, List.forall_mem_cons.mpr ⟨lwt_4 (i := 143) rfl, List.forall_mem_cons.mpr ⟨lwt_4 (i := 144) rfl, List.forall_mem_cons.mpr ⟨lwt_4 (i := 145) rfl, List.forall_mem_cons.mpr ⟨lwt_4 (i := 146) rfl, List.forall_mem_cons.mpr ⟨lwt_4 (i := 96) rfl, List.forall_mem_cons.mpr ⟨lwt_4 (i := 147) rfl, List.forall_mem_cons.mpr ⟨lwt_4 (i := 148) rfl, List.forall_mem_cons.mpr ⟨lwt_4 (i := 149) rfl, List.forall_mem_cons.mpr ⟨lwt_2 (i := 76) rfl, (fun _ h => absurd h List.not_mem_nil)⟩⟩⟩⟩⟩⟩⟩⟩⟩⟩⟩⟩⟩⟩⟩⟩⟩⟩⟩⟩⟩⟩⟩⟩
theorem wsg_13 : wsL_law_r13.all goodWord = true := by decide +kernel
set_option maxRecDepth 20000 in
theorem wsr_14 : ∀ w ∈ wsL_law_r14, w ∈ lw_tbl := List.forall_mem_cons.mpr ⟨lwt_2 (i := 77) rfl, List.forall_mem_cons.mpr ⟨lwt_2 (i := 78) rfl, List.forall_mem_cons.mpr ⟨lwt_2 (i := 79) rfl, List.forall_mem_cons.mpr ⟨lwt_2 (i := 80) rfl, List.forall_mem_cons.mpr ⟨lwt_2 (i := 82) rfl, List.forall_mem_cons.mpr ⟨lwp_1 (i := 10) (q := (⟨"ThirdFavour", "sheetOf", "(I)LThirdFavour$Sheet;"⟩, 12)) rfl, List.forall_mem_cons.mpr ⟨lwt_2 (i := 83) rfl, List.forall_mem_cons.mpr ⟨lwt_2 (i := 84) rfl, List.forall_mem_cons.mpr ⟨lwt_2 (i := 85) rfl, List.forall_mem_cons.mpr ⟨lwt_2 (i := 86) rfl, List.forall_mem_cons.mpr ⟨lwt_2 (i := 87) rfl, List.forall_mem_cons.mpr ⟨lwt_2 (i := 88) rfl, List.forall_mem_cons.mpr ⟨lwt_2 (i := 90) rfl, List.forall_mem_cons.mpr ⟨lwp_1 (i := 11) (q := (⟨"ThirdFavour", "finding", "(I)I"⟩, 12)) rfl, List.forall_mem_cons.mpr ⟨lwt_2 (i := 91) rfl, List.forall_mem_cons.mpr ⟨lwt_2 (i := 92) rfl, List.forall_mem_cons.mpr ⟨lwt_2 (i := 93) rfl, List.forall_mem_cons.mpr ⟨lwt_2 (i := 94) rfl, List.forall_mem_cons.mpr ⟨lwt_2 (i := 95) rfl, List.forall_mem_cons.mpr ⟨lwt_2 (i := 96) rfl, List.forall_mem_cons.mpr ⟨lwt_2 (i := 97) rfl, List.forall_mem_cons.mpr ⟨lwt_2 (i := 98) rfl, List.forall_mem_cons.mpr ⟨lwt_2 (i := 99) rfl, List.forall_mem_cons.mpr ⟨lwt_2 (i := 100) rfl, (fun _ h => absurd h List.not_mem_nil)⟩⟩⟩⟩⟩⟩⟩⟩⟩⟩⟩⟩⟩⟩⟩⟩⟩⟩⟩⟩⟩⟩⟩⟩
theorem wsg_14 : wsL_law_r14.all goodWord = true := by decide +kernel
set_option maxRecDepth 20000 in
theorem wsr_15 : ∀ w ∈ wsL_law_r15, w ∈ lw_tbl := List.forall_mem_cons.mpr ⟨lwt_4 (i := 150) rfl, List.forall_mem_cons.mpr ⟨lwt_4 (i := 151) rfl, List.forall_mem_cons.mpr ⟨lwt_4 (i := 152) rfl, List.forall_mem_cons.mpr ⟨lwt_4 (i := 153) rfl, List.forall_mem_cons.mpr ⟨lwt_4 (i := 93) rfl, List.forall_mem_cons.mpr ⟨lwt_4 (i := 94) rfl, List.forall_mem_cons.mpr ⟨lwt_4 (i := 95) rfl, List.forall_mem_cons.mpr ⟨lwt_4 (i := 101) rfl, List.forall_mem_cons.mpr ⟨lwt_4 (i := 103) rfl, List.forall_mem_cons.mpr ⟨lwp_3 (i := 2) (q := (⟨"ThirdFavourModel", "met", "(I)I"⟩, 22)) rfl, List.forall_mem_cons.mpr ⟨lwt_4 (i := 104) rfl, List.forall_mem_cons.mpr ⟨lwt_4 (i := 26) rfl, List.forall_mem_cons.mpr ⟨lwt_4 (i := 154) rfl, List.forall_mem_cons.mpr ⟨lwt_2 (i := 101) rfl, List.forall_mem_cons.mpr ⟨lwt_2 (i := 102) rfl, List.forall_mem_cons.mpr ⟨lwt_2 (i := 103) rfl, List.forall_mem_cons.mpr ⟨lwt_2 (i := 104) rfl, List.forall_mem_cons.mpr ⟨lwt_2 (i := 105) rfl, List.forall_mem_cons.mpr ⟨lwt_2 (i := 106) rfl, List.forall_mem_cons.mpr ⟨lwt_2 (i := 107) rfl, List.forall_mem_cons.mpr ⟨lwt_2 (i := 108) rfl, List.forall_mem_cons.mpr ⟨lwt_2 (i := 109) rfl, List.forall_mem_cons.mpr ⟨lwt_2 (i := 111) rfl, List.forall_mem_cons.mpr ⟨lwp_1 (i := 12) (q := (⟨"ThirdFavour$Disc", "following", "(II)I"⟩, 2)) rfl, (fun _ h => absurd h List.not_mem_nil)⟩⟩⟩⟩⟩⟩⟩⟩⟩⟩⟩⟩⟩⟩⟩⟩⟩⟩⟩⟩⟩⟩⟩⟩
theorem wsg_15 : wsL_law_r15.all goodWord = true := by decide +kernel
set_option maxRecDepth 20000 in
theorem wsr_16 : ∀ w ∈ wsL_law_r16, w ∈ lw_tbl := List.forall_mem_cons.mpr ⟨lwt_2 (i := 112) rfl, List.forall_mem_cons.mpr ⟨lwt_4 (i := 155) rfl, List.forall_mem_cons.mpr ⟨lwt_4 (i := 156) rfl, List.forall_mem_cons.mpr ⟨lwt_4 (i := 157) rfl, List.forall_mem_cons.mpr ⟨lwt_4 (i := 158) rfl, List.forall_mem_cons.mpr ⟨lwt_4 (i := 159) rfl, List.forall_mem_cons.mpr ⟨lwt_4 (i := 161) rfl, List.forall_mem_cons.mpr ⟨lwp_3 (i := 4) (q := (⟨"ThirdFavourModel", "playsOf", "(I)I"⟩, 22)) rfl, List.forall_mem_cons.mpr ⟨lwt_4 (i := 162) rfl, List.forall_mem_cons.mpr ⟨lwt_4 (i := 163) rfl, List.forall_mem_cons.mpr ⟨lwt_4 (i := 165) rfl, List.forall_mem_cons.mpr ⟨lwp_3 (i := 5) (q := (⟨"ThirdFavourModel", "goes", "(II)I"⟩, 22)) rfl, List.forall_mem_cons.mpr ⟨lwt_4 (i := 166) rfl, List.forall_mem_cons.mpr ⟨lwt_4 (i := 167) rfl, List.forall_mem_cons.mpr ⟨lwt_4 (i := 169) rfl, List.forall_mem_cons.mpr ⟨lwp_3 (i := 6) (q := (⟨"ThirdFavourModel", "onFrom", "(III)I"⟩, 22)) rfl, List.forall_mem_cons.mpr ⟨lwt_4 (i := 170) rfl, List.forall_mem_cons.mpr ⟨lwt_2 (i := 113) rfl, List.forall_mem_cons.mpr ⟨lwt_2 (i := 114) rfl, List.forall_mem_cons.mpr ⟨lwt_2 (i := 115) rfl, List.forall_mem_cons.mpr ⟨lwt_2 (i := 116) rfl, List.forall_mem_cons.mpr ⟨lwt_2 (i := 117) rfl, List.forall_mem_cons.mpr ⟨lwt_2 (i := 118) rfl, List.forall_mem_cons.mpr ⟨lwt_2 (i := 119) rfl, (fun _ h => absurd h List.not_mem_nil)⟩⟩⟩⟩⟩⟩⟩⟩⟩⟩⟩⟩⟩⟩⟩⟩⟩⟩⟩⟩⟩⟩⟩⟩
theorem wsg_16 : wsL_law_r16.all goodWord = true := by decide +kernel
set_option maxRecDepth 20000 in
theorem wsr_17 : ∀ w ∈ wsL_law_r17, w ∈ lw_tbl := List.forall_mem_cons.mpr ⟨lwt_2 (i := 120) rfl, List.forall_mem_cons.mpr ⟨lwt_2 (i := 121) rfl, List.forall_mem_cons.mpr ⟨lwt_2 (i := 122) rfl, List.forall_mem_cons.mpr ⟨lwt_2 (i := 124) rfl, List.forall_mem_cons.mpr ⟨lwp_1 (i := 13) (q := (⟨"ThirdFavour$Disc", "arrivesAt", "(II)I"⟩, 2)) rfl, List.forall_mem_cons.mpr ⟨lwt_2 (i := 125) rfl, List.forall_mem_cons.mpr ⟨lwt_4 (i := 171) rfl, List.forall_mem_cons.mpr ⟨lwt_4 (i := 172) rfl, List.forall_mem_cons.mpr ⟨lwt_4 (i := 173) rfl, List.forall_mem_cons.mpr ⟨lwt_4 (i := 174) rfl, List.forall_mem_cons.mpr ⟨lwt_4 (i := 175) rfl, List.forall_mem_cons.mpr ⟨lwt_4 (i := 176) rfl, List.forall_mem_cons.mpr ⟨lwt_4 (i := 178) rfl, List.forall_mem_cons.mpr ⟨lwp_3 (i := 7) (q := (⟨"ThirdFavourModel", "grooveOf", "(II)I"⟩, 22)) rfl, List.forall_mem_cons.mpr ⟨lwt_4 (i := 179) rfl, List.forall_mem_cons.mpr ⟨lwt_2 (i := 126) rfl, List.forall_mem_cons.mpr ⟨lwt_2 (i := 127) rfl, List.forall_mem_cons.mpr ⟨lwt_2 (i := 128) rfl, List.forall_mem_cons.mpr ⟨lwt_2 (i := 129) rfl, List.forall_mem_cons.mpr ⟨lwt_2 (i := 130) rfl, List.forall_mem_cons.mpr ⟨lwt_2 (i := 131) rfl, List.forall_mem_cons.mpr ⟨lwt_2 (i := 132) rfl, List.forall_mem_cons.mpr ⟨lwt_2 (i := 133) rfl, List.forall_mem_cons.mpr ⟨lwt_2 (i := 134) rfl, (fun _ h => absurd h List.not_mem_nil)⟩⟩⟩⟩⟩⟩⟩⟩⟩⟩⟩⟩⟩⟩⟩⟩⟩⟩⟩⟩⟩⟩⟩⟩
theorem wsg_17 : wsL_law_r17.all goodWord = true := by decide +kernel
set_option maxRecDepth 20000 in
theorem wsr_18 : ∀ w ∈ wsL_law_r18, w ∈ lw_tbl := List.forall_mem_cons.mpr ⟨lwt_2 (i := 136) rfl, List.forall_mem_cons.mpr ⟨lwp_1 (i := 14) (q := (⟨"ThirdFavour$Disc", "goesRoundWithout", "(I)Z"⟩, 2)) rfl, List.forall_mem_cons.mpr ⟨lwt_2 (i := 137) rfl, List.forall_mem_cons.mpr ⟨lwt_4 (i := 180) rfl, List.forall_mem_cons.mpr ⟨lwt_4 (i := 181) rfl, List.forall_mem_cons.mpr ⟨lwt_4 (i := 182) rfl, List.forall_mem_cons.mpr ⟨lwt_4 (i := 183) rfl, List.forall_mem_cons.mpr ⟨lwt_4 (i := 184) rfl, List.forall_mem_cons.mpr ⟨lwt_4 (i := 186) rfl, List.forall_mem_cons.mpr ⟨lwp_3 (i := 8) (q := (⟨"ThirdFavourModel", "loopsOf", "(I)I"⟩, 22)) rfl, List.forall_mem_cons.mpr ⟨lwt_4 (i := 187) rfl, List.forall_mem_cons.mpr ⟨lwt_2 (i := 138) rfl, List.forall_mem_cons.mpr ⟨lwt_2 (i := 139) rfl, List.forall_mem_cons.mpr ⟨lwt_2 (i := 140) rfl, List.forall_mem_cons.mpr ⟨lwt_2 (i := 141) rfl, List.forall_mem_cons.mpr ⟨lwt_2 (i := 142) rfl, List.forall_mem_cons.mpr ⟨lwt_2 (i := 143) rfl, List.forall_mem_cons.mpr ⟨lwt_2 (i := 144) rfl, List.forall_mem_cons.mpr ⟨lwt_2 (i := 145) rfl, List.forall_mem_cons.mpr ⟨lwt_2 (i := 146) rfl, List.forall_mem_cons.mpr ⟨lwt_2 (i := 148) rfl, List.forall_mem_cons.mpr ⟨lwp_1 (i := 15) (q := (⟨"ThirdFavour$Disc", "scratchedBits", "()I"⟩, 2)) rfl, List.forall_mem_cons.mpr ⟨lwt_2 (i := 149) rfl, List.forall_mem_cons.mpr ⟨lwt_2 (i := 150) rfl, (fun _ h => absurd h List.not_mem_nil)⟩⟩⟩⟩⟩⟩⟩⟩⟩⟩⟩⟩⟩⟩⟩⟩⟩⟩⟩⟩⟩⟩⟩⟩
theorem wsg_18 : wsL_law_r18.all goodWord = true := by decide +kernel
set_option maxRecDepth 20000 in
theorem wsr_19 : ∀ w ∈ wsL_law_r19, w ∈ lw_tbl := List.forall_mem_cons.mpr ⟨lwt_2 (i := 151) rfl, List.forall_mem_cons.mpr ⟨lwt_1 (i := 10) rfl, List.forall_mem_cons.mpr ⟨lwt_2 (i := 152) rfl, List.forall_mem_cons.mpr ⟨lwt_2 (i := 153) rfl, List.forall_mem_cons.mpr ⟨lwt_2 (i := 154) rfl, List.forall_mem_cons.mpr ⟨lwt_2 (i := 155) rfl, List.forall_mem_cons.mpr ⟨lwt_2 (i := 156) rfl, List.forall_mem_cons.mpr ⟨lwt_4 (i := 188) rfl, List.forall_mem_cons.mpr ⟨lwt_4 (i := 189) rfl, List.forall_mem_cons.mpr ⟨lwt_4 (i := 190) rfl, List.forall_mem_cons.mpr ⟨lwt_4 (i := 191) rfl, List.forall_mem_cons.mpr ⟨lwt_4 (i := 192) rfl, List.forall_mem_cons.mpr ⟨lwt_4 (i := 193) rfl, List.forall_mem_cons.mpr ⟨lwt_4 (i := 194) rfl, List.forall_mem_cons.mpr ⟨lwt_4 (i := 195) rfl, List.forall_mem_cons.mpr ⟨lwt_4 (i := 197) rfl, List.forall_mem_cons.mpr ⟨lwp_3 (i := 9) (q := (⟨"ThirdFavourModel", "waxOf", "(II)I"⟩, 22)) rfl, List.forall_mem_cons.mpr ⟨lwt_4 (i := 198) rfl, List.forall_mem_cons.mpr ⟨lwt_4 (i := 199) rfl, List.forall_mem_cons.mpr ⟨lwt_4 (i := 200) rfl, List.forall_mem_cons.mpr ⟨lwt_4 (i := 201) rfl, List.forall_mem_cons.mpr ⟨lwt_2 (i := 157) rfl, List.forall_mem_cons.mpr ⟨lwt_2 (i := 158) rfl, List.forall_mem_cons.mpr ⟨lwt_2 (i := 159) rfl, (fun _ h => absurd h List.not_mem_nil)⟩⟩⟩⟩⟩⟩⟩⟩⟩⟩⟩⟩⟩⟩⟩⟩⟩⟩⟩⟩⟩⟩⟩⟩
theorem wsg_19 : wsL_law_r19.all goodWord = true := by decide +kernel
set_option maxRecDepth 20000 in
theorem wsr_20 : ∀ w ∈ wsL_law_r20, w ∈ lw_tbl := List.forall_mem_cons.mpr ⟨lwt_2 (i := 160) rfl, List.forall_mem_cons.mpr ⟨lwt_2 (i := 161) rfl, List.forall_mem_cons.mpr ⟨lwt_2 (i := 162) rfl, List.forall_mem_cons.mpr ⟨lwt_2 (i := 163) rfl, List.forall_mem_cons.mpr ⟨lwt_2 (i := 164) rfl, List.forall_mem_cons.mpr ⟨lwt_2 (i := 165) rfl, List.forall_mem_cons.mpr ⟨lwt_2 (i := 166) rfl, List.forall_mem_cons.mpr ⟨lwt_2 (i := 167) rfl, List.forall_mem_cons.mpr ⟨lwt_2 (i := 168) rfl, List.forall_mem_cons.mpr ⟨lwt_2 (i := 169) rfl, List.forall_mem_cons.mpr ⟨lwt_2 (i := 170) rfl, List.forall_mem_cons.mpr ⟨lwt_2 (i := 171) rfl, List.forall_mem_cons.mpr ⟨lwt_2 (i := 172) rfl, List.forall_mem_cons.mpr ⟨lwt_4 (i := 235) rfl, List.forall_mem_cons.mpr ⟨lwt_4 (i := 236) rfl, List.forall_mem_cons.mpr ⟨lwt_4 (i := 237) rfl, List.forall_mem_cons.mpr ⟨lwt_4 (i := 238) rfl, List.forall_mem_cons.mpr ⟨lwt_4 (i := 239) rfl, List.forall_mem_cons.mpr ⟨lwt_5 (i := 1) rfl, List.forall_mem_cons.mpr ⟨lwp_3 (i := 14) (q := (⟨"ThirdFavourModel", "isCoin", "(I)Z"⟩, 22)) rfl, List.forall_mem_cons.mpr ⟨lwt_5 (i := 2) rfl, List.forall_mem_cons.mpr ⟨lwt_2 (i := 173) rfl, List.forall_mem_cons.mpr ⟨lwt_2 (i := 174) rfl, List.forall_mem_cons.mpr ⟨lwt_2 (i := 175) rfl, (fun _ h => absurd h List.not_mem_nil)⟩⟩⟩⟩⟩⟩⟩⟩⟩⟩⟩⟩⟩⟩⟩⟩⟩⟩⟩⟩⟩⟩⟩⟩
theorem wsg_20 : wsL_law_r20.all goodWord = true := by decide +kernel
set_option maxRecDepth 20000 in
theorem wsr_21 : ∀ w ∈ wsL_law_r21, w ∈ lw_tbl := List.forall_mem_cons.mpr ⟨lwt_2 (i := 176) rfl, List.forall_mem_cons.mpr ⟨lwt_2 (i := 177) rfl, List.forall_mem_cons.mpr ⟨lwt_2 (i := 178) rfl, List.forall_mem_cons.mpr ⟨lwt_2 (i := 179) rfl, List.forall_mem_cons.mpr ⟨lwt_2 (i := 180) rfl, List.forall_mem_cons.mpr ⟨lwt_2 (i := 182) rfl, List.forall_mem_cons.mpr ⟨lwp_2 (i := 0) (q := (⟨"ThirdFavour", "passNight", "(I)V"⟩, 12)) rfl, List.forall_mem_cons.mpr ⟨lwt_2 (i := 183) rfl, List.forall_mem_cons.mpr ⟨lwt_2 (i := 184) rfl, List.forall_mem_cons.mpr ⟨lwt_2 (i := 186) rfl, List.forall_mem_cons.mpr ⟨lwp_2 (i := 1) (q := (⟨"ThirdFavour", "measureDiscs", "()V"⟩, 12)) rfl, List.forall_mem_cons.mpr ⟨lwt_2 (i := 187) rfl, List.forall_mem_cons.mpr ⟨lwt_2 (i := 188) rfl, List.forall_mem_cons.mpr ⟨lwt_2 (i := 189) rfl, List.forall_mem_cons.mpr ⟨lwt_2 (i := 190) rfl, List.forall_mem_cons.mpr ⟨lwt_2 (i := 191) rfl, List.forall_mem_cons.mpr ⟨lwt_2 (i := 193) rfl, List.forall_mem_cons.mpr ⟨lwt_2 (i := 194) rfl, List.forall_mem_cons.mpr ⟨lwt_2 (i := 195) rfl, List.forall_mem_cons.mpr ⟨lwt_2 (i := 196) rfl, List.forall_mem_cons.mpr ⟨lwt_2 (i := 197) rfl, List.forall_mem_cons.mpr ⟨lwt_2 (i := 198) rfl, List.forall_mem_cons.mpr ⟨lwt_2 (i := 199) rfl, List.forall_mem_cons.mpr ⟨lwt_2 (i := 200) rfl, (fun _ h => absurd h List.not_mem_nil)⟩⟩⟩⟩⟩⟩⟩⟩⟩⟩⟩⟩⟩⟩⟩⟩⟩⟩⟩⟩⟩⟩⟩⟩
theorem wsg_21 : wsL_law_r21.all goodWord = true := by decide +kernel
set_option maxRecDepth 20000 in
theorem wsr_22 : ∀ w ∈ wsL_law_r22, w ∈ lw_tbl := List.forall_mem_cons.mpr ⟨lwt_2 (i := 201) rfl, List.forall_mem_cons.mpr ⟨lwt_2 (i := 203) rfl, List.forall_mem_cons.mpr ⟨lwt_2 (i := 202) rfl, List.forall_mem_cons.mpr ⟨lwt_1 (i := 11) rfl, List.forall_mem_cons.mpr ⟨lwt_2 (i := 204) rfl, List.forall_mem_cons.mpr ⟨lwt_2 (i := 205) rfl, List.forall_mem_cons.mpr ⟨lwt_2 (i := 206) rfl, List.forall_mem_cons.mpr ⟨lwt_2 (i := 207) rfl, List.forall_mem_cons.mpr ⟨lwt_2 (i := 223) rfl, List.forall_mem_cons.mpr ⟨lwt_2 (i := 208) rfl, List.forall_mem_cons.mpr ⟨lwt_2 (i := 210) rfl, List.forall_mem_cons.mpr ⟨lwp_2 (i := 2) (q := (⟨"ThirdFavour$Night", "begin", "()V"⟩, 10)) rfl, List.forall_mem_cons.mpr ⟨lwt_2 (i := 211) rfl, List.forall_mem_cons.mpr ⟨lwt_2 (i := 212) rfl, List.forall_mem_cons.mpr ⟨lwt_2 (i := 213) rfl, List.forall_mem_cons.mpr ⟨lwt_2 (i := 214) rfl, List.forall_mem_cons.mpr ⟨lwt_2 (i := 216) rfl, List.forall_mem_cons.mpr ⟨lwp_2 (i := 3) (q := (⟨"ThirdFavour$Night", "firstLeft", "()I"⟩, 10)) rfl, List.forall_mem_cons.mpr ⟨lwt_2 (i := 217) rfl, List.forall_mem_cons.mpr ⟨lwt_2 (i := 218) rfl, List.forall_mem_cons.mpr ⟨lwt_2 (i := 219) rfl, List.forall_mem_cons.mpr ⟨lwt_2 (i := 220) rfl, List.forall_mem_cons.mpr ⟨lwt_2 (i := 221) rfl, List.forall_mem_cons.mpr ⟨lwt_2 (i := 222) rfl, (fun _ h => absurd h List.not_mem_nil)⟩⟩⟩⟩⟩⟩⟩⟩⟩⟩⟩⟩⟩⟩⟩⟩⟩⟩⟩⟩⟩⟩⟩⟩
theorem wsg_22 : wsL_law_r22.all goodWord = true := by decide +kernel
set_option maxRecDepth 20000 in
theorem wsr_23 : ∀ w ∈ wsL_law_r23, w ∈ lw_tbl := List.forall_mem_cons.mpr ⟨lwt_2 (i := 224) rfl, List.forall_mem_cons.mpr ⟨lwt_2 (i := 226) rfl, List.forall_mem_cons.mpr ⟨lwp_2 (i := 4) (q := (⟨"ThirdFavour$Night", "firstOfMostAsked", "(II)I"⟩, 10)) rfl, List.forall_mem_cons.mpr ⟨lwt_2 (i := 227) rfl, List.forall_mem_cons.mpr ⟨lwt_2 (i := 228) rfl, List.forall_mem_cons.mpr ⟨lwt_2 (i := 229) rfl, List.forall_mem_cons.mpr ⟨lwt_2 (i := 231) rfl, List.forall_mem_cons.mpr ⟨lwp_2 (i := 5) (q := (⟨"ThirdFavour$Night", "waits", "(II)Z"⟩, 10)) rfl, List.forall_mem_cons.mpr ⟨lwt_2 (i := 232) rfl, List.forall_mem_cons.mpr ⟨lwt_2 (i := 233) rfl, List.forall_mem_cons.mpr ⟨lwt_2 (i := 235) rfl, List.forall_mem_cons.mpr ⟨lwp_2 (i := 6) (q := (⟨"ThirdFavour$Night", "latestAsked", "(II)I"⟩, 10)) rfl, List.forall_mem_cons.mpr ⟨lwt_2 (i := 236) rfl, List.forall_mem_cons.mpr ⟨lwt_2 (i := 237) rfl, List.forall_mem_cons.mpr ⟨lwt_2 (i := 239) rfl, List.forall_mem_cons.mpr ⟨lwp_2 (i := 7) (q := (⟨"ThirdFavour$Night", "serve", "(IIII)I"⟩, 10)) rfl, List.forall_mem_cons.mpr ⟨lwt_3 (i := 0) rfl, List.forall_mem_cons.mpr ⟨lwt_3 (i := 1) rfl, List.forall_mem_cons.mpr ⟨lwt_3 (i := 2) rfl, List.forall_mem_cons.mpr ⟨lwt_3 (i := 3) rfl, List.forall_mem_cons.mpr ⟨lwt_3 (i := 4) rfl, List.forall_mem_cons.mpr ⟨lwt_3 (i := 5) rfl, List.forall_mem_cons.mpr ⟨lwt_3 (i := 6) rfl, List.forall_mem_cons.mpr ⟨lwt_3 (i := 7) rfl, (fun _ h => absurd h List.not_mem_nil)⟩⟩⟩⟩⟩⟩⟩⟩⟩⟩⟩⟩⟩⟩⟩⟩⟩⟩⟩⟩⟩⟩⟩⟩
theorem wsg_23 : wsL_law_r23.all goodWord = true := by decide +kernel
set_option maxRecDepth 20000 in
theorem wsr_24 : ∀ w ∈ wsL_law_r24, w ∈ lw_tbl := List.forall_mem_cons.mpr ⟨lwt_3 (i := 8) rfl, List.forall_mem_cons.mpr ⟨lwt_3 (i := 9) rfl, List.forall_mem_cons.mpr ⟨lwt_5 (i := 3) rfl, List.forall_mem_cons.mpr ⟨lwt_5 (i := 4) rfl, List.forall_mem_cons.mpr ⟨lwt_5 (i := 5) rfl, List.forall_mem_cons.mpr ⟨lwt_5 (i := 6) rfl, List.forall_mem_cons.mpr ⟨lwt_5 (i := 7) rfl, List.forall_mem_cons.mpr ⟨lwt_5 (i := 8) rfl, List.forall_mem_cons.mpr ⟨lwt_5 (i := 10) rfl, List.forall_mem_cons.mpr ⟨lwp_3 (i := 15) (q := (⟨"ThirdFavourModel", "nightNow", "()V"⟩, 22)) rfl, List.forall_mem_cons.mpr ⟨lwt_5 (i := 11) rfl, List.forall_mem_cons.mpr ⟨lwt_5 (i := 12) rfl, List.forall_mem_cons.mpr ⟨lwt_5 (i := 14) rfl, List.forall_mem_cons.mpr ⟨lwp_4 (i := 0) (q := (⟨"ThirdFavourModel", "runs", "(I)V"⟩, 22)) rfl, List.forall_mem_cons.mpr ⟨lwt_5 (i := 15) rfl, List.forall_mem_cons.mpr ⟨lwt_4 (i := 39) rfl, List.forall_mem_cons.mpr ⟨lwt_4 (i := 40) rfl, List.forall_mem_cons.mpr ⟨lwt_4 (i := 41) rfl, List.forall_mem_cons.mpr ⟨lwt_5 (i := 16) rfl, List.forall_mem_cons.mpr ⟨lwt_5 (i := 18) rfl, List.forall_mem_cons.mpr ⟨lwp_4 (i := 1) (q := (⟨"ThirdFavourModel", "chooses", "(II)I"⟩, 22)) rfl, List.forall_mem_cons.mpr ⟨lwt_5 (i := 19) rfl, List.forall_mem_cons.mpr ⟨lwt_5 (i := 20) rfl, List.forall_mem_cons.mpr ⟨lwt_5 (i := 22) rfl, (fun _ h => absurd h List.not_mem_nil)⟩⟩⟩⟩⟩⟩⟩⟩⟩⟩⟩⟩⟩⟩⟩⟩⟩⟩⟩⟩⟩⟩⟩⟩
theorem wsg_24 : wsL_law_r24.all goodWord = true := by decide +kernel
set_option maxRecDepth 20000 in
theorem wsr_25 : ∀ w ∈ wsL_law_r25, w ∈ lw_tbl := List.forall_mem_cons.mpr ⟨lwp_4 (i := 2) (q := (⟨"ThirdFavourModel", "mostAsked", "(I)I"⟩, 22)) rfl, List.forall_mem_cons.mpr ⟨lwt_5 (i := 23) rfl, List.forall_mem_cons.mpr ⟨lwt_5 (i := 24) rfl, List.forall_mem_cons.mpr ⟨lwt_5 (i := 26) rfl, List.forall_mem_cons.mpr ⟨lwp_4 (i := 3) (q := (⟨"ThirdFavourModel", "nextCoin", "()I"⟩, 22)) rfl, List.forall_mem_cons.mpr ⟨lwt_5 (i := 27) rfl, List.forall_mem_cons.mpr ⟨lwt_5 (i := 28) rfl, List.forall_mem_cons.mpr ⟨lwt_5 (i := 30) rfl, List.forall_mem_cons.mpr ⟨lwp_4 (i := 4) (q := (⟨"ThirdFavourModel", "starts", "(III)I"⟩, 22)) rfl, List.forall_mem_cons.mpr ⟨lwt_5 (i := 31) rfl, List.forall_mem_cons.mpr ⟨lwt_3 (i := 10) rfl, List.forall_mem_cons.mpr ⟨lwt_3 (i := 11) rfl, List.forall_mem_cons.mpr ⟨lwt_3 (i := 12) rfl, List.forall_mem_cons.mpr ⟨lwt_3 (i := 13) rfl, List.forall_mem_cons.mpr ⟨lwt_3 (i := 14) rfl, List.forall_mem_cons.mpr ⟨lwt_3 (i := 15) rfl, List.forall_mem_cons.mpr ⟨lwt_3 (i := 16) rfl, List.forall_mem_cons.mpr ⟨lwt_3 (i := 17) rfl, List.forall_mem_cons.mpr ⟨lwt_3 (i := 18) rfl, List.forall_mem_cons.mpr ⟨lwt_3 (i := 19) rfl, List.forall_mem_cons.mpr ⟨lwt_5 (i := 32) rfl, List.forall_mem_cons.mpr ⟨lwt_5 (i := 33) rfl, List.forall_mem_cons.mpr ⟨lwt_5 (i := 34) rfl, List.forall_mem_cons.mpr ⟨lwt_5 (i := 35) rfl, (fun _ h => absurd h List.not_mem_nil)⟩⟩⟩⟩⟩⟩⟩⟩⟩⟩⟩⟩⟩⟩⟩⟩⟩⟩⟩⟩⟩⟩⟩⟩
theorem wsg_25 : wsL_law_r25.all goodWord = true := by decide +kernel
set_option maxRecDepth 20000 in
theorem wsr_26 : ∀ w ∈ wsL_law_r26, w ∈ lw_tbl := List.forall_mem_cons.mpr ⟨lwt_4 (i := 100) rfl, List.forall_mem_cons.mpr ⟨lwt_5 (i := 36) rfl, List.forall_mem_cons.mpr ⟨lwt_5 (i := 38) rfl, List.forall_mem_cons.mpr ⟨lwp_4 (i := 5) (q := (⟨"ThirdFavourModel", "servedNow", "(II)I"⟩, 22)) rfl, List.forall_mem_cons.mpr ⟨lwt_5 (i := 39) rfl, List.forall_mem_cons.mpr ⟨lwt_3 (i := 20) rfl, List.forall_mem_cons.mpr ⟨lwt_3 (i := 21) rfl, List.forall_mem_cons.mpr ⟨lwt_3 (i := 22) rfl, List.forall_mem_cons.mpr ⟨lwt_3 (i := 23) rfl, List.forall_mem_cons.mpr ⟨lwt_3 (i := 24) rfl, List.forall_mem_cons.mpr ⟨lwt_3 (i := 25) rfl, List.forall_mem_cons.mpr ⟨lwt_3 (i := 26) rfl, List.forall_mem_cons.mpr ⟨lwt_3 (i := 27) rfl, List.forall_mem_cons.mpr ⟨lwt_3 (i := 28) rfl, List.forall_mem_cons.mpr ⟨lwt_3 (i := 29) rfl, List.forall_mem_cons.mpr ⟨lwt_3 (i := 30) rfl, List.forall_mem_cons.mpr ⟨lwt_3 (i := 31) rfl, List.forall_mem_cons.mpr ⟨lwt_3 (i := 32) rfl, List.forall_mem_cons.mpr ⟨lwt_3 (i := 33) rfl, List.forall_mem_cons.mpr ⟨lwt_3 (i := 34) rfl, List.forall_mem_cons.mpr ⟨lwt_3 (i := 35) rfl, List.forall_mem_cons.mpr ⟨lwt_3 (i := 36) rfl, List.forall_mem_cons.mpr ⟨lwt_5 (i := 40) rfl, List.forall_mem_cons.mpr ⟨lwt_5 (i := 41) rfl, (fun _ h => absurd h List.not_mem_nil)⟩⟩⟩⟩⟩⟩⟩⟩⟩⟩⟩⟩⟩⟩⟩⟩⟩⟩⟩⟩⟩⟩⟩⟩
theorem wsg_26 : wsL_law_r26.all goodWord = true := by decide +kernel
set_option maxRecDepth 20000 in
theorem wsr_27 : ∀ w ∈ wsL_law_r27, w ∈ lw_tbl := List.forall_mem_cons.mpr ⟨lwt_5 (i := 42) rfl, List.forall_mem_cons.mpr ⟨lwt_5 (i := 43) rfl, List.forall_mem_cons.mpr ⟨lwt_5 (i := 44) rfl, List.forall_mem_cons.mpr ⟨lwt_5 (i := 46) rfl, List.forall_mem_cons.mpr ⟨lwp_4 (i := 6) (q := (⟨"ThirdFavourModel", "nightOf", "(II)I"⟩, 22)) rfl, List.forall_mem_cons.mpr ⟨lwt_5 (i := 47) rfl, List.forall_mem_cons.mpr ⟨lwt_5 (i := 48) rfl, List.forall_mem_cons.mpr ⟨lwt_5 (i := 50) rfl, List.forall_mem_cons.mpr ⟨lwp_4 (i := 7) (q := (⟨"ThirdFavourModel", "pleased", "()I"⟩, 22)) rfl, List.forall_mem_cons.mpr ⟨lwt_5 (i := 51) rfl, List.forall_mem_cons.mpr ⟨lwt_5 (i := 52) rfl, List.forall_mem_cons.mpr ⟨lwt_5 (i := 54) rfl, List.forall_mem_cons.mpr ⟨lwp_4 (i := 8) (q := (⟨"ThirdFavourModel", "isPleased", "(I)Z"⟩, 22)) rfl, List.forall_mem_cons.mpr ⟨lwt_5 (i := 55) rfl, List.forall_mem_cons.mpr ⟨lwt_3 (i := 37) rfl, List.forall_mem_cons.mpr ⟨lwt_3 (i := 38) rfl, List.forall_mem_cons.mpr ⟨lwt_3 (i := 39) rfl, List.forall_mem_cons.mpr ⟨lwt_3 (i := 40) rfl, List.forall_mem_cons.mpr ⟨lwt_5 (i := 56) rfl, List.forall_mem_cons.mpr ⟨lwt_5 (i := 57) rfl, List.forall_mem_cons.mpr ⟨lwt_5 (i := 58) rfl, List.forall_mem_cons.mpr ⟨lwt_5 (i := 59) rfl, List.forall_mem_cons.mpr ⟨lwt_5 (i := 60) rfl, List.forall_mem_cons.mpr ⟨lwt_5 (i := 62) rfl, (fun _ h => absurd h List.not_mem_nil)⟩⟩⟩⟩⟩⟩⟩⟩⟩⟩⟩⟩⟩⟩⟩⟩⟩⟩⟩⟩⟩⟩⟩⟩
theorem wsg_27 : wsL_law_r27.all goodWord = true := by decide +kernel
set_option maxRecDepth 20000 in
theorem wsr_28 : ∀ w ∈ wsL_law_r28, w ∈ lw_tbl := List.forall_mem_cons.mpr ⟨lwp_4 (i := 9) (q := (⟨"ThirdFavourModel", "bestNow", "()I"⟩, 22)) rfl, List.forall_mem_cons.mpr ⟨lwt_5 (i := 63) rfl, List.forall_mem_cons.mpr ⟨lwt_3 (i := 41) rfl, List.forall_mem_cons.mpr ⟨lwt_3 (i := 42) rfl, List.forall_mem_cons.mpr ⟨lwt_3 (i := 43) rfl, List.forall_mem_cons.mpr ⟨lwt_3 (i := 44) rfl, List.forall_mem_cons.mpr ⟨lwt_3 (i := 45) rfl, List.forall_mem_cons.mpr ⟨lwt_3 (i := 46) rfl, List.forall_mem_cons.mpr ⟨lwt_3 (i := 47) rfl, List.forall_mem_cons.mpr ⟨lwt_3 (i := 48) rfl, List.forall_mem_cons.mpr ⟨lwt_5 (i := 64) rfl, List.forall_mem_cons.mpr ⟨lwt_5 (i := 65) rfl, List.forall_mem_cons.mpr ⟨lwt_5 (i := 66) rfl, List.forall_mem_cons.mpr ⟨lwt_5 (i := 67) rfl, List.forall_mem_cons.mpr ⟨lwt_3 (i := 49) rfl, List.forall_mem_cons.mpr ⟨lwt_3 (i := 50) rfl, List.forall_mem_cons.mpr ⟨lwt_3 (i := 51) rfl, List.forall_mem_cons.mpr ⟨lwt_3 (i := 52) rfl, List.forall_mem_cons.mpr ⟨lwt_3 (i := 53) rfl, List.forall_mem_cons.mpr ⟨lwt_3 (i := 54) rfl, List.forall_mem_cons.mpr ⟨lwt_3 (i := 55) rfl, List.forall_mem_cons.mpr ⟨lwt_3 (i := 56) rfl, List.forall_mem_cons.mpr ⟨lwt_5 (i := 68) rfl, List.forall_mem_cons.mpr ⟨lwt_5 (i := 69) rfl, (fun _ h => absurd h List.not_mem_nil)⟩⟩⟩⟩⟩⟩⟩⟩⟩⟩⟩⟩⟩⟩⟩⟩⟩⟩⟩⟩⟩⟩⟩⟩
theorem wsg_28 : wsL_law_r28.all goodWord = true := by decide +kernel
set_option maxRecDepth 20000 in
theorem wsr_29 : ∀ w ∈ wsL_law_r29, w ∈ lw_tbl := List.forall_mem_cons.mpr ⟨lwt_5 (i := 70) rfl, List.forall_mem_cons.mpr ⟨lwt_5 (i := 71) rfl, List.forall_mem_cons.mpr ⟨lwt_3 (i := 57) rfl, List.forall_mem_cons.mpr ⟨lwt_3 (i := 58) rfl, List.forall_mem_cons.mpr ⟨lwt_3 (i := 59) rfl, List.forall_mem_cons.mpr ⟨lwt_3 (i := 60) rfl, List.forall_mem_cons.mpr ⟨lwt_3 (i := 61) rfl, List.forall_mem_cons.mpr ⟨lwt_3 (i := 62) rfl, List.forall_mem_cons.mpr ⟨lwt_3 (i := 63) rfl, List.forall_mem_cons.mpr ⟨lwt_3 (i := 64) rfl, List.forall_mem_cons.mpr ⟨lwt_3 (i := 65) rfl, List.forall_mem_cons.mpr ⟨lwt_3 (i := 66) rfl, List.forall_mem_cons.mpr ⟨lwt_3 (i := 68) rfl, List.forall_mem_cons.mpr ⟨lwp_2 (i := 8) (q := (⟨"ThirdFavour", "fewestMore", "(III)I"⟩, 12)) rfl, List.forall_mem_cons.mpr ⟨lwt_3 (i := 69) rfl, List.forall_mem_cons.mpr ⟨lwt_3 (i := 70) rfl, List.forall_mem_cons.mpr ⟨lwt_3 (i := 72) rfl, List.forall_mem_cons.mpr ⟨lwp_2 (i := 9) (q := (⟨"ThirdFavour", "passNightWith", "(III)V"⟩, 12)) rfl, List.forall_mem_cons.mpr ⟨lwt_3 (i := 73) rfl, List.forall_mem_cons.mpr ⟨lwt_3 (i := 74) rfl, List.forall_mem_cons.mpr ⟨lwt_3 (i := 75) rfl, List.forall_mem_cons.mpr ⟨lwt_3 (i := 76) rfl, List.forall_mem_cons.mpr ⟨lwt_3 (i := 77) rfl, List.forall_mem_cons.mpr ⟨lwt_3 (i := 78) rfl, (fun _ h => absurd h List.not_mem_nil)⟩⟩⟩⟩⟩⟩⟩⟩⟩⟩⟩⟩⟩⟩⟩⟩⟩⟩⟩⟩⟩⟩⟩⟩
theorem wsg_29 : wsL_law_r29.all goodWord = true := by decide +kernel
set_option maxRecDepth 20000 in
theorem wsr_30 : ∀ w ∈ wsL_law_r30, w ∈ lw_tbl := List.forall_mem_cons.mpr ⟨lwt_3 (i := 79) rfl, List.forall_mem_cons.mpr ⟨lwt_3 (i := 80) rfl, List.forall_mem_cons.mpr ⟨lwt_5 (i := 72) rfl, List.forall_mem_cons.mpr ⟨lwt_5 (i := 73) rfl, List.forall_mem_cons.mpr ⟨lwt_5 (i := 74) rfl, List.forall_mem_cons.mpr ⟨lwt_5 (i := 75) rfl, List.forall_mem_cons.mpr ⟨lwt_5 (i := 76) rfl, List.forall_mem_cons.mpr ⟨lwt_5 (i := 77) rfl, List.forall_mem_cons.mpr ⟨lwt_5 (i := 79) rfl, List.forall_mem_cons.mpr ⟨lwp_4 (i := 10) (q := (⟨"ThirdFavourModel", "askOf", "(IIII)I"⟩, 22)) rfl, List.forall_mem_cons.mpr ⟨lwt_5 (i := 80) rfl, List.forall_mem_cons.mpr ⟨lwt_5 (i := 81) rfl, List.forall_mem_cons.mpr ⟨lwt_5 (i := 83) rfl, List.forall_mem_cons.mpr ⟨lwp_4 (i := 11) (q := (⟨"ThirdFavourModel", "isPlaying", "(II)Z"⟩, 22)) rfl, List.forall_mem_cons.mpr ⟨lwt_5 (i := 84) rfl, List.forall_mem_cons.mpr ⟨lwt_3 (i := 81) rfl, List.forall_mem_cons.mpr ⟨lwt_3 (i := 82) rfl, List.forall_mem_cons.mpr ⟨lwt_3 (i := 83) rfl, List.forall_mem_cons.mpr ⟨lwt_3 (i := 84) rfl, List.forall_mem_cons.mpr ⟨lwt_3 (i := 85) rfl, List.forall_mem_cons.mpr ⟨lwt_3 (i := 86) rfl, List.forall_mem_cons.mpr ⟨lwt_3 (i := 87) rfl, List.forall_mem_cons.mpr ⟨lwt_3 (i := 88) rfl, List.forall_mem_cons.mpr ⟨lwt_3 (i := 89) rfl, (fun _ h => absurd h List.not_mem_nil)⟩⟩⟩⟩⟩⟩⟩⟩⟩⟩⟩⟩⟩⟩⟩⟩⟩⟩⟩⟩⟩⟩⟩⟩
theorem wsg_30 : wsL_law_r30.all goodWord = true := by decide +kernel
set_option maxRecDepth 20000 in
theorem wsr_31 : ∀ w ∈ wsL_law_r31, w ∈ lw_tbl := List.forall_mem_cons.mpr ⟨lwt_5 (i := 85) rfl, List.forall_mem_cons.mpr ⟨lwt_5 (i := 86) rfl, List.forall_mem_cons.mpr ⟨lwt_5 (i := 87) rfl, List.forall_mem_cons.mpr ⟨lwt_5 (i := 88) rfl, List.forall_mem_cons.mpr ⟨lwt_5 (i := 89) rfl, List.forall_mem_cons.mpr ⟨lwt_5 (i := 91) rfl, List.forall_mem_cons.mpr ⟨lwp_4 (i := 12) (q := (⟨"ThirdFavourModel", "stuckOf", "(II)I"⟩, 22)) rfl, List.forall_mem_cons.mpr ⟨lwt_5 (i := 92) rfl, List.forall_mem_cons.mpr ⟨lwt_3 (i := 90) rfl, List.forall_mem_cons.mpr ⟨lwt_3 (i := 91) rfl, List.forall_mem_cons.mpr ⟨lwt_3 (i := 92) rfl, List.forall_mem_cons.mpr ⟨lwt_3 (i := 93) rfl, List.forall_mem_cons.mpr ⟨lwt_5 (i := 93) rfl, List.forall_mem_cons.mpr ⟨lwt_5 (i := 94) rfl, List.forall_mem_cons.mpr ⟨lwt_5 (i := 95) rfl, List.forall_mem_cons.mpr ⟨lwt_5 (i := 96) rfl, List.forall_mem_cons.mpr ⟨lwt_4 (i := 42) rfl, List.forall_mem_cons.mpr ⟨lwt_3 (i := 94) rfl, List.forall_mem_cons.mpr ⟨lwt_3 (i := 95) rfl, List.forall_mem_cons.mpr ⟨lwt_3 (i := 96) rfl, List.forall_mem_cons.mpr ⟨lwt_3 (i := 97) rfl, List.forall_mem_cons.mpr ⟨lwt_5 (i := 97) rfl, List.forall_mem_cons.mpr ⟨lwt_5 (i := 98) rfl, List.forall_mem_cons.mpr ⟨lwt_5 (i := 99) rfl, (fun _ h => absurd h List.not_mem_nil)⟩⟩⟩⟩⟩⟩⟩⟩⟩⟩⟩⟩⟩⟩⟩⟩⟩⟩⟩⟩⟩⟩⟩⟩
theorem wsg_31 : wsL_law_r31.all goodWord = true := by decide +kernel
set_option maxRecDepth 20000 in
theorem wsr_32 : ∀ w ∈ wsL_law_r32, w ∈ lw_tbl := List.forall_mem_cons.mpr ⟨lwt_5 (i := 100) rfl, List.forall_mem_cons.mpr ⟨lwt_3 (i := 98) rfl, List.forall_mem_cons.mpr ⟨lwt_3 (i := 99) rfl, List.forall_mem_cons.mpr ⟨lwt_3 (i := 100) rfl, List.forall_mem_cons.mpr ⟨lwt_3 (i := 101) rfl, List.forall_mem_cons.mpr ⟨lwt_3 (i := 102) rfl, List.forall_mem_cons.mpr ⟨lwt_3 (i := 104) rfl, List.forall_mem_cons.mpr ⟨lwp_2 (i := 10) (q := (⟨"ThirdFavour", "soundsAsHeard", "()Z"⟩, 12)) rfl, List.forall_mem_cons.mpr ⟨lwt_3 (i := 105) rfl, List.forall_mem_cons.mpr ⟨lwt_5 (i := 101) rfl, List.forall_mem_cons.mpr ⟨lwt_5 (i := 102) rfl, List.forall_mem_cons.mpr ⟨lwt_5 (i := 103) rfl, List.forall_mem_cons.mpr ⟨lwt_5 (i := 104) rfl, List.forall_mem_cons.mpr ⟨lwt_5 (i := 105) rfl, List.forall_mem_cons.mpr ⟨lwt_5 (i := 107) rfl, List.forall_mem_cons.mpr ⟨lwp_4 (i := 13) (q := (⟨"ThirdFavourModel", "lawsNow", "()I"⟩, 22)) rfl, List.forall_mem_cons.mpr ⟨lwt_5 (i := 108) rfl, List.forall_mem_cons.mpr ⟨lwt_3 (i := 106) rfl, List.forall_mem_cons.mpr ⟨lwt_3 (i := 107) rfl, List.forall_mem_cons.mpr ⟨lwt_3 (i := 108) rfl, List.forall_mem_cons.mpr ⟨lwt_3 (i := 109) rfl, List.forall_mem_cons.mpr ⟨lwt_3 (i := 110) rfl, List.forall_mem_cons.mpr ⟨lwt_3 (i := 111) rfl, List.forall_mem_cons.mpr ⟨lwt_3 (i := 112) rfl, (fun _ h => absurd h List.not_mem_nil)⟩⟩⟩⟩⟩⟩⟩⟩⟩⟩⟩⟩⟩⟩⟩⟩⟩⟩⟩⟩⟩⟩⟩⟩
theorem wsg_32 : wsL_law_r32.all goodWord = true := by decide +kernel
set_option maxRecDepth 20000 in
theorem wsr_33 : ∀ w ∈ wsL_law_r33, w ∈ lw_tbl := List.forall_mem_cons.mpr ⟨lwt_3 (i := 113) rfl, List.forall_mem_cons.mpr ⟨lwt_3 (i := 114) rfl, List.forall_mem_cons.mpr ⟨lwt_3 (i := 115) rfl, List.forall_mem_cons.mpr ⟨lwt_3 (i := 116) rfl, List.forall_mem_cons.mpr ⟨lwt_3 (i := 117) rfl, List.forall_mem_cons.mpr ⟨lwt_3 (i := 118) rfl, List.forall_mem_cons.mpr ⟨lwt_3 (i := 119) rfl, List.forall_mem_cons.mpr ⟨lwt_5 (i := 109) rfl, List.forall_mem_cons.mpr ⟨lwt_5 (i := 110) rfl, List.forall_mem_cons.mpr ⟨lwt_5 (i := 111) rfl, List.forall_mem_cons.mpr ⟨lwt_5 (i := 112) rfl, List.forall_mem_cons.mpr ⟨lwt_5 (i := 113) rfl, List.forall_mem_cons.mpr ⟨lwt_5 (i := 115) rfl, List.forall_mem_cons.mpr ⟨lwp_4 (i := 14) (q := (⟨"ThirdFavourModel", "nextOf", "(II)J"⟩, 22)) rfl, List.forall_mem_cons.mpr ⟨lwt_5 (i := 116) rfl, List.forall_mem_cons.mpr ⟨lwt_5 (i := 117) rfl, List.forall_mem_cons.mpr ⟨lwt_5 (i := 118) rfl, List.forall_mem_cons.mpr ⟨lwt_5 (i := 119) rfl, List.forall_mem_cons.mpr ⟨lwt_5 (i := 120) rfl, List.forall_mem_cons.mpr ⟨lwt_5 (i := 121) rfl, List.forall_mem_cons.mpr ⟨lwt_5 (i := 122) rfl, List.forall_mem_cons.mpr ⟨lwt_5 (i := 123) rfl, List.forall_mem_cons.mpr ⟨lwt_5 (i := 124) rfl, List.forall_mem_cons.mpr ⟨lwt_3 (i := 120) rfl, (fun _ h => absurd h List.not_mem_nil)⟩⟩⟩⟩⟩⟩⟩⟩⟩⟩⟩⟩⟩⟩⟩⟩⟩⟩⟩⟩⟩⟩⟩⟩
theorem wsg_33 : wsL_law_r33.all goodWord = true := by decide +kernel
set_option maxRecDepth 20000 in
theorem wsr_34 : ∀ w ∈ wsL_law_r34, w ∈ lw_tbl := List.forall_mem_cons.mpr ⟨lwt_3 (i := 121) rfl, List.forall_mem_cons.mpr ⟨lwt_3 (i := 122) rfl, List.forall_mem_cons.mpr ⟨lwt_3 (i := 123) rfl, List.forall_mem_cons.mpr ⟨lwt_3 (i := 124) rfl, List.forall_mem_cons.mpr ⟨lwt_3 (i := 125) rfl, List.forall_mem_cons.mpr ⟨lwt_3 (i := 126) rfl, List.forall_mem_cons.mpr ⟨lwt_3 (i := 127) rfl, List.forall_mem_cons.mpr ⟨lwt_5 (i := 125) rfl, List.forall_mem_cons.mpr ⟨lwt_5 (i := 126) rfl, List.forall_mem_cons.mpr ⟨lwt_5 (i := 127) rfl, List.forall_mem_cons.mpr ⟨lwt_5 (i := 128) rfl, List.forall_mem_cons.mpr ⟨lwt_5 (i := 129) rfl, List.forall_mem_cons.mpr ⟨lwt_5 (i := 131) rfl, List.forall_mem_cons.mpr ⟨lwp_4 (i := 15) (q := (⟨"ThirdFavourModel", "sinceOf", "(I)I"⟩, 22)) rfl, List.forall_mem_cons.mpr ⟨lwt_5 (i := 132) rfl, List.forall_mem_cons.mpr ⟨lwt_3 (i := 128) rfl, List.forall_mem_cons.mpr ⟨lwt_3 (i := 129) rfl, List.forall_mem_cons.mpr ⟨lwt_3 (i := 130) rfl, List.forall_mem_cons.mpr ⟨lwt_3 (i := 131) rfl, List.forall_mem_cons.mpr ⟨lwt_3 (i := 132) rfl, List.forall_mem_cons.mpr ⟨lwt_3 (i := 133) rfl, List.forall_mem_cons.mpr ⟨lwt_3 (i := 134) rfl, List.forall_mem_cons.mpr ⟨lwt_3 (i := 135) rfl, List.forall_mem_cons.mpr ⟨lwt_3 (i := 136) rfl, (fun _ h => absurd h List.not_mem_nil)⟩⟩⟩⟩⟩⟩⟩⟩⟩⟩⟩⟩⟩⟩⟩⟩⟩⟩⟩⟩⟩⟩⟩⟩
theorem wsg_34 : wsL_law_r34.all goodWord = true := by decide +kernel
set_option maxRecDepth 20000 in
theorem wsr_35 : ∀ w ∈ wsL_law_r35, w ∈ lw_tbl := List.forall_mem_cons.mpr ⟨lwt_3 (i := 137) rfl, List.forall_mem_cons.mpr ⟨lwt_3 (i := 138) rfl, List.forall_mem_cons.mpr ⟨lwt_3 (i := 139) rfl, List.forall_mem_cons.mpr ⟨lwt_3 (i := 140) rfl, List.forall_mem_cons.mpr ⟨lwt_4 (i := 89) rfl, List.forall_mem_cons.mpr ⟨lwt_4 (i := 90) rfl, List.forall_mem_cons.mpr ⟨lwt_4 (i := 91) rfl, List.forall_mem_cons.mpr ⟨lwt_4 (i := 92) rfl, List.forall_mem_cons.mpr ⟨lwt_3 (i := 141) rfl, List.forall_mem_cons.mpr ⟨lwt_3 (i := 142) rfl, List.forall_mem_cons.mpr ⟨lwt_3 (i := 143) rfl, List.forall_mem_cons.mpr ⟨lwt_3 (i := 144) rfl, List.forall_mem_cons.mpr ⟨lwt_3 (i := 145) rfl, List.forall_mem_cons.mpr ⟨lwt_3 (i := 146) rfl, List.forall_mem_cons.mpr ⟨lwt_3 (i := 147) rfl, List.forall_mem_cons.mpr ⟨lwt_3 (i := 148) rfl, List.forall_mem_cons.mpr ⟨lwt_3 (i := 149) rfl, List.forall_mem_cons.mpr ⟨lwt_3 (i := 150) rfl, List.forall_mem_cons.mpr ⟨lwt_3 (i := 151) rfl, List.forall_mem_cons.mpr ⟨lwt_3 (i := 152) rfl, List.forall_mem_cons.mpr ⟨lwt_4 (i := 105) rfl, List.forall_mem_cons.mpr ⟨lwt_4 (i := 106) rfl, List.forall_mem_cons.mpr ⟨lwt_4 (i := 107) rfl, List.forall_mem_cons.mpr ⟨lwt_4 (i := 108) rfl, (fun _ h => absurd h List.not_mem_nil)⟩⟩⟩⟩⟩⟩⟩⟩⟩⟩⟩⟩⟩⟩⟩⟩⟩⟩⟩⟩⟩⟩⟩⟩
theorem wsg_35 : wsL_law_r35.all goodWord = true := by decide +kernel
set_option maxRecDepth 20000 in
theorem wsr_36 : ∀ w ∈ wsL_law_r36, w ∈ lw_tbl := List.forall_mem_cons.mpr ⟨lwt_3 (i := 153) rfl, List.forall_mem_cons.mpr ⟨lwt_3 (i := 154) rfl, List.forall_mem_cons.mpr ⟨lwt_3 (i := 155) rfl, List.forall_mem_cons.mpr ⟨lwt_3 (i := 156) rfl, List.forall_mem_cons.mpr ⟨lwt_3 (i := 157) rfl, List.forall_mem_cons.mpr ⟨lwt_3 (i := 159) rfl, List.forall_mem_cons.mpr ⟨lwp_2 (i := 11) (q := (⟨"ThirdFavour", "itemRefusal", "(III)I"⟩, 12)) rfl, List.forall_mem_cons.mpr ⟨lwt_3 (i := 160) rfl, List.forall_mem_cons.mpr ⟨lwt_3 (i := 161) rfl, List.forall_mem_cons.mpr ⟨lwt_3 (i := 162) rfl, List.forall_mem_cons.mpr ⟨lwt_3 (i := 163) rfl, List.forall_mem_cons.mpr ⟨lwt_3 (i := 164) rfl, List.forall_mem_cons.mpr ⟨lwt_3 (i := 165) rfl, List.forall_mem_cons.mpr ⟨lwt_3 (i := 166) rfl, List.forall_mem_cons.mpr ⟨lwt_3 (i := 167) rfl, List.forall_mem_cons.mpr ⟨lwt_3 (i := 168) rfl, List.forall_mem_cons.mpr ⟨lwt_3 (i := 169) rfl, List.forall_mem_cons.mpr ⟨lwt_3 (i := 171) rfl, List.forall_mem_cons.mpr ⟨lwp_2 (i := 12) (q := (⟨"ThirdFavour$Sheet", "narrowed", "(I)I"⟩, 3)) rfl, List.forall_mem_cons.mpr ⟨lwt_3 (i := 172) rfl, List.forall_mem_cons.mpr ⟨lwt_4 (i := 109) rfl, List.forall_mem_cons.mpr ⟨lwt_4 (i := 110) rfl, List.forall_mem_cons.mpr ⟨lwt_4 (i := 111) rfl, List.forall_mem_cons.mpr ⟨lwt_4 (i := 112) rfl, (fun _ h => absurd h List.not_mem_nil)⟩⟩⟩⟩⟩⟩⟩⟩⟩⟩⟩⟩⟩⟩⟩⟩⟩⟩⟩⟩⟩⟩⟩⟩
theorem wsg_36 : wsL_law_r36.all goodWord = true := by decide +kernel
set_option maxRecDepth 20000 in
theorem wsr_37 : ∀ w ∈ wsL_law_r37, w ∈ lw_tbl := List.forall_mem_cons.mpr ⟨lwt_4 (i := 113) rfl, List.forall_mem_cons.mpr ⟨lwt_4 (i := 115) rfl, List.forall_mem_cons.mpr ⟨lwp_3 (i := 3) (q := (⟨"ThirdFavourModel", "lacks", "(III)I"⟩, 22)) rfl, List.forall_mem_cons.mpr ⟨lwt_4 (i := 116) rfl, List.forall_mem_cons.mpr ⟨lwt_4 (i := 117) rfl, List.forall_mem_cons.mpr ⟨lwt_4 (i := 118) rfl, List.forall_mem_cons.mpr ⟨lwt_4 (i := 119) rfl, List.forall_mem_cons.mpr ⟨lwt_3 (i := 173) rfl, List.forall_mem_cons.mpr ⟨lwt_3 (i := 174) rfl, List.forall_mem_cons.mpr ⟨lwt_3 (i := 175) rfl, List.forall_mem_cons.mpr ⟨lwt_3 (i := 176) rfl, List.forall_mem_cons.mpr ⟨lwt_3 (i := 177) rfl, List.forall_mem_cons.mpr ⟨lwt_4 (i := 120) rfl, List.forall_mem_cons.mpr ⟨lwt_4 (i := 121) rfl, List.forall_mem_cons.mpr ⟨lwt_4 (i := 122) rfl, List.forall_mem_cons.mpr ⟨lwt_4 (i := 123) rfl, List.forall_mem_cons.mpr ⟨lwt_4 (i := 124) rfl, List.forall_mem_cons.mpr ⟨lwt_3 (i := 178) rfl, List.forall_mem_cons.mpr ⟨lwt_3 (i := 179) rfl, List.forall_mem_cons.mpr ⟨lwt_3 (i := 180) rfl, List.forall_mem_cons.mpr ⟨lwt_3 (i := 181) rfl, List.forall_mem_cons.mpr ⟨lwt_3 (i := 182) rfl, List.forall_mem_cons.mpr ⟨lwt_3 (i := 183) rfl, List.forall_mem_cons.mpr ⟨lwt_3 (i := 184) rfl, (fun _ h => absurd h List.not_mem_nil)⟩⟩⟩⟩⟩⟩⟩⟩⟩⟩⟩⟩⟩⟩⟩⟩⟩⟩⟩⟩⟩⟩⟩⟩
theorem wsg_37 : wsL_law_r37.all goodWord = true := by decide +kernel
set_option maxRecDepth 20000 in
theorem wsr_38 : ∀ w ∈ wsL_law_r38, w ∈ lw_tbl := List.forall_mem_cons.mpr ⟨lwt_3 (i := 185) rfl, List.forall_mem_cons.mpr ⟨lwt_3 (i := 186) rfl, List.forall_mem_cons.mpr ⟨lwt_3 (i := 187) rfl, List.forall_mem_cons.mpr ⟨lwt_3 (i := 188) rfl, List.forall_mem_cons.mpr ⟨lwt_3 (i := 189) rfl, List.forall_mem_cons.mpr ⟨lwt_3 (i := 191) rfl, List.forall_mem_cons.mpr ⟨lwt_3 (i := 190) rfl, List.forall_mem_cons.mpr ⟨lwt_4 (i := 125) rfl, List.forall_mem_cons.mpr ⟨lwt_4 (i := 126) rfl, List.forall_mem_cons.mpr ⟨lwt_4 (i := 127) rfl, List.forall_mem_cons.mpr ⟨lwt_4 (i := 128) rfl, List.forall_mem_cons.mpr ⟨lwt_3 (i := 192) rfl, List.forall_mem_cons.mpr ⟨lwt_3 (i := 193) rfl, List.forall_mem_cons.mpr ⟨lwt_3 (i := 194) rfl, List.forall_mem_cons.mpr ⟨lwt_3 (i := 195) rfl, List.forall_mem_cons.mpr ⟨lwt_3 (i := 196) rfl, List.forall_mem_cons.mpr ⟨lwt_3 (i := 197) rfl, List.forall_mem_cons.mpr ⟨lwt_3 (i := 198) rfl, List.forall_mem_cons.mpr ⟨lwt_5 (i := 133) rfl, List.forall_mem_cons.mpr ⟨lwt_5 (i := 134) rfl, List.forall_mem_cons.mpr ⟨lwt_5 (i := 135) rfl, List.forall_mem_cons.mpr ⟨lwt_5 (i := 136) rfl, List.forall_mem_cons.mpr ⟨lwt_3 (i := 199) rfl, List.forall_mem_cons.mpr ⟨lwt_3 (i := 200) rfl, (fun _ h => absurd h List.not_mem_nil)⟩⟩⟩⟩⟩⟩⟩⟩⟩⟩⟩⟩⟩⟩⟩⟩⟩⟩⟩⟩⟩⟩⟩⟩
theorem wsg_38 : wsL_law_r38.all goodWord = true := by decide +kernel
set_option maxRecDepth 20000 in
theorem wsr_39 : ∀ w ∈ wsL_law_r39, w ∈ lw_tbl := List.forall_mem_cons.mpr ⟨lwt_3 (i := 201) rfl, List.forall_mem_cons.mpr ⟨lwt_3 (i := 202) rfl, List.forall_mem_cons.mpr ⟨lwt_3 (i := 203) rfl, List.forall_mem_cons.mpr ⟨lwt_3 (i := 205) rfl, List.forall_mem_cons.mpr ⟨lwp_2 (i := 13) (q := (⟨"ThirdFavour", "allLong", "()I"⟩, 12)) rfl, List.forall_mem_cons.mpr ⟨lwt_3 (i := 206) rfl, List.forall_mem_cons.mpr ⟨lwt_3 (i := 207) rfl, List.forall_mem_cons.mpr ⟨lwt_3 (i := 209) rfl, List.forall_mem_cons.mpr ⟨lwp_2 (i := 14) (q := (⟨"ThirdFavour", "allScratches", "()I"⟩, 12)) rfl, List.forall_mem_cons.mpr ⟨lwt_3 (i := 210) rfl, List.forall_mem_cons.mpr ⟨lwt_3 (i := 211) rfl, List.forall_mem_cons.mpr ⟨lwt_3 (i := 212) rfl, List.forall_mem_cons.mpr ⟨lwt_3 (i := 213) rfl, List.forall_mem_cons.mpr ⟨lwt_3 (i := 214) rfl, List.forall_mem_cons.mpr ⟨lwt_3 (i := 215) rfl, List.forall_mem_cons.mpr ⟨lwt_3 (i := 217) rfl, List.forall_mem_cons.mpr ⟨lwp_2 (i := 15) (q := (⟨"ThirdFavour", "allPlays", "()I"⟩, 12)) rfl, List.forall_mem_cons.mpr ⟨lwt_3 (i := 218) rfl, List.forall_mem_cons.mpr ⟨lwt_3 (i := 219) rfl, List.forall_mem_cons.mpr ⟨lwt_3 (i := 220) rfl, List.forall_mem_cons.mpr ⟨lwt_3 (i := 221) rfl, List.forall_mem_cons.mpr ⟨lwt_3 (i := 222) rfl, List.forall_mem_cons.mpr ⟨lwt_5 (i := 137) rfl, List.forall_mem_cons.mpr ⟨lwt_5 (i := 138) rfl, (fun _ h => absurd h List.not_mem_nil)⟩⟩⟩⟩⟩⟩⟩⟩⟩⟩⟩⟩⟩⟩⟩⟩⟩⟩⟩⟩⟩⟩⟩⟩
theorem wsg_39 : wsL_law_r39.all goodWord = true := by decide +kernel
set_option maxRecDepth 20000 in
theorem wsr_40 : ∀ w ∈ wsL_law_r40, w ∈ lw_tbl := List.forall_mem_cons.mpr ⟨lwt_5 (i := 139) rfl, List.forall_mem_cons.mpr ⟨lwt_5 (i := 140) rfl, List.forall_mem_cons.mpr ⟨lwt_5 (i := 141) rfl, List.forall_mem_cons.mpr ⟨lwt_5 (i := 143) rfl, List.forall_mem_cons.mpr ⟨lwp_5 (i := 0) (q := (⟨"ThirdFavourModel", "playsAll", "()I"⟩, 22)) rfl, List.forall_mem_cons.mpr ⟨lwt_5 (i := 144) rfl, List.forall_mem_cons.mpr ⟨lwt_3 (i := 223) rfl, List.forall_mem_cons.mpr ⟨lwt_3 (i := 224) rfl, List.forall_mem_cons.mpr ⟨lwt_3 (i := 225) rfl, List.forall_mem_cons.mpr ⟨lwt_3 (i := 226) rfl, List.forall_mem_cons.mpr ⟨lwt_3 (i := 227) rfl, List.forall_mem_cons.mpr ⟨lwt_3 (i := 228) rfl, List.forall_mem_cons.mpr ⟨lwt_3 (i := 229) rfl, List.forall_mem_cons.mpr ⟨lwt_3 (i := 230) rfl, List.forall_mem_cons.mpr ⟨lwt_3 (i := 231) rfl, List.forall_mem_cons.mpr ⟨lwt_3 (i := 232) rfl, List.forall_mem_cons.mpr ⟨lwt_3 (i := 233) rfl, List.forall_mem_cons.mpr ⟨lwt_3 (i := 234) rfl, List.forall_mem_cons.mpr ⟨lwt_3 (i := 236) rfl, List.forall_mem_cons.mpr ⟨lwp_3 (i := 0) (q := (⟨"ThirdFavour", "digestRecords", "(J)J"⟩, 12)) rfl, List.forall_mem_cons.mpr ⟨lwt_3 (i := 237) rfl, List.forall_mem_cons.mpr ⟨lwt_3 (i := 238) rfl, List.forall_mem_cons.mpr ⟨lwt_3 (i := 239) rfl, List.forall_mem_cons.mpr ⟨lwt_4 (i := 0) rfl, (fun _ h => absurd h List.not_mem_nil)⟩⟩⟩⟩⟩⟩⟩⟩⟩⟩⟩⟩⟩⟩⟩⟩⟩⟩⟩⟩⟩⟩⟩⟩
theorem wsg_40 : wsL_law_r40.all goodWord = true := by decide +kernel
set_option maxRecDepth 20000 in
theorem wsr_41 : ∀ w ∈ wsL_law_r41, w ∈ lw_tbl := List.forall_mem_cons.mpr ⟨lwt_4 (i := 1) rfl, List.forall_mem_cons.mpr ⟨lwt_4 (i := 2) rfl, List.forall_mem_cons.mpr ⟨lwt_4 (i := 3) rfl, List.forall_mem_cons.mpr ⟨lwt_4 (i := 4) rfl, List.forall_mem_cons.mpr ⟨lwt_4 (i := 5) rfl, List.forall_mem_cons.mpr ⟨lwt_4 (i := 7) rfl, List.forall_mem_cons.mpr ⟨lwp_3 (i := 1) (q := (⟨"ThirdFavour", "digestNights", "(J)J"⟩, 12)) rfl, List.forall_mem_cons.mpr ⟨lwt_4 (i := 8) rfl, List.forall_mem_cons.mpr ⟨lwt_4 (i := 9) rfl, List.forall_mem_cons.mpr ⟨lwt_4 (i := 10) rfl, List.forall_mem_cons.mpr ⟨lwt_4 (i := 11) rfl, List.forall_mem_cons.mpr ⟨lwt_4 (i := 12) rfl, List.forall_mem_cons.mpr ⟨lwt_4 (i := 13) rfl, List.forall_mem_cons.mpr ⟨lwt_4 (i := 14) rfl, List.forall_mem_cons.mpr ⟨lwt_4 (i := 15) rfl, List.forall_mem_cons.mpr ⟨lwt_5 (i := 145) rfl, List.forall_mem_cons.mpr ⟨lwt_5 (i := 146) rfl, List.forall_mem_cons.mpr ⟨lwt_5 (i := 147) rfl, List.forall_mem_cons.mpr ⟨lwt_5 (i := 148) rfl, List.forall_mem_cons.mpr ⟨lwt_5 (i := 149) rfl, List.forall_mem_cons.mpr ⟨lwt_5 (i := 150) rfl, List.forall_mem_cons.mpr ⟨lwt_5 (i := 151) rfl, List.forall_mem_cons.mpr ⟨lwt_5 (i := 152) rfl, List.forall_mem_cons.mpr ⟨lwt_5 (i := 153) rfl, (fun _ h => absurd h List.not_mem_nil)⟩⟩⟩⟩⟩⟩⟩⟩⟩⟩⟩⟩⟩⟩⟩⟩⟩⟩⟩⟩⟩⟩⟩⟩
theorem wsg_41 : wsL_law_r41.all goodWord = true := by decide +kernel
set_option maxRecDepth 20000 in
theorem wsr_42 : ∀ w ∈ wsL_law_r42, w ∈ lw_tbl := List.forall_mem_cons.mpr ⟨lwt_5 (i := 154) rfl, (fun _ h => absurd h List.not_mem_nil)⟩
theorem wsg_42 : wsL_law_r42.all goodWord = true := by decide +kernel
set_option maxRecDepth 20000 in
theorem wsr_43 : ∀ w ∈ wsL_law_r43, w ∈ lw_tbl := List.forall_mem_cons.mpr ⟨lwt_1 (i := 26) rfl, List.forall_mem_cons.mpr ⟨lwt_1 (i := 32) rfl, List.forall_mem_cons.mpr ⟨lwt_1 (i := 37) rfl, List.forall_mem_cons.mpr ⟨lwt_1 (i := 40) rfl, List.forall_mem_cons.mpr ⟨lwt_1 (i := 64) rfl, List.forall_mem_cons.mpr ⟨lwt_1 (i := 69) rfl, List.forall_mem_cons.mpr ⟨lwt_1 (i := 117) rfl, List.forall_mem_cons.mpr ⟨lwt_2 (i := 192) rfl, (fun _ h => absurd h List.not_mem_nil)⟩⟩⟩⟩⟩⟩⟩⟩
set_option maxRecDepth 20000 in
theorem wsx_0 : ∀ w ∈ wsX00, w ∈ lw_tbl := fun w h => (goodIn_of wsX00 (by decide +kernel) w h).1
theorem wsxg_0 : wsX00.all goodWord = true := by decide +kernel
set_option maxRecDepth 20000 in
theorem wsx_1 : ∀ w ∈ wsX10, w ∈ lw_tbl := fun w h => (goodIn_of wsX10 (by decide +kernel) w h).1
theorem wsxg_1 : wsX10.all goodWord = true := by decide +kernel
set_option maxRecDepth 20000 in
theorem wsx_2 : ∀ w ∈ wsX20, w ∈ lw_tbl := fun w h => (goodIn_of wsX20 (by decide +kernel) w h).1
theorem wsxg_2 : wsX20.all goodWord = true := by decide +kernel
set_option maxRecDepth 20000 in
theorem wsx_3 : ∀ w ∈ wsX30, w ∈ lw_tbl := fun w h => (goodIn_of wsX30 (by decide +kernel) w h).1
theorem wsxg_3 : wsX30.all goodWord = true := by decide +kernel
set_option maxRecDepth 20000 in
theorem wsx_4 : ∀ w ∈ wsX40, w ∈ lw_tbl := fun w h => (goodIn_of wsX40 (by decide +kernel) w h).1
theorem wsxg_4 : wsX40.all goodWord = true := by decide +kernel
set_option maxRecDepth 20000 in
theorem wsx_5 : ∀ w ∈ wsX50, w ∈ lw_tbl := fun w h => (goodIn_of wsX50 (by decide +kernel) w h).1
theorem wsxg_5 : wsX50.all goodWord = true := by decide +kernel
set_option maxRecDepth 20000 in
theorem wsx_6 : ∀ w ∈ wsX60, w ∈ lw_tbl := fun w h => (goodIn_of wsX60 (by decide +kernel) w h).1
theorem wsxg_6 : wsX60.all goodWord = true := by decide +kernel
theorem wsG_in : ∀ w ∈ wsG, w ∈ lw_tbl := List.forall_mem_append.mpr ⟨List.forall_mem_append.mpr ⟨List.forall_mem_append.mpr ⟨List.forall_mem_append.mpr ⟨List.forall_mem_append.mpr ⟨List.forall_mem_append.mpr ⟨List.forall_mem_append.mpr ⟨List.forall_mem_append.mpr ⟨List.forall_mem_append.mpr ⟨wsr_1, List.forall_mem_append.mpr ⟨wsr_2, List.forall_mem_append.mpr ⟨wsr_3, List.forall_mem_append.mpr ⟨wsr_4, List.forall_mem_append.mpr ⟨wsr_5, List.forall_mem_append.mpr ⟨wsr_6, List.forall_mem_append.mpr ⟨wsr_7, List.forall_mem_append.mpr ⟨wsr_8, List.forall_mem_append.mpr ⟨wsr_9, List.forall_mem_append.mpr ⟨wsr_10, List.forall_mem_append.mpr ⟨wsr_11, List.forall_mem_append.mpr ⟨wsr_12, List.forall_mem_append.mpr ⟨wsr_13, List.forall_mem_append.mpr ⟨wsr_14, List.forall_mem_append.mpr ⟨wsr_15, List.forall_mem_append.mpr ⟨wsr_16, List.forall_mem_append.mpr ⟨wsr_17, List.forall_mem_append.mpr ⟨wsr_18, List.forall_mem_append.mpr ⟨wsr_19, List.forall_mem_append.mpr ⟨wsr_20, List.forall_mem_append.mpr ⟨wsr_21, List.forall_mem_append.mpr ⟨wsr_22, List.forall_mem_append.mpr ⟨wsr_23, List.forall_mem_append.mpr ⟨wsr_24, List.forall_mem_append.mpr ⟨wsr_25, List.forall_mem_append.mpr ⟨wsr_26, List.forall_mem_append.mpr ⟨wsr_27, List.forall_mem_append.mpr ⟨wsr_28, List.forall_mem_append.mpr ⟨wsr_29, List.forall_mem_append.mpr ⟨wsr_30, List.forall_mem_append.mpr ⟨wsr_31, List.forall_mem_append.mpr ⟨wsr_32, List.forall_mem_append.mpr ⟨wsr_33, List.forall_mem_append.mpr ⟨wsr_34, List.forall_mem_append.mpr ⟨wsr_35, List.forall_mem_append.mpr ⟨wsr_36, List.forall_mem_append.mpr ⟨wsr_37, List.forall_mem_append.mpr ⟨wsr_38, List.forall_mem_append.mpr ⟨wsr_39, List.forall_mem_append.mpr ⟨wsr_40, List.forall_mem_append.mpr ⟨wsr_41, wsr_42⟩⟩⟩⟩⟩⟩⟩⟩⟩⟩⟩⟩⟩⟩⟩⟩⟩⟩⟩⟩⟩⟩⟩⟩⟩⟩⟩⟩⟩⟩⟩⟩⟩⟩⟩⟩⟩⟩⟩⟩⟩, wsx_5⟩, wsx_6⟩, wsx_4⟩, wsx_2⟩, wsx_1⟩, wsx_3⟩, wsx_0⟩, fun _ h => absurd h List.not_mem_nil⟩
theorem wsG_good : ∀ w ∈ wsG, goodWord w = true := List.forall_mem_append.mpr ⟨List.forall_mem_append.mpr ⟨List.forall_mem_append.mpr ⟨List.forall_mem_append.mpr ⟨List.forall_mem_append.mpr ⟨List.forall_mem_append.mpr ⟨List.forall_mem_append.mpr ⟨List.forall_mem_append.mpr ⟨List.forall_mem_append.mpr ⟨List.all_eq_true.mp wsg_1, List.forall_mem_append.mpr ⟨List.all_eq_true.mp wsg_2, List.forall_mem_append.mpr ⟨List.all_eq_true.mp wsg_3, List.forall_mem_append.mpr ⟨List.all_eq_true.mp wsg_4, List.forall_mem_append.mpr ⟨List.all_eq_true.mp wsg_5, List.forall_mem_append.mpr ⟨List.all_eq_true.mp wsg_6, List.forall_mem_append.mpr ⟨List.all_eq_true.mp wsg_7, List.forall_mem_append.mpr ⟨List.all_eq_true.mp wsg_8, List.forall_mem_append.mpr ⟨List.all_eq_true.mp wsg_9, List.forall_mem_append.mpr ⟨List.all_eq_true.mp wsg_10, List.forall_mem_append.mpr ⟨List.all_eq_true.mp wsg_11, List.forall_mem_append.mpr ⟨List.all_eq_true.mp wsg_12, List.forall_mem_append.mpr ⟨List.all_eq_true.mp wsg_13, List.forall_mem_append.mpr ⟨List.all_eq_true.mp wsg_14, List.forall_mem_append.mpr ⟨List.all_eq_true.mp wsg_15, List.forall_mem_append.mpr ⟨List.all_eq_true.mp wsg_16, List.forall_mem_append.mpr ⟨List.all_eq_true.mp wsg_17, List.forall_mem_append.mpr ⟨List.all_eq_true.mp wsg_18, List.forall_mem_append.mpr ⟨List.all_eq_true.mp wsg_19, List.forall_mem_append.mpr ⟨List.all_eq_true.mp wsg_20, List.forall_mem_append.mpr ⟨List.all_eq_true.mp wsg_21, List.forall_mem_append.mpr ⟨List.all_eq_true.mp wsg_22, List.forall_mem_append.mpr ⟨List.all_eq_true.mp wsg_23, List.forall_mem_append.mpr ⟨List.all_eq_true.mp wsg_24, List.forall_mem_append.mpr ⟨List.all_eq_true.mp wsg_25, List.forall_mem_append.mpr ⟨List.all_eq_true.mp wsg_26, List.forall_mem_append.mpr ⟨List.all_eq_true.mp wsg_27, List.forall_mem_append.mpr ⟨List.all_eq_true.mp wsg_28, List.forall_mem_append.mpr ⟨List.all_eq_true.mp wsg_29, List.forall_mem_append.mpr ⟨List.all_eq_true.mp wsg_30, List.forall_mem_append.mpr ⟨List.all_eq_true.mp wsg_31, List.forall_mem_append.mpr ⟨List.all_eq_true.mp wsg_32, List.forall_mem_append.mpr ⟨List.all_eq_true.mp wsg_33, List.forall_mem_append.mpr ⟨List.all_eq_true.mp wsg_34, List.forall_mem_append.mpr ⟨List.all_eq_true.mp wsg_35, List.forall_mem_append.mpr ⟨List.all_eq_true.mp wsg_36, List.forall_mem_append.mpr ⟨List.all_eq_true.mp wsg_37, List.forall_mem_append.mpr ⟨List.all_eq_true.mp wsg_38, List.forall_mem_append.mpr ⟨List.all_eq_true.mp wsg_39, List.forall_mem_append.mpr ⟨List.all_eq_true.mp wsg_40, List.forall_mem_append.mpr ⟨List.all_eq_true.mp wsg_41, List.all_eq_true.mp wsg_42⟩⟩⟩⟩⟩⟩⟩⟩⟩⟩⟩⟩⟩⟩⟩⟩⟩⟩⟩⟩⟩⟩⟩⟩⟩⟩⟩⟩⟩⟩⟩⟩⟩⟩⟩⟩⟩⟩⟩⟩⟩, List.all_eq_true.mp wsxg_5⟩, List.all_eq_true.mp wsxg_6⟩, List.all_eq_true.mp wsxg_4⟩, List.all_eq_true.mp wsxg_2⟩, List.all_eq_true.mp wsxg_1⟩, List.all_eq_true.mp wsxg_3⟩, List.all_eq_true.mp wsxg_0⟩, fun _ h => absurd h List.not_mem_nil⟩
theorem wsm_1 {i : Nat} {w : Jvm.Cond} (h : wsL_law_r1[i]? = some w) : w ∈ wsG := (List.mem_append_left _ (List.mem_append_left _ (List.mem_append_left _ (List.mem_append_left _ (List.mem_append_left _ (List.mem_append_left _ (List.mem_append_left _ (List.mem_append_left _ (List.mem_append_left _ (List.mem_of_getElem? h))))))))))
theorem wsm_2 {i : Nat} {w : Jvm.Cond} (h : wsL_law_r2[i]? = some w) : w ∈ wsG := (List.mem_append_left _ (List.mem_append_left _ (List.mem_append_left _ (List.mem_append_left _ (List.mem_append_left _ (List.mem_append_left _ (List.mem_append_left _ (List.mem_append_left _ (List.mem_append_right _ (List.mem_append_left _ (List.mem_of_getElem? h)))))))))))
theorem wsm_3 {i : Nat} {w : Jvm.Cond} (h : wsL_law_r3[i]? = some w) : w ∈ wsG := (List.mem_append_left _ (List.mem_append_left _ (List.mem_append_left _ (List.mem_append_left _ (List.mem_append_left _ (List.mem_append_left _ (List.mem_append_left _ (List.mem_append_left _ (List.mem_append_right _ (List.mem_append_right _ (List.mem_append_left _ (List.mem_of_getElem? h))))))))))))
theorem wsm_4 {i : Nat} {w : Jvm.Cond} (h : wsL_law_r4[i]? = some w) : w ∈ wsG := (List.mem_append_left _ (List.mem_append_left _ (List.mem_append_left _ (List.mem_append_left _ (List.mem_append_left _ (List.mem_append_left _ (List.mem_append_left _ (List.mem_append_left _ (List.mem_append_right _ (List.mem_append_right _ (List.mem_append_right _ (List.mem_append_left _ (List.mem_of_getElem? h)))))))))))))
theorem wsm_5 {i : Nat} {w : Jvm.Cond} (h : wsL_law_r5[i]? = some w) : w ∈ wsG := (List.mem_append_left _ (List.mem_append_left _ (List.mem_append_left _ (List.mem_append_left _ (List.mem_append_left _ (List.mem_append_left _ (List.mem_append_left _ (List.mem_append_left _ (List.mem_append_right _ (List.mem_append_right _ (List.mem_append_right _ (List.mem_append_right _ (List.mem_append_left _ (List.mem_of_getElem? h))))))))))))))
theorem wsm_6 {i : Nat} {w : Jvm.Cond} (h : wsL_law_r6[i]? = some w) : w ∈ wsG := (List.mem_append_left _ (List.mem_append_left _ (List.mem_append_left _ (List.mem_append_left _ (List.mem_append_left _ (List.mem_append_left _ (List.mem_append_left _ (List.mem_append_left _ (List.mem_append_right _ (List.mem_append_right _ (List.mem_append_right _ (List.mem_append_right _ (List.mem_append_right _ (List.mem_append_left _ (List.mem_of_getElem? h)))))))))))))))
theorem wsm_7 {i : Nat} {w : Jvm.Cond} (h : wsL_law_r7[i]? = some w) : w ∈ wsG := (List.mem_append_left _ (List.mem_append_left _ (List.mem_append_left _ (List.mem_append_left _ (List.mem_append_left _ (List.mem_append_left _ (List.mem_append_left _ (List.mem_append_left _ (List.mem_append_right _ (List.mem_append_right _ (List.mem_append_right _ (List.mem_append_right _ (List.mem_append_right _ (List.mem_append_right _ (List.mem_append_left _ (List.mem_of_getElem? h))))))))))))))))
theorem wsm_8 {i : Nat} {w : Jvm.Cond} (h : wsL_law_r8[i]? = some w) : w ∈ wsG := (List.mem_append_left _ (List.mem_append_left _ (List.mem_append_left _ (List.mem_append_left _ (List.mem_append_left _ (List.mem_append_left _ (List.mem_append_left _ (List.mem_append_left _ (List.mem_append_right _ (List.mem_append_right _ (List.mem_append_right _ (List.mem_append_right _ (List.mem_append_right _ (List.mem_append_right _ (List.mem_append_right _ (List.mem_append_left _ (List.mem_of_getElem? h)))))))))))))))))
theorem wsm_9 {i : Nat} {w : Jvm.Cond} (h : wsL_law_r9[i]? = some w) : w ∈ wsG := (List.mem_append_left _ (List.mem_append_left _ (List.mem_append_left _ (List.mem_append_left _ (List.mem_append_left _ (List.mem_append_left _ (List.mem_append_left _ (List.mem_append_left _ (List.mem_append_right _ (List.mem_append_right _ (List.mem_append_right _ (List.mem_append_right _ (List.mem_append_right _ (List.mem_append_right _ (List.mem_append_right _ (List.mem_append_right _ (List.mem_append_left _ (List.mem_of_getElem? h))))))))))))))))))
theorem wsm_10 {i : Nat} {w : Jvm.Cond} (h : wsL_law_r10[i]? = some w) : w ∈ wsG := (List.mem_append_left _ (List.mem_append_left _ (List.mem_append_left _ (List.mem_append_left _ (List.mem_append_left _ (List.mem_append_left _ (List.mem_append_left _ (List.mem_append_left _ (List.mem_append_right _ (List.mem_append_right _ (List.mem_append_right _ (List.mem_append_right _ (List.mem_append_right _ (List.mem_append_right _ (List.mem_append_right _ (List.mem_append_right _ (List.mem_append_right _ (List.mem_append_left _ (List.mem_of_getElem? h)))))))))))))))))))
theorem wsm_11 {i : Nat} {w : Jvm.Cond} (h : wsL_law_r11[i]? = some w) : w ∈ wsG := (List.mem_append_left _ (List.mem_append_left _ (List.mem_append_left _ (List.mem_append_left _ (List.mem_append_left _ (List.mem_append_left _ (List.mem_append_left _ (List.mem_append_left _ (List.mem_append_right _ (List.mem_append_right _ (List.mem_append_right _ (List.mem_append_right _ (List.mem_append_right _ (List.mem_append_right _ (List.mem_append_right _ (List.mem_append_right _ (List.mem_append_right _ (List.mem_append_right _ (List.mem_append_left _ (List.mem_of_getElem? h))))))))))))))))))))
theorem wsm_12 {i : Nat} {w : Jvm.Cond} (h : wsL_law_r12[i]? = some w) : w ∈ wsG := (List.mem_append_left _ (List.mem_append_left _ (List.mem_append_left _ (List.mem_append_left _ (List.mem_append_left _ (List.mem_append_left _ (List.mem_append_left _ (List.mem_append_left _ (List.mem_append_right _ (List.mem_append_right _ (List.mem_append_right _ (List.mem_append_right _ (List.mem_append_right _ (List.mem_append_right _ (List.mem_append_right _ (List.mem_append_right _ (List.mem_append_right _ (List.mem_append_right _ (List.mem_append_right _ (List.mem_append_left _ (List.mem_of_getElem? h)))))))))))))))))))))
theorem wsm_13 {i : Nat} {w : Jvm.Cond} (h : wsL_law_r13[i]? = some w) : w ∈ wsG := (List.mem_append_left _ (List.mem_append_left _ (List.mem_append_left _ (List.mem_append_left _ (List.mem_append_left _ (List.mem_append_left _ (List.mem_append_left _ (List.mem_append_left _ (List.mem_append_right _ (List.mem_append_right _ (List.mem_append_right _ (List.mem_append_right _ (List.mem_append_right _ (List.mem_append_right _ (List.mem_append_right _ (List.mem_append_right _ (List.mem_append_right _ (List.mem_append_right _ (List.mem_append_right _ (List.mem_append_right _ (List.mem_append_left _ (List.mem_of_getElem? h))))))))))))))))))))))
theorem wsm_14 {i : Nat} {w : Jvm.Cond} (h : wsL_law_r14[i]? = some w) : w ∈ wsG := (List.mem_append_left _ (List.mem_append_left _ (List.mem_append_left _ (List.mem_append_left _ (List.mem_append_left _ (List.mem_append_left _ (List.mem_append_left _ (List.mem_append_left _ (List.mem_append_right _ (List.mem_append_right _ (List.mem_append_right _ (List.mem_append_right _ (List.mem_append_right _ (List.mem_append_right _ (List.mem_append_right _ (List.mem_append_right _ (List.mem_append_right _ (List.mem_append_right _ (List.mem_append_right _ (List.mem_append_right _ (List.mem_append_right _ (List.mem_append_left _ (List.mem_of_getElem? h)))))))))))))))))))))))
theorem wsm_15 {i : Nat} {w : Jvm.Cond} (h : wsL_law_r15[i]? = some w) : w ∈ wsG := (List.mem_append_left _ (List.mem_append_left _ (List.mem_append_left _ (List.mem_append_left _ (List.mem_append_left _ (List.mem_append_left _ (List.mem_append_left _ (List.mem_append_left _ (List.mem_append_right _ (List.mem_append_right _ (List.mem_append_right _ (List.mem_append_right _ (List.mem_append_right _ (List.mem_append_right _ (List.mem_append_right _ (List.mem_append_right _ (List.mem_append_right _ (List.mem_append_right _ (List.mem_append_right _ (List.mem_append_right _ (List.mem_append_right _ (List.mem_append_right _ (List.mem_append_left _ (List.mem_of_getElem? h))))))))))))))))))))))))
theorem wsm_16 {i : Nat} {w : Jvm.Cond} (h : wsL_law_r16[i]? = some w) : w ∈ wsG := (List.mem_append_left _ (List.mem_append_left _ (List.mem_append_left _ (List.mem_append_left _ (List.mem_append_left _ (List.mem_append_left _ (List.mem_append_left _ (List.mem_append_left _ (List.mem_append_right _ (List.mem_append_right _ (List.mem_append_right _ (List.mem_append_right _ (List.mem_append_right _ (List.mem_append_right _ (List.mem_append_right _ (List.mem_append_right _ (List.mem_append_right _ (List.mem_append_right _ (List.mem_append_right _ (List.mem_append_right _ (List.mem_append_right _ (List.mem_append_right _ (List.mem_append_right _ (List.mem_append_left _ (List.mem_of_getElem? h)))))))))))))))))))))))))
theorem wsm_17 {i : Nat} {w : Jvm.Cond} (h : wsL_law_r17[i]? = some w) : w ∈ wsG := (List.mem_append_left _ (List.mem_append_left _ (List.mem_append_left _ (List.mem_append_left _ (List.mem_append_left _ (List.mem_append_left _ (List.mem_append_left _ (List.mem_append_left _ (List.mem_append_right _ (List.mem_append_right _ (List.mem_append_right _ (List.mem_append_right _ (List.mem_append_right _ (List.mem_append_right _ (List.mem_append_right _ (List.mem_append_right _ (List.mem_append_right _ (List.mem_append_right _ (List.mem_append_right _ (List.mem_append_right _ (List.mem_append_right _ (List.mem_append_right _ (List.mem_append_right _ (List.mem_append_right _ (List.mem_append_left _ (List.mem_of_getElem? h))))))))))))))))))))))))))
theorem wsm_18 {i : Nat} {w : Jvm.Cond} (h : wsL_law_r18[i]? = some w) : w ∈ wsG := (List.mem_append_left _ (List.mem_append_left _ (List.mem_append_left _ (List.mem_append_left _ (List.mem_append_left _ (List.mem_append_left _ (List.mem_append_left _ (List.mem_append_left _ (List.mem_append_right _ (List.mem_append_right _ (List.mem_append_right _ (List.mem_append_right _ (List.mem_append_right _ (List.mem_append_right _ (List.mem_append_right _ (List.mem_append_right _ (List.mem_append_right _ (List.mem_append_right _ (List.mem_append_right _ (List.mem_append_right _ (List.mem_append_right _ (List.mem_append_right _ (List.mem_append_right _ (List.mem_append_right _ (List.mem_append_right _ (List.mem_append_left _ (List.mem_of_getElem? h)))))))))))))))))))))))))))
theorem wsm_19 {i : Nat} {w : Jvm.Cond} (h : wsL_law_r19[i]? = some w) : w ∈ wsG := (List.mem_append_left _ (List.mem_append_left _ (List.mem_append_left _ (List.mem_append_left _ (List.mem_append_left _ (List.mem_append_left _ (List.mem_append_left _ (List.mem_append_left _ (List.mem_append_right _ (List.mem_append_right _ (List.mem_append_right _ (List.mem_append_right _ (List.mem_append_right _ (List.mem_append_right _ (List.mem_append_right _ (List.mem_append_right _ (List.mem_append_right _ (List.mem_append_right _ (List.mem_append_right _ (List.mem_append_right _ (List.mem_append_right _ (List.mem_append_right _ (List.mem_append_right _ (List.mem_append_right _ (List.mem_append_right _ (List.mem_append_right _ (List.mem_append_left _ (List.mem_of_getElem? h))))))))))))))))))))))))))))
theorem wsm_20 {i : Nat} {w : Jvm.Cond} (h : wsL_law_r20[i]? = some w) : w ∈ wsG := (List.mem_append_left _ (List.mem_append_left _ (List.mem_append_left _ (List.mem_append_left _ (List.mem_append_left _ (List.mem_append_left _ (List.mem_append_left _ (List.mem_append_left _ (List.mem_append_right _ (List.mem_append_right _ (List.mem_append_right _ (List.mem_append_right _ (List.mem_append_right _ (List.mem_append_right _ (List.mem_append_right _ (List.mem_append_right _ (List.mem_append_right _ (List.mem_append_right _ (List.mem_append_right _ (List.mem_append_right _ (List.mem_append_right _ (List.mem_append_right _ (List.mem_append_right _ (List.mem_append_right _ (List.mem_append_right _ (List.mem_append_right _ (List.mem_append_right _ (List.mem_append_left _ (List.mem_of_getElem? h)))))))))))))))))))))))))))))
theorem wsm_21 {i : Nat} {w : Jvm.Cond} (h : wsL_law_r21[i]? = some w) : w ∈ wsG := (List.mem_append_left _ (List.mem_append_left _ (List.mem_append_left _ (List.mem_append_left _ (List.mem_append_left _ (List.mem_append_left _ (List.mem_append_left _ (List.mem_append_left _ (List.mem_append_right _ (List.mem_append_right _ (List.mem_append_right _ (List.mem_append_right _ (List.mem_append_right _ (List.mem_append_right _ (List.mem_append_right _ (List.mem_append_right _ (List.mem_append_right _ (List.mem_append_right _ (List.mem_append_right _ (List.mem_append_right _ (List.mem_append_right _ (List.mem_append_right _ (List.mem_append_right _ (List.mem_append_right _ (List.mem_append_right _ (List.mem_append_right _ (List.mem_append_right _ (List.mem_append_right _ (List.mem_append_left _ (List.mem_of_getElem? h))))))))))))))))))))))))))))))
theorem wsm_22 {i : Nat} {w : Jvm.Cond} (h : wsL_law_r22[i]? = some w) : w ∈ wsG := (List.mem_append_left _ (List.mem_append_left _ (List.mem_append_left _ (List.mem_append_left _ (List.mem_append_left _ (List.mem_append_left _ (List.mem_append_left _ (List.mem_append_left _ (List.mem_append_right _ (List.mem_append_right _ (List.mem_append_right _ (List.mem_append_right _ (List.mem_append_right _ (List.mem_append_right _ (List.mem_append_right _ (List.mem_append_right _ (List.mem_append_right _ (List.mem_append_right _ (List.mem_append_right _ (List.mem_append_right _ (List.mem_append_right _ (List.mem_append_right _ (List.mem_append_right _ (List.mem_append_right _ (List.mem_append_right _ (List.mem_append_right _ (List.mem_append_right _ (List.mem_append_right _ (List.mem_append_right _ (List.mem_append_left _ (List.mem_of_getElem? h)))))))))))))))))))))))))))))))
theorem wsm_23 {i : Nat} {w : Jvm.Cond} (h : wsL_law_r23[i]? = some w) : w ∈ wsG := (List.mem_append_left _ (List.mem_append_left _ (List.mem_append_left _ (List.mem_append_left _ (List.mem_append_left _ (List.mem_append_left _ (List.mem_append_left _ (List.mem_append_left _ (List.mem_append_right _ (List.mem_append_right _ (List.mem_append_right _ (List.mem_append_right _ (List.mem_append_right _ (List.mem_append_right _ (List.mem_append_right _ (List.mem_append_right _ (List.mem_append_right _ (List.mem_append_right _ (List.mem_append_right _ (List.mem_append_right _ (List.mem_append_right _ (List.mem_append_right _ (List.mem_append_right _ (List.mem_append_right _ (List.mem_append_right _ (List.mem_append_right _ (List.mem_append_right _ (List.mem_append_right _ (List.mem_append_right _ (List.mem_append_right _ (List.mem_append_left _ (List.mem_of_getElem? h))))))))))))))))))))))))))))))))
theorem wsm_24 {i : Nat} {w : Jvm.Cond} (h : wsL_law_r24[i]? = some w) : w ∈ wsG := (List.mem_append_left _ (List.mem_append_left _ (List.mem_append_left _ (List.mem_append_left _ (List.mem_append_left _ (List.mem_append_left _ (List.mem_append_left _ (List.mem_append_left _ (List.mem_append_right _ (List.mem_append_right _ (List.mem_append_right _ (List.mem_append_right _ (List.mem_append_right _ (List.mem_append_right _ (List.mem_append_right _ (List.mem_append_right _ (List.mem_append_right _ (List.mem_append_right _ (List.mem_append_right _ (List.mem_append_right _ (List.mem_append_right _ (List.mem_append_right _ (List.mem_append_right _ (List.mem_append_right _ (List.mem_append_right _ (List.mem_append_right _ (List.mem_append_right _ (List.mem_append_right _ (List.mem_append_right _ (List.mem_append_right _ (List.mem_append_right _ (List.mem_append_left _ (List.mem_of_getElem? h)))))))))))))))))))))))))))))))))
theorem wsm_25 {i : Nat} {w : Jvm.Cond} (h : wsL_law_r25[i]? = some w) : w ∈ wsG := (List.mem_append_left _ (List.mem_append_left _ (List.mem_append_left _ (List.mem_append_left _ (List.mem_append_left _ (List.mem_append_left _ (List.mem_append_left _ (List.mem_append_left _ (List.mem_append_right _ (List.mem_append_right _ (List.mem_append_right _ (List.mem_append_right _ (List.mem_append_right _ (List.mem_append_right _ (List.mem_append_right _ (List.mem_append_right _ (List.mem_append_right _ (List.mem_append_right _ (List.mem_append_right _ (List.mem_append_right _ (List.mem_append_right _ (List.mem_append_right _ (List.mem_append_right _ (List.mem_append_right _ (List.mem_append_right _ (List.mem_append_right _ (List.mem_append_right _ (List.mem_append_right _ (List.mem_append_right _ (List.mem_append_right _ (List.mem_append_right _ (List.mem_append_right _ (List.mem_append_left _ (List.mem_of_getElem? h))))))))))))))))))))))))))))))))))
theorem wsm_26 {i : Nat} {w : Jvm.Cond} (h : wsL_law_r26[i]? = some w) : w ∈ wsG := (List.mem_append_left _ (List.mem_append_left _ (List.mem_append_left _ (List.mem_append_left _ (List.mem_append_left _ (List.mem_append_left _ (List.mem_append_left _ (List.mem_append_left _ (List.mem_append_right _ (List.mem_append_right _ (List.mem_append_right _ (List.mem_append_right _ (List.mem_append_right _ (List.mem_append_right _ (List.mem_append_right _ (List.mem_append_right _ (List.mem_append_right _ (List.mem_append_right _ (List.mem_append_right _ (List.mem_append_right _ (List.mem_append_right _ (List.mem_append_right _ (List.mem_append_right _ (List.mem_append_right _ (List.mem_append_right _ (List.mem_append_right _ (List.mem_append_right _ (List.mem_append_right _ (List.mem_append_right _ (List.mem_append_right _ (List.mem_append_right _ (List.mem_append_right _ (List.mem_append_right _ (List.mem_append_left _ (List.mem_of_getElem? h)))))))))))))))))))))))))))))))))))
theorem wsm_27 {i : Nat} {w : Jvm.Cond} (h : wsL_law_r27[i]? = some w) : w ∈ wsG := (List.mem_append_left _ (List.mem_append_left _ (List.mem_append_left _ (List.mem_append_left _ (List.mem_append_left _ (List.mem_append_left _ (List.mem_append_left _ (List.mem_append_left _ (List.mem_append_right _ (List.mem_append_right _ (List.mem_append_right _ (List.mem_append_right _ (List.mem_append_right _ (List.mem_append_right _ (List.mem_append_right _ (List.mem_append_right _ (List.mem_append_right _ (List.mem_append_right _ (List.mem_append_right _ (List.mem_append_right _ (List.mem_append_right _ (List.mem_append_right _ (List.mem_append_right _ (List.mem_append_right _ (List.mem_append_right _ (List.mem_append_right _ (List.mem_append_right _ (List.mem_append_right _ (List.mem_append_right _ (List.mem_append_right _ (List.mem_append_right _ (List.mem_append_right _ (List.mem_append_right _ (List.mem_append_right _ (List.mem_append_left _ (List.mem_of_getElem? h))))))))))))))))))))))))))))))))))))
theorem wsm_28 {i : Nat} {w : Jvm.Cond} (h : wsL_law_r28[i]? = some w) : w ∈ wsG := (List.mem_append_left _ (List.mem_append_left _ (List.mem_append_left _ (List.mem_append_left _ (List.mem_append_left _ (List.mem_append_left _ (List.mem_append_left _ (List.mem_append_left _ (List.mem_append_right _ (List.mem_append_right _ (List.mem_append_right _ (List.mem_append_right _ (List.mem_append_right _ (List.mem_append_right _ (List.mem_append_right _ (List.mem_append_right _ (List.mem_append_right _ (List.mem_append_right _ (List.mem_append_right _ (List.mem_append_right _ (List.mem_append_right _ (List.mem_append_right _ (List.mem_append_right _ (List.mem_append_right _ (List.mem_append_right _ (List.mem_append_right _ (List.mem_append_right _ (List.mem_append_right _ (List.mem_append_right _ (List.mem_append_right _ (List.mem_append_right _ (List.mem_append_right _ (List.mem_append_right _ (List.mem_append_right _ (List.mem_append_right _ (List.mem_append_left _ (List.mem_of_getElem? h)))))))))))))))))))))))))))))))))))))
theorem wsm_29 {i : Nat} {w : Jvm.Cond} (h : wsL_law_r29[i]? = some w) : w ∈ wsG := (List.mem_append_left _ (List.mem_append_left _ (List.mem_append_left _ (List.mem_append_left _ (List.mem_append_left _ (List.mem_append_left _ (List.mem_append_left _ (List.mem_append_left _ (List.mem_append_right _ (List.mem_append_right _ (List.mem_append_right _ (List.mem_append_right _ (List.mem_append_right _ (List.mem_append_right _ (List.mem_append_right _ (List.mem_append_right _ (List.mem_append_right _ (List.mem_append_right _ (List.mem_append_right _ (List.mem_append_right _ (List.mem_append_right _ (List.mem_append_right _ (List.mem_append_right _ (List.mem_append_right _ (List.mem_append_right _ (List.mem_append_right _ (List.mem_append_right _ (List.mem_append_right _ (List.mem_append_right _ (List.mem_append_right _ (List.mem_append_right _ (List.mem_append_right _ (List.mem_append_right _ (List.mem_append_right _ (List.mem_append_right _ (List.mem_append_right _ (List.mem_append_left _ (List.mem_of_getElem? h))))))))))))))))))))))))))))))))))))))
theorem wsm_30 {i : Nat} {w : Jvm.Cond} (h : wsL_law_r30[i]? = some w) : w ∈ wsG := (List.mem_append_left _ (List.mem_append_left _ (List.mem_append_left _ (List.mem_append_left _ (List.mem_append_left _ (List.mem_append_left _ (List.mem_append_left _ (List.mem_append_left _ (List.mem_append_right _ (List.mem_append_right _ (List.mem_append_right _ (List.mem_append_right _ (List.mem_append_right _ (List.mem_append_right _ (List.mem_append_right _ (List.mem_append_right _ (List.mem_append_right _ (List.mem_append_right _ (List.mem_append_right _ (List.mem_append_right _ (List.mem_append_right _ (List.mem_append_right _ (List.mem_append_right _ (List.mem_append_right _ (List.mem_append_right _ (List.mem_append_right _ (List.mem_append_right _ (List.mem_append_right _ (List.mem_append_right _ (List.mem_append_right _ (List.mem_append_right _ (List.mem_append_right _ (List.mem_append_right _ (List.mem_append_right _ (List.mem_append_right _ (List.mem_append_right _ (List.mem_append_right _ (List.mem_append_left _ (List.mem_of_getElem? h)))))))))))))))))))))))))))))))))))))))
theorem wsm_31 {i : Nat} {w : Jvm.Cond} (h : wsL_law_r31[i]? = some w) : w ∈ wsG := (List.mem_append_left _ (List.mem_append_left _ (List.mem_append_left _ (List.mem_append_left _ (List.mem_append_left _ (List.mem_append_left _ (List.mem_append_left _ (List.mem_append_left _ (List.mem_append_right _ (List.mem_append_right _ (List.mem_append_right _ (List.mem_append_right _ (List.mem_append_right _ (List.mem_append_right _ (List.mem_append_right _ (List.mem_append_right _ (List.mem_append_right _ (List.mem_append_right _ (List.mem_append_right _ (List.mem_append_right _ (List.mem_append_right _ (List.mem_append_right _ (List.mem_append_right _ (List.mem_append_right _ (List.mem_append_right _ (List.mem_append_right _ (List.mem_append_right _ (List.mem_append_right _ (List.mem_append_right _ (List.mem_append_right _ (List.mem_append_right _ (List.mem_append_right _ (List.mem_append_right _ (List.mem_append_right _ (List.mem_append_right _ (List.mem_append_right _ (List.mem_append_right _ (List.mem_append_right _ (List.mem_append_left _ (List.mem_of_getElem? h))))))))))))))))))))))))))))))))))))))))
theorem wsm_32 {i : Nat} {w : Jvm.Cond} (h : wsL_law_r32[i]? = some w) : w ∈ wsG := (List.mem_append_left _ (List.mem_append_left _ (List.mem_append_left _ (List.mem_append_left _ (List.mem_append_left _ (List.mem_append_left _ (List.mem_append_left _ (List.mem_append_left _ (List.mem_append_right _ (List.mem_append_right _ (List.mem_append_right _ (List.mem_append_right _ (List.mem_append_right _ (List.mem_append_right _ (List.mem_append_right _ (List.mem_append_right _ (List.mem_append_right _ (List.mem_append_right _ (List.mem_append_right _ (List.mem_append_right _ (List.mem_append_right _ (List.mem_append_right _ (List.mem_append_right _ (List.mem_append_right _ (List.mem_append_right _ (List.mem_append_right _ (List.mem_append_right _ (List.mem_append_right _ (List.mem_append_right _ (List.mem_append_right _ (List.mem_append_right _ (List.mem_append_right _ (List.mem_append_right _ (List.mem_append_right _ (List.mem_append_right _ (List.mem_append_right _ (List.mem_append_right _ (List.mem_append_right _ (List.mem_append_right _ (List.mem_append_left _ (List.mem_of_getElem? h)))))))))))))))))))))))))))))))))))))))))
theorem wsm_33 {i : Nat} {w : Jvm.Cond} (h : wsL_law_r33[i]? = some w) : w ∈ wsG := (List.mem_append_left _ (List.mem_append_left _ (List.mem_append_left _ (List.mem_append_left _ (List.mem_append_left _ (List.mem_append_left _ (List.mem_append_left _ (List.mem_append_left _ (List.mem_append_right _ (List.mem_append_right _ (List.mem_append_right _ (List.mem_append_right _ (List.mem_append_right _ (List.mem_append_right _ (List.mem_append_right _ (List.mem_append_right _ (List.mem_append_right _ (List.mem_append_right _ (List.mem_append_right _ (List.mem_append_right _ (List.mem_append_right _ (List.mem_append_right _ (List.mem_append_right _ (List.mem_append_right _ (List.mem_append_right _ (List.mem_append_right _ (List.mem_append_right _ (List.mem_append_right _ (List.mem_append_right _ (List.mem_append_right _ (List.mem_append_right _ (List.mem_append_right _ (List.mem_append_right _ (List.mem_append_right _ (List.mem_append_right _ (List.mem_append_right _ (List.mem_append_right _ (List.mem_append_right _ (List.mem_append_right _ (List.mem_append_right _ (List.mem_append_left _ (List.mem_of_getElem? h))))))))))))))))))))))))))))))))))))))))))
theorem wsm_34 {i : Nat} {w : Jvm.Cond} (h : wsL_law_r34[i]? = some w) : w ∈ wsG := (List.mem_append_left _ (List.mem_append_left _ (List.mem_append_left _ (List.mem_append_left _ (List.mem_append_left _ (List.mem_append_left _ (List.mem_append_left _ (List.mem_append_left _ (List.mem_append_right _ (List.mem_append_right _ (List.mem_append_right _ (List.mem_append_right _ (List.mem_append_right _ (List.mem_append_right _ (List.mem_append_right _ (List.mem_append_right _ (List.mem_append_right _ (List.mem_append_right _ (List.mem_append_right _ (List.mem_append_right _ (List.mem_append_right _ (List.mem_append_right _ (List.mem_append_right _ (List.mem_append_right _ (List.mem_append_right _ (List.mem_append_right _ (List.mem_append_right _ (List.mem_append_right _ (List.mem_append_right _ (List.mem_append_right _ (List.mem_append_right _ (List.mem_append_right _ (List.mem_append_right _ (List.mem_append_right _ (List.mem_append_right _ (List.mem_append_right _ (List.mem_append_right _ (List.mem_append_right _ (List.mem_append_right _ (List.mem_append_right _ (List.mem_append_right _ (List.mem_append_left _ (List.mem_of_getElem? h)))))))))))))))))))))))))))))))))))))))))))
theorem wsm_35 {i : Nat} {w : Jvm.Cond} (h : wsL_law_r35[i]? = some w) : w ∈ wsG := (List.mem_append_left _ (List.mem_append_left _ (List.mem_append_left _ (List.mem_append_left _ (List.mem_append_left _ (List.mem_append_left _ (List.mem_append_left _ (List.mem_append_left _ (List.mem_append_right _ (List.mem_append_right _ (List.mem_append_right _ (List.mem_append_right _ (List.mem_append_right _ (List.mem_append_right _ (List.mem_append_right _ (List.mem_append_right _ (List.mem_append_right _ (List.mem_append_right _ (List.mem_append_right _ (List.mem_append_right _ (List.mem_append_right _ (List.mem_append_right _ (List.mem_append_right _ (List.mem_append_right _ (List.mem_append_right _ (List.mem_append_right _ (List.mem_append_right _ (List.mem_append_right _ (List.mem_append_right _ (List.mem_append_right _ (List.mem_append_right _ (List.mem_append_right _ (List.mem_append_right _ (List.mem_append_right _ (List.mem_append_right _ (List.mem_append_right _ (List.mem_append_right _ (List.mem_append_right _ (List.mem_append_right _ (List.mem_append_right _ (List.mem_append_right _ (List.mem_append_right _ (List.mem_append_left _ (List.mem_of_getElem? h))))))))))))))))))))))))))))))))))))))))))))
theorem wsm_36 {i : Nat} {w : Jvm.Cond} (h : wsL_law_r36[i]? = some w) : w ∈ wsG := (List.mem_append_left _ (List.mem_append_left _ (List.mem_append_left _ (List.mem_append_left _ (List.mem_append_left _ (List.mem_append_left _ (List.mem_append_left _ (List.mem_append_left _ (List.mem_append_right _ (List.mem_append_right _ (List.mem_append_right _ (List.mem_append_right _ (List.mem_append_right _ (List.mem_append_right _ (List.mem_append_right _ (List.mem_append_right _ (List.mem_append_right _ (List.mem_append_right _ (List.mem_append_right _ (List.mem_append_right _ (List.mem_append_right _ (List.mem_append_right _ (List.mem_append_right _ (List.mem_append_right _ (List.mem_append_right _ (List.mem_append_right _ (List.mem_append_right _ (List.mem_append_right _ (List.mem_append_right _ (List.mem_append_right _ (List.mem_append_right _ (List.mem_append_right _ (List.mem_append_right _ (List.mem_append_right _ (List.mem_append_right _ (List.mem_append_right _ (List.mem_append_right _ (List.mem_append_right _ (List.mem_append_right _ (List.mem_append_right _ (List.mem_append_right _ (List.mem_append_right _ (List.mem_append_right _ (List.mem_append_left _ (List.mem_of_getElem? h)))))))))))))))))))))))))))))))))))))))))))))
theorem wsm_37 {i : Nat} {w : Jvm.Cond} (h : wsL_law_r37[i]? = some w) : w ∈ wsG := (List.mem_append_left _ (List.mem_append_left _ (List.mem_append_left _ (List.mem_append_left _ (List.mem_append_left _ (List.mem_append_left _ (List.mem_append_left _ (List.mem_append_left _ (List.mem_append_right _ (List.mem_append_right _ (List.mem_append_right _ (List.mem_append_right _ (List.mem_append_right _ (List.mem_append_right _ (List.mem_append_right _ (List.mem_append_right _ (List.mem_append_right _ (List.mem_append_right _ (List.mem_append_right _ (List.mem_append_right _ (List.mem_append_right _ (List.mem_append_right _ (List.mem_append_right _ (List.mem_append_right _ (List.mem_append_right _ (List.mem_append_right _ (List.mem_append_right _ (List.mem_append_right _ (List.mem_append_right _ (List.mem_append_right _ (List.mem_append_right _ (List.mem_append_right _ (List.mem_append_right _ (List.mem_append_right _ (List.mem_append_right _ (List.mem_append_right _ (List.mem_append_right _ (List.mem_append_right _ (List.mem_append_right _ (List.mem_append_right _ (List.mem_append_right _ (List.mem_append_right _ (List.mem_append_right _ (List.mem_append_right _ (List.mem_append_left _ (List.mem_of_getElem? h))))))))))))))))))))))))))))))))))))))))))))))
theorem wsm_38 {i : Nat} {w : Jvm.Cond} (h : wsL_law_r38[i]? = some w) : w ∈ wsG := (List.mem_append_left _ (List.mem_append_left _ (List.mem_append_left _ (List.mem_append_left _ (List.mem_append_left _ (List.mem_append_left _ (List.mem_append_left _ (List.mem_append_left _ (List.mem_append_right _ (List.mem_append_right _ (List.mem_append_right _ (List.mem_append_right _ (List.mem_append_right _ (List.mem_append_right _ (List.mem_append_right _ (List.mem_append_right _ (List.mem_append_right _ (List.mem_append_right _ (List.mem_append_right _ (List.mem_append_right _ (List.mem_append_right _ (List.mem_append_right _ (List.mem_append_right _ (List.mem_append_right _ (List.mem_append_right _ (List.mem_append_right _ (List.mem_append_right _ (List.mem_append_right _ (List.mem_append_right _ (List.mem_append_right _ (List.mem_append_right _ (List.mem_append_right _ (List.mem_append_right _ (List.mem_append_right _ (List.mem_append_right _ (List.mem_append_right _ (List.mem_append_right _ (List.mem_append_right _ (List.mem_append_right _ (List.mem_append_right _ (List.mem_append_right _ (List.mem_append_right _ (List.mem_append_right _ (List.mem_append_right _ (List.mem_append_right _ (List.mem_append_left _ (List.mem_of_getElem? h)))))))))))))))))))))))))))))))))))))))))))))))
theorem wsm_39 {i : Nat} {w : Jvm.Cond} (h : wsL_law_r39[i]? = some w) : w ∈ wsG := (List.mem_append_left _ (List.mem_append_left _ (List.mem_append_left _ (List.mem_append_left _ (List.mem_append_left _ (List.mem_append_left _ (List.mem_append_left _ (List.mem_append_left _ (List.mem_append_right _ (List.mem_append_right _ (List.mem_append_right _ (List.mem_append_right _ (List.mem_append_right _ (List.mem_append_right _ (List.mem_append_right _ (List.mem_append_right _ (List.mem_append_right _ (List.mem_append_right _ (List.mem_append_right _ (List.mem_append_right _ (List.mem_append_right _ (List.mem_append_right _ (List.mem_append_right _ (List.mem_append_right _ (List.mem_append_right _ (List.mem_append_right _ (List.mem_append_right _ (List.mem_append_right _ (List.mem_append_right _ (List.mem_append_right _ (List.mem_append_right _ (List.mem_append_right _ (List.mem_append_right _ (List.mem_append_right _ (List.mem_append_right _ (List.mem_append_right _ (List.mem_append_right _ (List.mem_append_right _ (List.mem_append_right _ (List.mem_append_right _ (List.mem_append_right _ (List.mem_append_right _ (List.mem_append_right _ (List.mem_append_right _ (List.mem_append_right _ (List.mem_append_right _ (List.mem_append_left _ (List.mem_of_getElem? h))))))))))))))))))))))))))))))))))))))))))))))))
theorem wsm_40 {i : Nat} {w : Jvm.Cond} (h : wsL_law_r40[i]? = some w) : w ∈ wsG := (List.mem_append_left _ (List.mem_append_left _ (List.mem_append_left _ (List.mem_append_left _ (List.mem_append_left _ (List.mem_append_left _ (List.mem_append_left _ (List.mem_append_left _ (List.mem_append_right _ (List.mem_append_right _ (List.mem_append_right _ (List.mem_append_right _ (List.mem_append_right _ (List.mem_append_right _ (List.mem_append_right _ (List.mem_append_right _ (List.mem_append_right _ (List.mem_append_right _ (List.mem_append_right _ (List.mem_append_right _ (List.mem_append_right _ (List.mem_append_right _ (List.mem_append_right _ (List.mem_append_right _ (List.mem_append_right _ (List.mem_append_right _ (List.mem_append_right _ (List.mem_append_right _ (List.mem_append_right _ (List.mem_append_right _ (List.mem_append_right _ (List.mem_append_right _ (List.mem_append_right _ (List.mem_append_right _ (List.mem_append_right _ (List.mem_append_right _ (List.mem_append_right _ (List.mem_append_right _ (List.mem_append_right _ (List.mem_append_right _ (List.mem_append_right _ (List.mem_append_right _ (List.mem_append_right _ (List.mem_append_right _ (List.mem_append_right _ (List.mem_append_right _ (List.mem_append_right _ (List.mem_append_left _ (List.mem_of_getElem? h)))))))))))))))))))))))))))))))))))))))))))))))))
theorem wsm_41 {i : Nat} {w : Jvm.Cond} (h : wsL_law_r41[i]? = some w) : w ∈ wsG := (List.mem_append_left _ (List.mem_append_left _ (List.mem_append_left _ (List.mem_append_left _ (List.mem_append_left _ (List.mem_append_left _ (List.mem_append_left _ (List.mem_append_left _ (List.mem_append_right _ (List.mem_append_right _ (List.mem_append_right _ (List.mem_append_right _ (List.mem_append_right _ (List.mem_append_right _ (List.mem_append_right _ (List.mem_append_right _ (List.mem_append_right _ (List.mem_append_right _ (List.mem_append_right _ (List.mem_append_right _ (List.mem_append_right _ (List.mem_append_right _ (List.mem_append_right _ (List.mem_append_right _ (List.mem_append_right _ (List.mem_append_right _ (List.mem_append_right _ (List.mem_append_right _ (List.mem_append_right _ (List.mem_append_right _ (List.mem_append_right _ (List.mem_append_right _ (List.mem_append_right _ (List.mem_append_right _ (List.mem_append_right _ (List.mem_append_right _ (List.mem_append_right _ (List.mem_append_right _ (List.mem_append_right _ (List.mem_append_right _ (List.mem_append_right _ (List.mem_append_right _ (List.mem_append_right _ (List.mem_append_right _ (List.mem_append_right _ (List.mem_append_right _ (List.mem_append_right _ (List.mem_append_right _ (List.mem_append_left _ (List.mem_of_getElem? h))))))))))))))))))))))))))))))))))))))))))))))))))
theorem wsm_42 {i : Nat} {w : Jvm.Cond} (h : wsL_law_r42[i]? = some w) : w ∈ wsG := (List.mem_append_left _ (List.mem_append_left _ (List.mem_append_left _ (List.mem_append_left _ (List.mem_append_left _ (List.mem_append_left _ (List.mem_append_left _ (List.mem_append_left _ (List.mem_append_right _ (List.mem_append_right _ (List.mem_append_right _ (List.mem_append_right _ (List.mem_append_right _ (List.mem_append_right _ (List.mem_append_right _ (List.mem_append_right _ (List.mem_append_right _ (List.mem_append_right _ (List.mem_append_right _ (List.mem_append_right _ (List.mem_append_right _ (List.mem_append_right _ (List.mem_append_right _ (List.mem_append_right _ (List.mem_append_right _ (List.mem_append_right _ (List.mem_append_right _ (List.mem_append_right _ (List.mem_append_right _ (List.mem_append_right _ (List.mem_append_right _ (List.mem_append_right _ (List.mem_append_right _ (List.mem_append_right _ (List.mem_append_right _ (List.mem_append_right _ (List.mem_append_right _ (List.mem_append_right _ (List.mem_append_right _ (List.mem_append_right _ (List.mem_append_right _ (List.mem_append_right _ (List.mem_append_right _ (List.mem_append_right _ (List.mem_append_right _ (List.mem_append_right _ (List.mem_append_right _ (List.mem_append_right _ (List.mem_append_right _ (List.mem_of_getElem? h))))))))))))))))))))))))))))))))))))))))))))))))))
theorem wsm_43 {i : Nat} {w : Jvm.Cond} (h : wsL_law_r43[i]? = some w) : w ∈ wsL_law_r43 := List.mem_of_getElem? h
theorem inlX5 : ∀ w ∈ wsX50, w ∈ wsG := fun _ h => (List.mem_append_left _ (List.mem_append_left _ (List.mem_append_left _ (List.mem_append_left _ (List.mem_append_left _ (List.mem_append_left _ (List.mem_append_left _ (List.mem_append_right _ h))))))))
theorem inlX6 : ∀ w ∈ wsX60, w ∈ wsG := fun _ h => (List.mem_append_left _ (List.mem_append_left _ (List.mem_append_left _ (List.mem_append_left _ (List.mem_append_left _ (List.mem_append_left _ (List.mem_append_right _ h)))))))
theorem inlX4 : ∀ w ∈ wsX40, w ∈ wsG := fun _ h => (List.mem_append_left _ (List.mem_append_left _ (List.mem_append_left _ (List.mem_append_left _ (List.mem_append_left _ (List.mem_append_right _ h))))))
theorem inlX2 : ∀ w ∈ wsX20, w ∈ wsG := fun _ h => (List.mem_append_left _ (List.mem_append_left _ (List.mem_append_left _ (List.mem_append_left _ (List.mem_append_right _ h)))))
theorem inlX1 : ∀ w ∈ wsX10, w ∈ wsG := fun _ h => (List.mem_append_left _ (List.mem_append_left _ (List.mem_append_left _ (List.mem_append_right _ h))))
theorem inlX3 : ∀ w ∈ wsX30, w ∈ wsG := fun _ h => (List.mem_append_left _ (List.mem_append_left _ (List.mem_append_right _ h)))
theorem inlX0 : ∀ w ∈ wsX00, w ∈ wsG := fun _ h => (List.mem_append_left _ (List.mem_append_right _ h))
theorem ws_nest : ∀ w ∈ wsL_law_r43, (∃ (a : String) (i : Nat) (b n d h : String), w = Jvm.Cond.fieldLinkNest a i b n d h) ∨ ∃ (a : String) (i : Nat) (x : MethodName) (h : String), w = Jvm.Cond.methodLinkNest a i x h := List.forall_mem_cons.mpr ⟨(Or.inr ⟨_, _, _, _, rfl⟩), List.forall_mem_cons.mpr ⟨(Or.inr ⟨_, _, _, _, rfl⟩), List.forall_mem_cons.mpr ⟨(Or.inl ⟨_, _, _, _, _, _, rfl⟩), List.forall_mem_cons.mpr ⟨(Or.inl ⟨_, _, _, _, _, _, rfl⟩), List.forall_mem_cons.mpr ⟨(Or.inr ⟨_, _, _, _, rfl⟩), List.forall_mem_cons.mpr ⟨(Or.inr ⟨_, _, _, _, rfl⟩), List.forall_mem_cons.mpr ⟨(Or.inr ⟨_, _, _, _, rfl⟩), List.forall_mem_cons.mpr ⟨(Or.inr ⟨_, _, _, _, rfl⟩), fun _ h => absurd h List.not_mem_nil⟩⟩⟩⟩⟩⟩⟩⟩
