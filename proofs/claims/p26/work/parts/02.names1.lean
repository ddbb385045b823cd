/-! ===== BEGIN words of one list among another's, by their places ===== -/
theorem goodIn_r {big : List Cond} (ws : List Cond) (ps : List Nat) (hp : ws = ps.filterMap (fun i => big[i]?)) (h : ws.all goodWord = true) : GoodIn big ws := by
  intro w hw
  have h1 := List.all_eq_true.mp h w hw
  rw [hp] at hw
  obtain ⟨i, -, hi⟩ := List.mem_filterMap.mp hw
  have hm : w ∈ big := by first | exact List.mem_of_getElem? hi | exact List.getElem?_mem hi
  exact ⟨hm, good_of_word h1⟩
theorem goodIn_app {big a b : List Cond} (ha : GoodIn big a) (hb : GoodIn big b) : GoodIn big (a ++ b) := fun w h => (List.mem_append.mp h).elim (ha w) (hb w)
theorem goodIn_ca {big a b : List Cond} {c : Cond} (ha : GoodIn big (c :: a)) (hb : GoodIn big b) : GoodIn big (c :: (a ++ b)) := fun w h => (List.mem_cons.mp h).elim (fun e => ha w (List.mem_cons.mpr (Or.inl e))) (fun h => (List.mem_append.mp h).elim (fun h => ha w (List.mem_cons.mpr (Or.inr h))) (hb w))
theorem goodIn_sub {big ws : List Cond} (hm : ∀ w ∈ ws, w ∈ big) (h : ws.all goodWord = true) : GoodIn big ws := fun w hw => ⟨hm w hw, good_of_word (List.all_eq_true.mp h w hw)⟩
/-! ===== END ===== -/

/-! ===== BEGIN printed: names, fields, word lists, decode rows ===== -/
def RX0 : String := "NameRolls$Player"
def TX0 : u_T := fun k => match k with
  | 0 => ("NameRolls$Player", "trial", "LNameRolls$Roll;", true)
  | 1 => ("NameRolls$Player", "orders", "I", false)
  | 2 => ("NameRolls$Player", "reason", "I", false)
  | 3 => ("NameRolls$Player", "cause", "I", false)
  | 4 => ("NameRolls$Player", "start", "I", false)
  | 5 => ("NameRolls$Player", "at", "I", false)
  | 6 => ("NameRolls$Player", "kind", "C", false)
  | 7 => ("NameRolls$Player", "table", "I", false)
  | 8 => ("NameRolls$Player", "cell", "I", false)
  | 9 => ("NameRolls$Player", "rule", "I", false)
  | 10 => ("NameRolls$Player", "letters", "I", false)
  | _ => ("NameRolls$Player", "name", "I", false)
def tyX0 : Nat → FieldType := fun k => match k with
  | 0 => .object "NameRolls$Roll"
  | 1 => .int
  | 2 => .int
  | 3 => .int
  | 4 => .int
  | 5 => .int
  | 6 => .char
  | 7 => .int
  | 8 => .int
  | 9 => .int
  | 10 => .int
  | _ => .int
abbrev wsX00 : List Cond := u_ws RX0 TX0 12
theorem nmX0 : ∀ a, a < 12 → ∀ b, b < 12 → a ≠ b → (TX0 a).2.1 ≠ (TX0 b).2.1 := by decide +kernel
theorem tyX0_ok : ∀ k, k < 12 → parseFieldDescriptor (TX0 k).2.2.1 = some (tyX0 k) := by decide +kernel
abbrev cX0_init : ByteArray := prog_2_method_1_code
def yX0_init : MethodName := ⟨RX0, "<init>", "()V"⟩
abbrev cX0_tryOn : ByteArray := prog_2_method_2_code
def yX0_tryOn : MethodName := ⟨RX0, "tryOn", "(LNameRolls$Roll;LNameRolls$Text;)V"⟩
abbrev cX0_readOrder : ByteArray := prog_2_method_3_code
def yX0_readOrder : MethodName := ⟨RX0, "readOrder", "(LNameRolls$Text;)V"⟩
abbrev cX0_readDigit : ByteArray := prog_2_method_4_code
def yX0_readDigit : MethodName := ⟨RX0, "readDigit", "(LNameRolls$Text;)I"⟩
abbrev cX0_readSign : ByteArray := prog_2_method_5_code
def yX0_readSign : MethodName := ⟨RX0, "readSign", "(LNameRolls$Text;C)V"⟩
abbrev cX0_readLetters : ByteArray := prog_2_method_6_code
def yX0_readLetters : MethodName := ⟨RX0, "readLetters", "(LNameRolls$Text;)V"⟩
abbrev cX0_checkRanges : ByteArray := prog_2_method_7_code
def yX0_checkRanges : MethodName := ⟨RX0, "checkRanges", "()V"⟩
abbrev cX0_carryOut : ByteArray := prog_2_method_8_code
def yX0_carryOut : MethodName := ⟨RX0, "carryOut", "()V"⟩
abbrev cX0_canCarryOut : ByteArray := prog_2_method_9_code
def yX0_canCarryOut : MethodName := ⟨RX0, "canCarryOut", "(I)Z"⟩
abbrev cX0_fail : ByteArray := prog_2_method_10_code
def yX0_fail : MethodName := ⟨RX0, "fail", "(II)V"⟩
def RX1 : String := "NameRolls$Roll"
def TX1 : u_T := fun k => match k with
  | 0 => ("NameRolls$Roll", "names", "[I", true)
  | 1 => ("NameRolls$Roll", "users", "[I", true)
  | 2 => ("NameRolls$Roll", "years", "[I", true)
  | 3 => ("NameRolls$Roll", "cells", "[I", true)
  | 4 => ("NameRolls$Roll", "epoch", "I", false)
  | 5 => ("NameRolls$Roll", "gained", "I", false)
  | 6 => ("NameRolls$Roll", "lost", "I", false)
  | 7 => ("NameRolls$Roll", "rules", "[I", true)
  | 8 => ("NameRolls$Roll", "namesThen", "[I", true)
  | 9 => ("NameRolls$Roll", "movedThen", "[I", true)
  | 10 => ("NameRolls$Roll", "yearsThen", "[I", true)
  | 11 => ("NameRolls$Roll", "numbersBehind", "[I", true)
  | 12 => ("NameRolls$Roll", "yearsBehind", "[I", true)
  | 13 => ("NameRolls$Roll", "oldNames", "[I", true)
  | _ => ("NameRolls$Roll", "oldUsers", "[I", true)
def tyX1 : Nat → FieldType := fun k => match k with
  | 0 => .array .int
  | 1 => .array .int
  | 2 => .array .int
  | 3 => .array .int
  | 4 => .int
  | 5 => .int
  | 6 => .int
  | 7 => .array .int
  | 8 => .array .int
  | 9 => .array .int
  | 10 => .array .int
  | 11 => .array .int
  | 12 => .array .int
  | 13 => .array .int
  | _ => .array .int
abbrev wsX10 : List Cond := u_ws RX1 TX1 15
theorem nmX1 : ∀ a, a < 15 → ∀ b, b < 15 → a ≠ b → (TX1 a).2.1 ≠ (TX1 b).2.1 := by decide +kernel
theorem tyX1_ok : ∀ k, k < 15 → parseFieldDescriptor (TX1 k).2.2.1 = some (tyX1 k) := by decide +kernel
abbrev cX1_init : ByteArray := prog_3_method_1_code
def yX1_init : MethodName := ⟨RX1, "<init>", "()V"⟩
abbrev cX1_copyFrom : ByteArray := prog_3_method_2_code
def yX1_copyFrom : MethodName := ⟨RX1, "copyFrom", "(LNameRolls$Roll;)V"⟩
abbrev cX1_tagOf : ByteArray := prog_3_method_3_code
def yX1_tagOf : MethodName := ⟨RX1, "tagOf", "(I)I"⟩
abbrev cX1_tagIn : ByteArray := prog_3_method_4_code
def yX1_tagIn : MethodName := ⟨RX1, "tagIn", "(III)I"⟩
abbrev cX1_standing : ByteArray := prog_3_method_5_code
def yX1_standing : MethodName := ⟨RX1, "standing", "(I)I"⟩
abbrev cX1_numberWith : ByteArray := prog_3_method_6_code
def yX1_numberWith : MethodName := ⟨RX1, "numberWith", "(I)I"⟩
abbrev cX1_hasRoomFor : ByteArray := prog_3_method_7_code
def yX1_hasRoomFor : MethodName := ⟨RX1, "hasRoomFor", "(I)Z"⟩
abbrev cX1_enter : ByteArray := prog_3_method_8_code
def yX1_enter : MethodName := ⟨RX1, "enter", "(I)I"⟩
abbrev cX1_hasRoomForUser : ByteArray := prog_3_method_9_code
def yX1_hasRoomForUser : MethodName := ⟨RX1, "hasRoomForUser", "(I)Z"⟩
abbrev cX1_addUser : ByteArray := prog_3_method_10_code
def yX1_addUser : MethodName := ⟨RX1, "addUser", "(I)I"⟩
abbrev cX1_hasFreeUser : ByteArray := prog_3_method_11_code
def yX1_hasFreeUser : MethodName := ⟨RX1, "hasFreeUser", "(I)Z"⟩
abbrev cX1_giveBack : ByteArray := prog_3_method_12_code
def yX1_giveBack : MethodName := ⟨RX1, "giveBack", "(I)I"⟩
abbrev cX1_fillCell : ByteArray := prog_3_method_13_code
def yX1_fillCell : MethodName := ⟨RX1, "fillCell", "(II)I"⟩
abbrev cX1_emptyCell : ByteArray := prog_3_method_14_code
def yX1_emptyCell : MethodName := ⟨RX1, "emptyCell", "(I)I"⟩
abbrev cX1_cellsWith : ByteArray := prog_3_method_15_code
def yX1_cellsWith : MethodName := ⟨RX1, "cellsWith", "(I)I"⟩
abbrev cX1_placeOf : ByteArray := prog_3_method_16_code
def yX1_placeOf : MethodName := ⟨RX1, "placeOf", "(II)I"⟩
abbrev cX1_isAhead : ByteArray := prog_3_method_17_code
def yX1_isAhead : MethodName := ⟨RX1, "isAhead", "(III)Z"⟩
abbrev cX1_hasNextEpoch : ByteArray := prog_3_method_18_code
def yX1_hasNextEpoch : MethodName := ⟨RX1, "hasNextEpoch", "()Z"⟩
abbrev cX1_giveAnew : ByteArray := prog_3_method_19_code
def yX1_giveAnew : MethodName := ⟨RX1, "giveAnew", "(I)I"⟩
abbrev cX1_moveNames : ByteArray := prog_3_method_20_code
def yX1_moveNames : MethodName := ⟨RX1, "moveNames", "(I)V"⟩
abbrev cX1_moveCells : ByteArray := prog_3_method_21_code
def yX1_moveCells : MethodName := ⟨RX1, "moveCells", "(I)V"⟩
abbrev cX1_stillStanding : ByteArray := prog_3_method_22_code
def yX1_stillStanding : MethodName := ⟨RX1, "stillStanding", "(I)I"⟩
abbrev cX1_namesBelow : ByteArray := prog_3_method_23_code
def yX1_namesBelow : MethodName := ⟨RX1, "namesBelow", "(I)I"⟩
abbrev cX1_usersOfAll : ByteArray := prog_3_method_24_code
def yX1_usersOfAll : MethodName := ⟨RX1, "usersOfAll", "()I"⟩
abbrev cX1_top : ByteArray := prog_3_method_25_code
def yX1_top : MethodName := ⟨RX1, "top", "()I"⟩
def RX2 : String := "NameRolls$Text"
def TX2 : u_T := fun k => match k with
  | 0 => ("NameRolls$Text", "signs", "[C", true)
  | _ => ("NameRolls$Text", "length", "I", false)
def tyX2 : Nat → FieldType := fun k => match k with
  | 0 => .array .char
  | _ => .int
abbrev wsX20 : List Cond := u_ws RX2 TX2 2
theorem nmX2 : ∀ a, a < 2 → ∀ b, b < 2 → a ≠ b → (TX2 a).2.1 ≠ (TX2 b).2.1 := by decide +kernel
theorem tyX2_ok : ∀ k, k < 2 → parseFieldDescriptor (TX2 k).2.2.1 = some (tyX2 k) := by decide +kernel
abbrev cX2_init : ByteArray := prog_4_method_1_code
def yX2_init : MethodName := ⟨RX2, "<init>", "()V"⟩
abbrev cX2_append : ByteArray := prog_4_method_2_code
def yX2_append : MethodName := ⟨RX2, "append", "(C)I"⟩
abbrev cX2_signAt : ByteArray := prog_4_method_3_code
def yX2_signAt : MethodName := ⟨RX2, "signAt", "(I)C"⟩
def RX3 : String := "NameRolls"
def TX3 : u_T := fun k => match k with
  | 0 => ("NameRolls", "now", "LNameRolls$Roll;", true)
  | 1 => ("NameRolls", "past", "[LNameRolls$Roll;", true)
  | 2 => ("NameRolls", "states", "I", false)
  | 3 => ("NameRolls", "text", "LNameRolls$Text;", true)
  | _ => ("NameRolls", "player", "LNameRolls$Player;", true)
def tyX3 : Nat → FieldType := fun k => match k with
  | 0 => .object "NameRolls$Roll"
  | 1 => .array (.object "NameRolls$Roll")
  | 2 => .int
  | 3 => .object "NameRolls$Text"
  | _ => .object "NameRolls$Player"
abbrev wsX30 : List Cond := u_ws RX3 TX3 5
theorem nmX3 : ∀ a, a < 5 → ∀ b, b < 5 → a ≠ b → (TX3 a).2.1 ≠ (TX3 b).2.1 := by decide +kernel
theorem tyX3_ok : ∀ k, k < 5 → parseFieldDescriptor (TX3 k).2.2.1 = some (tyX3 k) := by decide +kernel
abbrev cX3_init : ByteArray := prog_1_method_1_code
def yX3_init : MethodName := ⟨RX3, "<init>", "()V"⟩
abbrev cX3_acquire : ByteArray := prog_1_method_2_code
def yX3_acquire : MethodName := ⟨RX3, "acquire", "(I)I"⟩
abbrev cX3_use : ByteArray := prog_1_method_3_code
def yX3_use : MethodName := ⟨RX3, "use", "(I)I"⟩
abbrev cX3_release : ByteArray := prog_1_method_4_code
def yX3_release : MethodName := ⟨RX3, "release", "(I)I"⟩
abbrev cX3_follow : ByteArray := prog_1_method_5_code
def yX3_follow : MethodName := ⟨RX3, "follow", "(I)I"⟩
abbrev cX3_nameOf : ByteArray := prog_1_method_6_code
def yX3_nameOf : MethodName := ⟨RX3, "nameOf", "(I)I"⟩
abbrev cX3_why : ByteArray := prog_1_method_7_code
def yX3_why : MethodName := ⟨RX3, "why", "(I)I"⟩
abbrev cX3_put : ByteArray := prog_1_method_8_code
def yX3_put : MethodName := ⟨RX3, "put", "(III)I"⟩
abbrev cX3_clear : ByteArray := prog_1_method_9_code
def yX3_clear : MethodName := ⟨RX3, "clear", "(II)I"⟩
abbrev cX3_cellOf : ByteArray := prog_1_method_10_code
def yX3_cellOf : MethodName := ⟨RX3, "cellOf", "(II)I"⟩
abbrev cX3_compact : ByteArray := prog_1_method_11_code
def yX3_compact : MethodName := ⟨RX3, "compact", "(I)I"⟩
abbrev cX3_numberOf : ByteArray := prog_1_method_12_code
def yX3_numberOf : MethodName := ⟨RX3, "numberOf", "(II)I"⟩
abbrev cX3_find : ByteArray := prog_1_method_13_code
def yX3_find : MethodName := ⟨RX3, "find", "(I)I"⟩
abbrev cX3_nameAt : ByteArray := prog_1_method_14_code
def yX3_nameAt : MethodName := ⟨RX3, "nameAt", "(II)I"⟩
abbrev cX3_beginning : ByteArray := prog_1_method_15_code
def yX3_beginning : MethodName := ⟨RX3, "beginning", "(I)I"⟩
abbrev cX3_behind : ByteArray := prog_1_method_16_code
def yX3_behind : MethodName := ⟨RX3, "behind", "(I)I"⟩
abbrev cX3_wouldBe : ByteArray := prog_1_method_17_code
def yX3_wouldBe : MethodName := ⟨RX3, "wouldBe", "(II)I"⟩
abbrev cX3_compaction : ByteArray := prog_1_method_18_code
def yX3_compaction : MethodName := ⟨RX3, "compaction", "(II)I"⟩
abbrev cX3_count : ByteArray := prog_1_method_19_code
def yX3_count : MethodName := ⟨RX3, "count", "(I)I"⟩
abbrev cX3_undo : ByteArray := prog_1_method_20_code
def yX3_undo : MethodName := ⟨RX3, "undo", "()I"⟩
abbrev cX3_type : ByteArray := prog_1_method_21_code
def yX3_type : MethodName := ⟨RX3, "type", "(I)I"⟩
abbrev cX3_clearText : ByteArray := prog_1_method_22_code
def yX3_clearText : MethodName := ⟨RX3, "clearText", "()I"⟩
abbrev cX3_fault : ByteArray := prog_1_method_23_code
def yX3_fault : MethodName := ⟨RX3, "fault", "(I)I"⟩
abbrev cX3_play : ByteArray := prog_1_method_24_code
def yX3_play : MethodName := ⟨RX3, "play", "()I"⟩
abbrev cX3_recordState : ByteArray := prog_1_method_25_code
def yX3_recordState : MethodName := ⟨RX3, "recordState", "()V"⟩
abbrev cX3_isBelow : ByteArray := prog_1_method_26_code
def yX3_isBelow : MethodName := ⟨RX3, "isBelow", "(II)Z"⟩
abbrev cX3_isCell : ByteArray := prog_1_method_27_code
def yX3_isCell : MethodName := ⟨RX3, "isCell", "(II)Z"⟩
abbrev cX3_cellIndex : ByteArray := prog_1_method_28_code
def yX3_cellIndex : MethodName := ⟨RX3, "cellIndex", "(II)I"⟩
abbrev cX3_isName : ByteArray := prog_1_method_29_code
def yX3_isName : MethodName := ⟨RX3, "isName", "(I)Z"⟩
abbrev cX3_orderKey : ByteArray := prog_1_method_30_code
def yX3_orderKey : MethodName := ⟨RX3, "orderKey", "(I)I"⟩
abbrev cX3_beginsWith : ByteArray := prog_1_method_31_code
def yX3_beginsWith : MethodName := ⟨RX3, "beginsWith", "(II)Z"⟩
def RX4 : String := "NameRollsModel"
def TX4 : u_T := fun k => match k with
  | _ => ("", "", "", false)
def tyX4 : Nat → FieldType := fun k => match k with
  | _ => .int
abbrev wsX40 : List Cond := u_ws RX4 TX4 0
theorem nmX4 : ∀ a, a < 0 → ∀ b, b < 0 → a ≠ b → (TX4 a).2.1 ≠ (TX4 b).2.1 := by decide +kernel
theorem tyX4_ok : ∀ k, k < 0 → parseFieldDescriptor (TX4 k).2.2.1 = some (tyX4 k) := by decide +kernel
def RJ9 : String := "java/lang/Math"
def TJ9 : u_T := fun k => match k with
  | _ => ("", "", "", false)
def tyJ9 : Nat → FieldType := fun k => match k with
  | _ => .int
abbrev wsJ90 : List Cond := u_ws RJ9 TJ9 0
theorem nmJ9 : ∀ a, a < 0 → ∀ b, b < 0 → a ≠ b → (TJ9 a).2.1 ≠ (TJ9 b).2.1 := by decide +kernel
theorem tyJ9_ok : ∀ k, k < 0 → parseFieldDescriptor (TJ9 k).2.2.1 = some (tyJ9 k) := by decide +kernel
abbrev cJ9_min_7cf53 : ByteArray := prog_7_method_69_code
def yJ9_min_7cf53 : MethodName := ⟨RJ9, "min", "(II)I"⟩
def RJ10 : String := "java/lang/System"
def TJ10 : u_T := fun k => match k with
  | _ => ("", "", "", false)
def tyJ10 : Nat → FieldType := fun k => match k with
  | _ => .int
abbrev wsJ100 : List Cond := u_ws RJ10 TJ10 0
theorem nmJ10 : ∀ a, a < 0 → ∀ b, b < 0 → a ≠ b → (TJ10 a).2.1 ≠ (TJ10 b).2.1 := by decide +kernel
theorem tyJ10_ok : ∀ k, k < 0 → parseFieldDescriptor (TJ10 k).2.2.1 = some (tyJ10 k) := by decide +kernel
def RJ7 : String := "java/util/Arrays"
def TJ7 : u_T := fun k => match k with
  | _ => ("", "", "", false)
def tyJ7 : Nat → FieldType := fun k => match k with
  | _ => .int
abbrev wsJ70 : List Cond := u_ws RJ7 TJ7 0
theorem nmJ7 : ∀ a, a < 0 → ∀ b, b < 0 → a ≠ b → (TJ7 a).2.1 ≠ (TJ7 b).2.1 := by decide +kernel
theorem tyJ7_ok : ∀ k, k < 0 → parseFieldDescriptor (TJ7 k).2.2.1 = some (tyJ7 k) := by decide +kernel
abbrev cJ7_fill_53178 : ByteArray := prog_9_method_103_code
def yJ7_fill_53178 : MethodName := ⟨RJ7, "fill", "([II)V"⟩
def RL : String := "NameRollsLaw"
abbrev cL_cell : ByteArray := method_2_code
def yL_cell : MethodName := ⟨RL, "cell", "([II)I"⟩
abbrev cL_low : ByteArray := method_3_code
def yL_low : MethodName := ⟨RL, "low", "(II)I"⟩
abbrev cL_near : ByteArray := method_4_code
def yL_near : MethodName := ⟨RL, "near", "(II)I"⟩
abbrev cL_isError : ByteArray := method_5_code
def yL_isError : MethodName := ⟨RL, "isError", "(I)Z"⟩
abbrev cL_trace : ByteArray := method_6_code
def yL_trace : MethodName := ⟨RL, "trace", "(LNameRolls;)J"⟩
abbrev cL_padded : ByteArray := method_7_code
def yL_padded : MethodName := ⟨RL, "padded", "(I)I"⟩
abbrev cL_numbersFit : ByteArray := method_8_code
def yL_numbersFit : MethodName := ⟨RL, "numbersFit", "(LNameRolls;)Z"⟩
abbrev cL_ordersFit : ByteArray := method_9_code
def yL_ordersFit : MethodName := ⟨RL, "ordersFit", "(LNameRolls;)Z"⟩
abbrev cL_tagsFit : ByteArray := method_10_code
def yL_tagsFit : MethodName := ⟨RL, "tagsFit", "(LNameRolls;I)Z"⟩
abbrev cL_fits : ByteArray := method_11_code
def yL_fits : MethodName := ⟨RL, "fits", "(LNameRolls;I)Z"⟩
abbrev cL_name : ByteArray := method_12_code
def yL_name : MethodName := ⟨RL, "name", "(I)I"⟩
abbrev cL_above : ByteArray := method_13_code
def yL_above : MethodName := ⟨RL, "above", "(I)I"⟩
abbrev cL_tag : ByteArray := method_14_code
def yL_tag : MethodName := ⟨RL, "tag", "(LNameRolls;I)I"⟩
abbrev cL_plays : ByteArray := method_15_code
def yL_plays : MethodName := ⟨RL, "plays", "(LNameRolls;I)I"⟩
abbrev cL_goes : ByteArray := method_16_code
def yL_goes : MethodName := ⟨RL, "goes", "(LNameRolls;II)I"⟩
abbrev cL_law : ByteArray := code
def yL_law : MethodName := ⟨RL, "law", "([I)Z"⟩
def wsJ7_fill_53178 : List Cond := .code yJ7_fill_53178 cJ7_fill_53178 4 none :: ([])
def wsX1_init : List Cond := .code yX1_init cX1_init 1 none :: ([.methodLink RX1 3 objectInit, .instanceMethod objectInit, .code objectInit ⟨#[0xb1]⟩ 1 none, .arrayClass .int, .fieldLink RX1 9 "NameRolls$Roll" "names" "[I", .fieldLink RX1 15 "NameRolls$Roll" "users" "[I", .fieldLink RX1 18 "NameRolls$Roll" "years" "[I", .fieldLink RX1 21 "NameRolls$Roll" "cells" "[I", .fieldLink RX1 24 "NameRolls$Roll" "rules" "[I", .fieldLink RX1 27 "NameRolls$Roll" "namesThen" "[I", .fieldLink RX1 30 "NameRolls$Roll" "movedThen" "[I", .fieldLink RX1 33 "NameRolls$Roll" "yearsThen" "[I", .fieldLink RX1 36 "NameRolls$Roll" "numbersBehind" "[I", .fieldLink RX1 39 "NameRolls$Roll" "yearsBehind" "[I", .fieldLink RX1 42 "NameRolls$Roll" "oldNames" "[I", .fieldLink RX1 45 "NameRolls$Roll" "oldUsers" "[I", .methodLink RX1 48 yJ7_fill_53178, .static yJ7_fill_53178, .initialized RJ7, .code yJ7_fill_53178 cJ7_fill_53178 4 none] ++ wsX10)
def wsX0_init_r1 : List Cond := [Cond.methodLink RX0 3 objectInit, Cond.instanceMethod objectInit, Cond.code objectInit ⟨#[0xb1]⟩ 1 none, Cond.classLink RX0 9 RX1, Cond.instantiable RX1 15, Cond.initialized RX1, Cond.fieldLink RX0 12 "NameRolls$Player" "trial" "LNameRolls$Roll;", Cond.methodLink RX0 11 yX1_init, Cond.instanceMethod yX1_init, Cond.code yX1_init cX1_init 1 none, Cond.methodLink RX1 3 objectInit, Cond.arrayClass .int, Cond.fieldLink RX1 9 "NameRolls$Roll" "names" "[I", Cond.fieldLink RX1 15 "NameRolls$Roll" "users" "[I", Cond.fieldLink RX1 18 "NameRolls$Roll" "years" "[I", Cond.fieldLink RX1 21 "NameRolls$Roll" "cells" "[I", Cond.fieldLink RX1 24 "NameRolls$Roll" "rules" "[I", Cond.fieldLink RX1 27 "NameRolls$Roll" "namesThen" "[I", Cond.fieldLink RX1 30 "NameRolls$Roll" "movedThen" "[I", Cond.fieldLink RX1 33 "NameRolls$Roll" "yearsThen" "[I", Cond.fieldLink RX1 36 "NameRolls$Roll" "numbersBehind" "[I", Cond.fieldLink RX1 39 "NameRolls$Roll" "yearsBehind" "[I", Cond.fieldLink RX1 42 "NameRolls$Roll" "oldNames" "[I", Cond.fieldLink RX1 45 "NameRolls$Roll" "oldUsers" "[I"]
def wsX0_init_r2 : List Cond := [Cond.methodLink RX1 48 yJ7_fill_53178, Cond.static yJ7_fill_53178, Cond.initialized RJ7, Cond.code yJ7_fill_53178 cJ7_fill_53178 4 none]
def wsX0_init : List Cond := .code yX0_init cX0_init 1 none :: ((wsX0_init_r1 ++ wsX0_init_r2) ++ wsX10 ++ wsX00)
def wsX1_copyFrom : List Cond := .code yX1_copyFrom cX1_copyFrom 2 none :: ([.fieldLink RX1 9 "NameRolls$Roll" "names" "[I", .methodLink RX1 54 arraycopyName, .native arraycopyName, .static arraycopyName, .initialized "java/lang/System", .fieldLink RX1 15 "NameRolls$Roll" "users" "[I", .fieldLink RX1 18 "NameRolls$Roll" "years" "[I", .fieldLink RX1 21 "NameRolls$Roll" "cells" "[I", .fieldLink RX1 60 "NameRolls$Roll" "epoch" "I", .fieldLink RX1 64 "NameRolls$Roll" "gained" "I", .fieldLink RX1 67 "NameRolls$Roll" "lost" "I", .fieldLink RX1 24 "NameRolls$Roll" "rules" "[I", .fieldLink RX1 27 "NameRolls$Roll" "namesThen" "[I", .fieldLink RX1 30 "NameRolls$Roll" "movedThen" "[I", .fieldLink RX1 33 "NameRolls$Roll" "yearsThen" "[I", .fieldLink RX1 36 "NameRolls$Roll" "numbersBehind" "[I", .fieldLink RX1 39 "NameRolls$Roll" "yearsBehind" "[I"] ++ wsX10)
def wsX3_isBelow : List Cond := .code yX3_isBelow cX3_isBelow 2 (some .boolean) :: ([])
def wsX2_signAt : List Cond := .code yX2_signAt cX2_signAt 2 (some .char) :: ([.fieldLink RX2 15 "NameRolls$Text" "length" "I", .fieldLink RX2 9 "NameRolls$Text" "signs" "[C", .static yX3_isBelow, .initialized RX3, .code yX3_isBelow cX3_isBelow 2 (some .boolean)] ++ wsX20)
def wsX0_fail : List Cond := .code yX0_fail cX0_fail 3 none :: ([.fieldLink RX0 26 "NameRolls$Player" "reason" "I", .fieldLink RX0 125 "NameRolls$Player" "cause" "I"] ++ wsX00)
def wsX0_readLetters : List Cond := .code yX0_readLetters cX0_readLetters 4 none :: ([.fieldLink RX0 29 "NameRolls$Player" "at" "I", .fieldLink RX0 67 "NameRolls$Player" "letters" "I", .fieldLink RX0 70 "NameRolls$Player" "name" "I", .fieldLink RX0 37 "NameRolls$Player" "start" "I", .methodLink RX0 50 yX2_signAt, .instanceMethod yX2_signAt, .selects RX2 yX2_signAt yX2_signAt, .initialized RX2, .code yX2_signAt cX2_signAt 2 (some .char), .fieldLink RX2 15 "NameRolls$Text" "length" "I", .fieldLink RX2 9 "NameRolls$Text" "signs" "[C", .static yX3_isBelow, .initialized RX3, .code yX3_isBelow cX3_isBelow 2 (some .boolean), .methodLink RX0 84 yX0_fail, .instanceMethod yX0_fail, .selects RX0 yX0_fail yX0_fail, .initialized RX0, .code yX0_fail cX0_fail 3 none, .fieldLink RX0 26 "NameRolls$Player" "reason" "I", .fieldLink RX0 125 "NameRolls$Player" "cause" "I"] ++ wsX00 ++ wsX20)
def wsX0_readDigit : List Cond := .code yX0_readDigit cX0_readDigit 3 (some .int) :: ([.fieldLink RX0 29 "NameRolls$Player" "at" "I", .fieldLink RX0 37 "NameRolls$Player" "start" "I", .methodLink RX0 50 yX2_signAt, .instanceMethod yX2_signAt, .selects RX2 yX2_signAt yX2_signAt, .initialized RX2, .code yX2_signAt cX2_signAt 2 (some .char), .fieldLink RX2 15 "NameRolls$Text" "length" "I", .fieldLink RX2 9 "NameRolls$Text" "signs" "[C", .static yX3_isBelow, .initialized RX3, .code yX3_isBelow cX3_isBelow 2 (some .boolean), .methodLink RX0 84 yX0_fail, .instanceMethod yX0_fail, .selects RX0 yX0_fail yX0_fail, .initialized RX0, .code yX0_fail cX0_fail 3 none, .fieldLink RX0 26 "NameRolls$Player" "reason" "I", .fieldLink RX0 125 "NameRolls$Player" "cause" "I"] ++ wsX00 ++ wsX20)
def wsX0_readSign : List Cond := .code yX0_readSign cX0_readSign 3 none :: ([.fieldLink RX0 29 "NameRolls$Player" "at" "I", .fieldLink RX0 37 "NameRolls$Player" "start" "I", .methodLink RX0 50 yX2_signAt, .instanceMethod yX2_signAt, .selects RX2 yX2_signAt yX2_signAt, .initialized RX2, .code yX2_signAt cX2_signAt 2 (some .char), .fieldLink RX2 15 "NameRolls$Text" "length" "I", .fieldLink RX2 9 "NameRolls$Text" "signs" "[C", .static yX3_isBelow, .initialized RX3, .code yX3_isBelow cX3_isBelow 2 (some .boolean), .methodLink RX0 84 yX0_fail, .instanceMethod yX0_fail, .selects RX0 yX0_fail yX0_fail, .initialized RX0, .code yX0_fail cX0_fail 3 none, .fieldLink RX0 26 "NameRolls$Player" "reason" "I", .fieldLink RX0 125 "NameRolls$Player" "cause" "I"] ++ wsX00 ++ wsX20)
def wsX0_readOrder_r1 : List Cond := [Cond.fieldLink RX0 29 "NameRolls$Player" "at" "I", Cond.fieldLink RX0 54 "NameRolls$Player" "kind" "C", Cond.fieldLink RX0 58 "NameRolls$Player" "table" "I", Cond.fieldLink RX0 61 "NameRolls$Player" "cell" "I", Cond.fieldLink RX0 64 "NameRolls$Player" "rule" "I", Cond.fieldLink RX0 67 "NameRolls$Player" "letters" "I", Cond.fieldLink RX0 70 "NameRolls$Player" "name" "I", Cond.methodLink RX0 50 yX2_signAt, Cond.instanceMethod yX2_signAt, Cond.selects RX2 yX2_signAt yX2_signAt, Cond.initialized RX2, Cond.code yX2_signAt cX2_signAt 2 (some .char), Cond.fieldLink RX2 15 "NameRolls$Text" "length" "I", Cond.fieldLink RX2 9 "NameRolls$Text" "signs" "[C", Cond.static yX3_isBelow, Cond.initialized RX3, Cond.code yX3_isBelow cX3_isBelow 2 (some .boolean), Cond.methodLink RX0 73 yX0_readLetters, Cond.instanceMethod yX0_readLetters, Cond.selects RX0 yX0_readLetters yX0_readLetters, Cond.initialized RX0, Cond.code yX0_readLetters cX0_readLetters 4 none, Cond.fieldLink RX0 37 "NameRolls$Player" "start" "I", Cond.methodLink RX0 84 yX0_fail]
def wsX0_readOrder_r2 : List Cond := [Cond.instanceMethod yX0_fail, Cond.selects RX0 yX0_fail yX0_fail, Cond.code yX0_fail cX0_fail 3 none, Cond.fieldLink RX0 26 "NameRolls$Player" "reason" "I", Cond.fieldLink RX0 125 "NameRolls$Player" "cause" "I", Cond.methodLink RX0 76 yX0_readDigit, Cond.instanceMethod yX0_readDigit, Cond.selects RX0 yX0_readDigit yX0_readDigit, Cond.code yX0_readDigit cX0_readDigit 3 (some .int), Cond.methodLink RX0 80 yX0_readSign, Cond.instanceMethod yX0_readSign, Cond.selects RX0 yX0_readSign yX0_readSign, Cond.code yX0_readSign cX0_readSign 3 none]
def wsX0_readOrder : List Cond := .code yX0_readOrder cX0_readOrder 2 none :: ((wsX0_readOrder_r1 ++ wsX0_readOrder_r2) ++ wsX00 ++ wsX20)
def wsX0_checkRanges : List Cond := .code yX0_checkRanges cX0_checkRanges 1 none :: ([.fieldLink RX0 58 "NameRolls$Player" "table" "I", .fieldLink RX0 61 "NameRolls$Player" "cell" "I", .fieldLink RX0 64 "NameRolls$Player" "rule" "I", .fieldLink RX0 67 "NameRolls$Player" "letters" "I", .methodLink RX0 84 yX0_fail, .instanceMethod yX0_fail, .selects RX0 yX0_fail yX0_fail, .initialized RX0, .code yX0_fail cX0_fail 3 none, .fieldLink RX0 26 "NameRolls$Player" "reason" "I", .fieldLink RX0 125 "NameRolls$Player" "cause" "I"] ++ wsX00)
def wsX1_numberWith : List Cond := .code yX1_numberWith cX1_numberWith 3 (some .int) :: ([.fieldLink RX1 9 "NameRolls$Roll" "names" "[I"] ++ wsX10)
def wsX1_hasRoomForUser : List Cond := .code yX1_hasRoomForUser cX1_hasRoomForUser 2 (some .boolean) :: ([.fieldLink RX1 15 "NameRolls$Roll" "users" "[I", .static yX3_isBelow, .initialized RX3, .code yX3_isBelow cX3_isBelow 2 (some .boolean)] ++ wsX10)
def wsX1_hasRoomFor : List Cond := .code yX1_hasRoomFor cX1_hasRoomFor 3 (some .boolean) :: ([.methodLink RX1 80 yX1_numberWith, .instanceMethod yX1_numberWith, .selects RX1 yX1_numberWith yX1_numberWith, .initialized RX1, .code yX1_numberWith cX1_numberWith 3 (some .int), .fieldLink RX1 9 "NameRolls$Roll" "names" "[I", .methodLink RX1 84 yX1_hasRoomForUser, .instanceMethod yX1_hasRoomForUser, .selects RX1 yX1_hasRoomForUser yX1_hasRoomForUser, .code yX1_hasRoomForUser cX1_hasRoomForUser 2 (some .boolean), .fieldLink RX1 15 "NameRolls$Roll" "users" "[I", .static yX3_isBelow, .initialized RX3, .code yX3_isBelow cX3_isBelow 2 (some .boolean)] ++ wsX10)
def wsX1_cellsWith : List Cond := .code yX1_cellsWith cX1_cellsWith 4 (some .int) :: ([.fieldLink RX1 21 "NameRolls$Roll" "cells" "[I"] ++ wsX10)
def wsX1_hasFreeUser : List Cond := .code yX1_hasFreeUser cX1_hasFreeUser 2 (some .boolean) :: ([.fieldLink RX1 15 "NameRolls$Roll" "users" "[I", .static yX3_isBelow, .initialized RX3, .code yX3_isBelow cX3_isBelow 2 (some .boolean), .methodLink RX1 91 yX1_cellsWith, .instanceMethod yX1_cellsWith, .selects RX1 yX1_cellsWith yX1_cellsWith, .initialized RX1, .code yX1_cellsWith cX1_cellsWith 4 (some .int), .fieldLink RX1 21 "NameRolls$Roll" "cells" "[I"] ++ wsX10)
def wsX1_hasNextEpoch : List Cond := .code yX1_hasNextEpoch cX1_hasNextEpoch 1 (some .boolean) :: ([.fieldLink RX1 60 "NameRolls$Roll" "epoch" "I"] ++ wsX10)
def wsX0_canCarryOut_r1 : List Cond := [Cond.fieldLink RX0 54 "NameRolls$Player" "kind" "C", Cond.fieldLink RX0 12 "NameRolls$Player" "trial" "LNameRolls$Roll;", Cond.fieldLink RX0 70 "NameRolls$Player" "name" "I", Cond.methodLink RX0 112 yX1_hasRoomFor, Cond.instanceMethod yX1_hasRoomFor, Cond.selects RX1 yX1_hasRoomFor yX1_hasRoomFor, Cond.initialized RX1, Cond.code yX1_hasRoomFor cX1_hasRoomFor 3 (some .boolean), Cond.methodLink RX1 80 yX1_numberWith, Cond.instanceMethod yX1_numberWith, Cond.selects RX1 yX1_numberWith yX1_numberWith, Cond.code yX1_numberWith cX1_numberWith 3 (some .int), Cond.fieldLink RX1 9 "NameRolls$Roll" "names" "[I", Cond.methodLink RX1 84 yX1_hasRoomForUser, Cond.instanceMethod yX1_hasRoomForUser, Cond.selects RX1 yX1_hasRoomForUser yX1_hasRoomForUser, Cond.code yX1_hasRoomForUser cX1_hasRoomForUser 2 (some .boolean), Cond.fieldLink RX1 15 "NameRolls$Roll" "users" "[I", Cond.static yX3_isBelow, Cond.initialized RX3, Cond.code yX3_isBelow cX3_isBelow 2 (some .boolean), Cond.methodLink RX0 115 yX1_hasFreeUser, Cond.instanceMethod yX1_hasFreeUser, Cond.selects RX1 yX1_hasFreeUser yX1_hasFreeUser]
def wsX0_canCarryOut_r2 : List Cond := [Cond.code yX1_hasFreeUser cX1_hasFreeUser 2 (some .boolean), Cond.methodLink RX1 91 yX1_cellsWith, Cond.instanceMethod yX1_cellsWith, Cond.selects RX1 yX1_cellsWith yX1_cellsWith, Cond.code yX1_cellsWith cX1_cellsWith 4 (some .int), Cond.fieldLink RX1 21 "NameRolls$Roll" "cells" "[I", Cond.methodLink RX0 118 yX1_hasRoomForUser, Cond.methodLink RX0 121 yX1_hasNextEpoch, Cond.instanceMethod yX1_hasNextEpoch, Cond.selects RX1 yX1_hasNextEpoch yX1_hasNextEpoch, Cond.code yX1_hasNextEpoch cX1_hasNextEpoch 1 (some .boolean), Cond.fieldLink RX1 60 "NameRolls$Roll" "epoch" "I"]
def wsX0_canCarryOut : List Cond := .code yX0_canCarryOut cX0_canCarryOut 2 (some .boolean) :: ((wsX0_canCarryOut_r1 ++ wsX0_canCarryOut_r2) ++ wsX00 ++ wsX10)
def wsX1_addUser : List Cond := .code yX1_addUser cX1_addUser 2 (some .int) :: ([.fieldLink RX1 15 "NameRolls$Roll" "users" "[I", .static yX3_isBelow, .initialized RX3, .code yX3_isBelow cX3_isBelow 2 (some .boolean)] ++ wsX10)
def wsX1_enter : List Cond := .code yX1_enter cX1_enter 3 (some .int) :: ([.fieldLink RX1 9 "NameRolls$Roll" "names" "[I", .fieldLink RX1 64 "NameRolls$Roll" "gained" "I", .methodLink RX1 80 yX1_numberWith, .instanceMethod yX1_numberWith, .selects RX1 yX1_numberWith yX1_numberWith, .initialized RX1, .code yX1_numberWith cX1_numberWith 3 (some .int), .methodLink RX1 88 yX1_addUser, .instanceMethod yX1_addUser, .selects RX1 yX1_addUser yX1_addUser, .code yX1_addUser cX1_addUser 2 (some .int), .fieldLink RX1 15 "NameRolls$Roll" "users" "[I", .static yX3_isBelow, .initialized RX3, .code yX3_isBelow cX3_isBelow 2 (some .boolean)] ++ wsX10)
def wsX1_giveBack : List Cond := .code yX1_giveBack cX1_giveBack 2 (some .int) :: ([.fieldLink RX1 15 "NameRolls$Roll" "users" "[I", .fieldLink RX1 9 "NameRolls$Roll" "names" "[I", .fieldLink RX1 18 "NameRolls$Roll" "years" "[I", .fieldLink RX1 67 "NameRolls$Roll" "lost" "I", .static yX3_isBelow, .initialized RX3, .code yX3_isBelow cX3_isBelow 2 (some .boolean)] ++ wsX10)
def wsX3_cellIndex : List Cond := .code yX3_cellIndex cX3_cellIndex 2 (some .int) :: ([])
def wsX1_fillCell : List Cond := .code yX1_fillCell cX1_fillCell 3 (some .int) :: ([.fieldLink RX1 21 "NameRolls$Roll" "cells" "[I", .fieldLink RX1 15 "NameRolls$Roll" "users" "[I", .static yX3_isBelow, .initialized RX3, .code yX3_isBelow cX3_isBelow 2 (some .boolean), .methodLink RX1 88 yX1_addUser, .instanceMethod yX1_addUser, .selects RX1 yX1_addUser yX1_addUser, .initialized RX1, .code yX1_addUser cX1_addUser 2 (some .int), .methodLink RX1 94 yX1_giveBack, .instanceMethod yX1_giveBack, .selects RX1 yX1_giveBack yX1_giveBack, .code yX1_giveBack cX1_giveBack 2 (some .int), .fieldLink RX1 9 "NameRolls$Roll" "names" "[I", .fieldLink RX1 18 "NameRolls$Roll" "years" "[I", .fieldLink RX1 67 "NameRolls$Roll" "lost" "I"] ++ wsX10)
def wsX3_orderKey : List Cond := .code yX3_orderKey cX3_orderKey 3 (some .int) :: ([.constant RX3 194 (14348907)])
def wsX1_isAhead : List Cond := .code yX1_isAhead cX1_isAhead 4 (some .boolean) :: ([.fieldLink RX1 9 "NameRolls$Roll" "names" "[I", .fieldLink RX1 15 "NameRolls$Roll" "users" "[I", .static yX3_isBelow, .initialized RX3, .code yX3_isBelow cX3_isBelow 2 (some .boolean), .static yX3_orderKey, .code yX3_orderKey cX3_orderKey 3 (some .int), .constant RX3 194 (14348907)] ++ wsX10)
def wsX1_placeOf : List Cond := .code yX1_placeOf cX1_placeOf 5 (some .int) :: ([.fieldLink RX1 9 "NameRolls$Roll" "names" "[I", .methodLink RX1 97 yX1_isAhead, .instanceMethod yX1_isAhead, .selects RX1 yX1_isAhead yX1_isAhead, .initialized RX1, .code yX1_isAhead cX1_isAhead 4 (some .boolean), .fieldLink RX1 15 "NameRolls$Roll" "users" "[I", .static yX3_isBelow, .initialized RX3, .code yX3_isBelow cX3_isBelow 2 (some .boolean), .static yX3_orderKey, .code yX3_orderKey cX3_orderKey 3 (some .int), .constant RX3 194 (14348907)] ++ wsX10)
def wsX1_namesBelow : List Cond := .code yX1_namesBelow cX1_namesBelow 4 (some .int) :: ([.fieldLink RX1 9 "NameRolls$Roll" "names" "[I"] ++ wsX10)
def wsX1_moveNames : List Cond := .code yX1_moveNames cX1_moveNames 4 none :: ([.fieldLink RX1 9 "NameRolls$Roll" "names" "[I", .fieldLink RX1 42 "NameRolls$Roll" "oldNames" "[I", .methodLink RX1 54 arraycopyName, .native arraycopyName, .static arraycopyName, .initialized "java/lang/System", .fieldLink RX1 15 "NameRolls$Roll" "users" "[I", .fieldLink RX1 45 "NameRolls$Roll" "oldUsers" "[I", .fieldLink RX1 36 "NameRolls$Roll" "numbersBehind" "[I", .fieldLink RX1 18 "NameRolls$Roll" "years" "[I", .methodLink RX1 48 yJ7_fill_53178, .static yJ7_fill_53178, .initialized RJ7, .code yJ7_fill_53178 cJ7_fill_53178 4 none, .static yX3_isBelow, .initialized RX3, .code yX3_isBelow cX3_isBelow 2 (some .boolean)] ++ wsX10)
def wsX1_moveCells : List Cond := .code yX1_moveCells cX1_moveCells 3 none :: ([.fieldLink RX1 21 "NameRolls$Roll" "cells" "[I", .fieldLink RX1 36 "NameRolls$Roll" "numbersBehind" "[I", .static yX3_isBelow, .initialized RX3, .code yX3_isBelow cX3_isBelow 2 (some .boolean)] ++ wsX10)
def wsX1_giveAnew_r1 : List Cond := [Cond.fieldLink RX1 60 "NameRolls$Roll" "epoch" "I", Cond.fieldLink RX1 9 "NameRolls$Roll" "names" "[I", Cond.fieldLink RX1 36 "NameRolls$Roll" "numbersBehind" "[I", Cond.fieldLink RX1 24 "NameRolls$Roll" "rules" "[I", Cond.fieldLink RX1 27 "NameRolls$Roll" "namesThen" "[I", Cond.fieldLink RX1 30 "NameRolls$Roll" "movedThen" "[I", Cond.fieldLink RX1 18 "NameRolls$Roll" "years" "[I", Cond.fieldLink RX1 33 "NameRolls$Roll" "yearsThen" "[I", Cond.methodLink RX1 54 arraycopyName, Cond.native arraycopyName, Cond.static arraycopyName, Cond.initialized "java/lang/System", Cond.fieldLink RX1 39 "NameRolls$Roll" "yearsBehind" "[I", Cond.methodLink RX1 104 yX1_placeOf, Cond.instanceMethod yX1_placeOf, Cond.selects RX1 yX1_placeOf yX1_placeOf, Cond.initialized RX1, Cond.code yX1_placeOf cX1_placeOf 5 (some .int), Cond.methodLink RX1 97 yX1_isAhead, Cond.instanceMethod yX1_isAhead, Cond.selects RX1 yX1_isAhead yX1_isAhead, Cond.code yX1_isAhead cX1_isAhead 4 (some .boolean), Cond.fieldLink RX1 15 "NameRolls$Roll" "users" "[I", Cond.static yX3_isBelow]
def wsX1_giveAnew_r2 : List Cond := [Cond.initialized RX3, Cond.code yX3_isBelow cX3_isBelow 2 (some .boolean), Cond.static yX3_orderKey, Cond.code yX3_orderKey cX3_orderKey 3 (some .int), Cond.constant RX3 194 (14348907), Cond.methodLink RX1 108 yX1_namesBelow, Cond.instanceMethod yX1_namesBelow, Cond.selects RX1 yX1_namesBelow yX1_namesBelow, Cond.code yX1_namesBelow cX1_namesBelow 4 (some .int), Cond.methodLink RX1 111 yX1_moveNames, Cond.instanceMethod yX1_moveNames, Cond.selects RX1 yX1_moveNames yX1_moveNames, Cond.code yX1_moveNames cX1_moveNames 4 none, Cond.fieldLink RX1 42 "NameRolls$Roll" "oldNames" "[I", Cond.fieldLink RX1 45 "NameRolls$Roll" "oldUsers" "[I", Cond.methodLink RX1 48 yJ7_fill_53178, Cond.static yJ7_fill_53178, Cond.initialized RJ7, Cond.code yJ7_fill_53178 cJ7_fill_53178 4 none, Cond.methodLink RX1 115 yX1_moveCells, Cond.instanceMethod yX1_moveCells, Cond.selects RX1 yX1_moveCells yX1_moveCells, Cond.code yX1_moveCells cX1_moveCells 3 none, Cond.fieldLink RX1 21 "NameRolls$Roll" "cells" "[I"]
def wsX1_giveAnew : List Cond := .code yX1_giveAnew cX1_giveAnew 7 (some .int) :: ((wsX1_giveAnew_r1 ++ wsX1_giveAnew_r2) ++ wsX10)
def wsX0_carryOut_r1 : List Cond := [Cond.fieldLink RX0 26 "NameRolls$Player" "reason" "I", Cond.fieldLink RX0 12 "NameRolls$Player" "trial" "LNameRolls$Roll;", Cond.fieldLink RX0 70 "NameRolls$Player" "name" "I", Cond.fieldLink RX0 54 "NameRolls$Player" "kind" "C", Cond.fieldLink RX0 58 "NameRolls$Player" "table" "I", Cond.fieldLink RX0 61 "NameRolls$Player" "cell" "I", Cond.fieldLink RX0 64 "NameRolls$Player" "rule" "I", Cond.methodLink RX0 88 yX1_numberWith, Cond.instanceMethod yX1_numberWith, Cond.selects RX1 yX1_numberWith yX1_numberWith, Cond.initialized RX1, Cond.code yX1_numberWith cX1_numberWith 3 (some .int), Cond.fieldLink RX1 9 "NameRolls$Roll" "names" "[I", Cond.methodLink RX0 92 yX0_canCarryOut, Cond.instanceMethod yX0_canCarryOut, Cond.selects RX0 yX0_canCarryOut yX0_canCarryOut, Cond.initialized RX0, Cond.code yX0_canCarryOut cX0_canCarryOut 2 (some .boolean), Cond.methodLink RX0 112 yX1_hasRoomFor, Cond.instanceMethod yX1_hasRoomFor, Cond.selects RX1 yX1_hasRoomFor yX1_hasRoomFor, Cond.code yX1_hasRoomFor cX1_hasRoomFor 3 (some .boolean), Cond.methodLink RX1 80 yX1_numberWith, Cond.methodLink RX1 84 yX1_hasRoomForUser]
def wsX0_carryOut_r2 : List Cond := [Cond.instanceMethod yX1_hasRoomForUser, Cond.selects RX1 yX1_hasRoomForUser yX1_hasRoomForUser, Cond.code yX1_hasRoomForUser cX1_hasRoomForUser 2 (some .boolean), Cond.fieldLink RX1 15 "NameRolls$Roll" "users" "[I", Cond.static yX3_isBelow, Cond.initialized RX3, Cond.code yX3_isBelow cX3_isBelow 2 (some .boolean), Cond.methodLink RX0 115 yX1_hasFreeUser, Cond.instanceMethod yX1_hasFreeUser, Cond.selects RX1 yX1_hasFreeUser yX1_hasFreeUser, Cond.code yX1_hasFreeUser cX1_hasFreeUser 2 (some .boolean), Cond.methodLink RX1 91 yX1_cellsWith, Cond.instanceMethod yX1_cellsWith, Cond.selects RX1 yX1_cellsWith yX1_cellsWith, Cond.code yX1_cellsWith cX1_cellsWith 4 (some .int), Cond.fieldLink RX1 21 "NameRolls$Roll" "cells" "[I", Cond.methodLink RX0 118 yX1_hasRoomForUser, Cond.methodLink RX0 121 yX1_hasNextEpoch, Cond.instanceMethod yX1_hasNextEpoch, Cond.selects RX1 yX1_hasNextEpoch yX1_hasNextEpoch, Cond.code yX1_hasNextEpoch cX1_hasNextEpoch 1 (some .boolean), Cond.fieldLink RX1 60 "NameRolls$Roll" "epoch" "I", Cond.methodLink RX0 84 yX0_fail, Cond.instanceMethod yX0_fail]
def wsX0_carryOut_r3 : List Cond := [Cond.selects RX0 yX0_fail yX0_fail, Cond.code yX0_fail cX0_fail 3 none, Cond.fieldLink RX0 125 "NameRolls$Player" "cause" "I", Cond.methodLink RX0 96 yX1_enter, Cond.instanceMethod yX1_enter, Cond.selects RX1 yX1_enter yX1_enter, Cond.code yX1_enter cX1_enter 3 (some .int), Cond.fieldLink RX1 64 "NameRolls$Roll" "gained" "I", Cond.methodLink RX1 88 yX1_addUser, Cond.instanceMethod yX1_addUser, Cond.selects RX1 yX1_addUser yX1_addUser, Cond.code yX1_addUser cX1_addUser 2 (some .int), Cond.methodLink RX0 99 yX1_giveBack, Cond.instanceMethod yX1_giveBack, Cond.selects RX1 yX1_giveBack yX1_giveBack, Cond.code yX1_giveBack cX1_giveBack 2 (some .int), Cond.fieldLink RX1 18 "NameRolls$Roll" "years" "[I", Cond.fieldLink RX1 67 "NameRolls$Roll" "lost" "I", Cond.static yX3_cellIndex, Cond.code yX3_cellIndex cX3_cellIndex 2 (some .int), Cond.methodLink RX0 106 yX1_fillCell, Cond.instanceMethod yX1_fillCell, Cond.selects RX1 yX1_fillCell yX1_fillCell, Cond.code yX1_fillCell cX1_fillCell 3 (some .int)]
def wsX0_carryOut_r4 : List Cond := [Cond.methodLink RX1 94 yX1_giveBack, Cond.methodLink RX0 109 yX1_giveAnew, Cond.instanceMethod yX1_giveAnew, Cond.selects RX1 yX1_giveAnew yX1_giveAnew, Cond.code yX1_giveAnew cX1_giveAnew 7 (some .int), Cond.fieldLink RX1 36 "NameRolls$Roll" "numbersBehind" "[I", Cond.fieldLink RX1 24 "NameRolls$Roll" "rules" "[I", Cond.fieldLink RX1 27 "NameRolls$Roll" "namesThen" "[I", Cond.fieldLink RX1 30 "NameRolls$Roll" "movedThen" "[I", Cond.fieldLink RX1 33 "NameRolls$Roll" "yearsThen" "[I", Cond.methodLink RX1 54 arraycopyName, Cond.native arraycopyName, Cond.static arraycopyName, Cond.initialized "java/lang/System", Cond.fieldLink RX1 39 "NameRolls$Roll" "yearsBehind" "[I", Cond.methodLink RX1 104 yX1_placeOf, Cond.instanceMethod yX1_placeOf, Cond.selects RX1 yX1_placeOf yX1_placeOf, Cond.code yX1_placeOf cX1_placeOf 5 (some .int), Cond.methodLink RX1 97 yX1_isAhead, Cond.instanceMethod yX1_isAhead, Cond.selects RX1 yX1_isAhead yX1_isAhead, Cond.code yX1_isAhead cX1_isAhead 4 (some .boolean), Cond.static yX3_orderKey]
def wsX0_carryOut_r5 : List Cond := [Cond.code yX3_orderKey cX3_orderKey 3 (some .int), Cond.constant RX3 194 (14348907), Cond.methodLink RX1 108 yX1_namesBelow, Cond.instanceMethod yX1_namesBelow, Cond.selects RX1 yX1_namesBelow yX1_namesBelow, Cond.code yX1_namesBelow cX1_namesBelow 4 (some .int), Cond.methodLink RX1 111 yX1_moveNames, Cond.instanceMethod yX1_moveNames, Cond.selects RX1 yX1_moveNames yX1_moveNames, Cond.code yX1_moveNames cX1_moveNames 4 none, Cond.fieldLink RX1 42 "NameRolls$Roll" "oldNames" "[I", Cond.fieldLink RX1 45 "NameRolls$Roll" "oldUsers" "[I", Cond.methodLink RX1 48 yJ7_fill_53178, Cond.static yJ7_fill_53178, Cond.initialized RJ7, Cond.code yJ7_fill_53178 cJ7_fill_53178 4 none, Cond.methodLink RX1 115 yX1_moveCells, Cond.instanceMethod yX1_moveCells, Cond.selects RX1 yX1_moveCells yX1_moveCells, Cond.code yX1_moveCells cX1_moveCells 3 none]
def wsX0_carryOut : List Cond := .code yX0_carryOut cX0_carryOut 2 none :: ((wsX0_carryOut_r1 ++ (wsX0_carryOut_r2 ++ (wsX0_carryOut_r3 ++ (wsX0_carryOut_r4 ++ wsX0_carryOut_r5)))) ++ wsX00 ++ wsX10)
def wsX0_tryOn_r1 : List Cond := [Cond.fieldLink RX0 12 "NameRolls$Player" "trial" "LNameRolls$Roll;", Cond.fieldLink RX0 22 "NameRolls$Player" "orders" "I", Cond.fieldLink RX0 26 "NameRolls$Player" "reason" "I", Cond.fieldLink RX0 29 "NameRolls$Player" "at" "I", Cond.fieldLink RX0 32 "NameRolls$Text" "length" "I", Cond.fieldLink RX0 37 "NameRolls$Player" "start" "I", Cond.methodLink RX0 18 yX1_copyFrom, Cond.instanceMethod yX1_copyFrom, Cond.selects RX1 yX1_copyFrom yX1_copyFrom, Cond.initialized RX1, Cond.code yX1_copyFrom cX1_copyFrom 2 none, Cond.fieldLink RX1 9 "NameRolls$Roll" "names" "[I", Cond.methodLink RX1 54 arraycopyName, Cond.native arraycopyName, Cond.static arraycopyName, Cond.initialized "java/lang/System", Cond.fieldLink RX1 15 "NameRolls$Roll" "users" "[I", Cond.fieldLink RX1 18 "NameRolls$Roll" "years" "[I", Cond.fieldLink RX1 21 "NameRolls$Roll" "cells" "[I", Cond.fieldLink RX1 60 "NameRolls$Roll" "epoch" "I", Cond.fieldLink RX1 64 "NameRolls$Roll" "gained" "I", Cond.fieldLink RX1 67 "NameRolls$Roll" "lost" "I", Cond.fieldLink RX1 24 "NameRolls$Roll" "rules" "[I", Cond.fieldLink RX1 27 "NameRolls$Roll" "namesThen" "[I"]
def wsX0_tryOn_r2 : List Cond := [Cond.fieldLink RX1 30 "NameRolls$Roll" "movedThen" "[I", Cond.fieldLink RX1 33 "NameRolls$Roll" "yearsThen" "[I", Cond.fieldLink RX1 36 "NameRolls$Roll" "numbersBehind" "[I", Cond.fieldLink RX1 39 "NameRolls$Roll" "yearsBehind" "[I", Cond.methodLink RX0 40 yX0_readOrder, Cond.instanceMethod yX0_readOrder, Cond.selects RX0 yX0_readOrder yX0_readOrder, Cond.initialized RX0, Cond.code yX0_readOrder cX0_readOrder 2 none, Cond.fieldLink RX0 54 "NameRolls$Player" "kind" "C", Cond.fieldLink RX0 58 "NameRolls$Player" "table" "I", Cond.fieldLink RX0 61 "NameRolls$Player" "cell" "I", Cond.fieldLink RX0 64 "NameRolls$Player" "rule" "I", Cond.fieldLink RX0 67 "NameRolls$Player" "letters" "I", Cond.fieldLink RX0 70 "NameRolls$Player" "name" "I", Cond.methodLink RX0 50 yX2_signAt, Cond.instanceMethod yX2_signAt, Cond.selects RX2 yX2_signAt yX2_signAt, Cond.initialized RX2, Cond.code yX2_signAt cX2_signAt 2 (some .char), Cond.fieldLink RX2 15 "NameRolls$Text" "length" "I", Cond.fieldLink RX2 9 "NameRolls$Text" "signs" "[C", Cond.static yX3_isBelow, Cond.initialized RX3]
def wsX0_tryOn_r3 : List Cond := [Cond.code yX3_isBelow cX3_isBelow 2 (some .boolean), Cond.methodLink RX0 73 yX0_readLetters, Cond.instanceMethod yX0_readLetters, Cond.selects RX0 yX0_readLetters yX0_readLetters, Cond.code yX0_readLetters cX0_readLetters 4 none, Cond.methodLink RX0 84 yX0_fail, Cond.instanceMethod yX0_fail, Cond.selects RX0 yX0_fail yX0_fail, Cond.code yX0_fail cX0_fail 3 none, Cond.fieldLink RX0 125 "NameRolls$Player" "cause" "I", Cond.methodLink RX0 76 yX0_readDigit, Cond.instanceMethod yX0_readDigit, Cond.selects RX0 yX0_readDigit yX0_readDigit, Cond.code yX0_readDigit cX0_readDigit 3 (some .int), Cond.methodLink RX0 80 yX0_readSign, Cond.instanceMethod yX0_readSign, Cond.selects RX0 yX0_readSign yX0_readSign, Cond.code yX0_readSign cX0_readSign 3 none, Cond.methodLink RX0 44 yX0_checkRanges, Cond.instanceMethod yX0_checkRanges, Cond.selects RX0 yX0_checkRanges yX0_checkRanges, Cond.code yX0_checkRanges cX0_checkRanges 1 none, Cond.methodLink RX0 47 yX0_carryOut, Cond.instanceMethod yX0_carryOut]
def wsX0_tryOn_r4 : List Cond := [Cond.selects RX0 yX0_carryOut yX0_carryOut, Cond.code yX0_carryOut cX0_carryOut 2 none, Cond.methodLink RX0 88 yX1_numberWith, Cond.instanceMethod yX1_numberWith, Cond.selects RX1 yX1_numberWith yX1_numberWith, Cond.code yX1_numberWith cX1_numberWith 3 (some .int), Cond.methodLink RX0 92 yX0_canCarryOut, Cond.instanceMethod yX0_canCarryOut, Cond.selects RX0 yX0_canCarryOut yX0_canCarryOut, Cond.code yX0_canCarryOut cX0_canCarryOut 2 (some .boolean), Cond.methodLink RX0 112 yX1_hasRoomFor, Cond.instanceMethod yX1_hasRoomFor, Cond.selects RX1 yX1_hasRoomFor yX1_hasRoomFor, Cond.code yX1_hasRoomFor cX1_hasRoomFor 3 (some .boolean), Cond.methodLink RX1 80 yX1_numberWith, Cond.methodLink RX1 84 yX1_hasRoomForUser, Cond.instanceMethod yX1_hasRoomForUser, Cond.selects RX1 yX1_hasRoomForUser yX1_hasRoomForUser, Cond.code yX1_hasRoomForUser cX1_hasRoomForUser 2 (some .boolean), Cond.methodLink RX0 115 yX1_hasFreeUser, Cond.instanceMethod yX1_hasFreeUser, Cond.selects RX1 yX1_hasFreeUser yX1_hasFreeUser, Cond.code yX1_hasFreeUser cX1_hasFreeUser 2 (some .boolean), Cond.methodLink RX1 91 yX1_cellsWith]
def wsX0_tryOn_r5 : List Cond := [Cond.instanceMethod yX1_cellsWith, Cond.selects RX1 yX1_cellsWith yX1_cellsWith, Cond.code yX1_cellsWith cX1_cellsWith 4 (some .int), Cond.methodLink RX0 118 yX1_hasRoomForUser, Cond.methodLink RX0 121 yX1_hasNextEpoch, Cond.instanceMethod yX1_hasNextEpoch, Cond.selects RX1 yX1_hasNextEpoch yX1_hasNextEpoch, Cond.code yX1_hasNextEpoch cX1_hasNextEpoch 1 (some .boolean), Cond.methodLink RX0 96 yX1_enter, Cond.instanceMethod yX1_enter, Cond.selects RX1 yX1_enter yX1_enter, Cond.code yX1_enter cX1_enter 3 (some .int), Cond.methodLink RX1 88 yX1_addUser, Cond.instanceMethod yX1_addUser, Cond.selects RX1 yX1_addUser yX1_addUser, Cond.code yX1_addUser cX1_addUser 2 (some .int), Cond.methodLink RX0 99 yX1_giveBack, Cond.instanceMethod yX1_giveBack, Cond.selects RX1 yX1_giveBack yX1_giveBack, Cond.code yX1_giveBack cX1_giveBack 2 (some .int), Cond.static yX3_cellIndex, Cond.code yX3_cellIndex cX3_cellIndex 2 (some .int), Cond.methodLink RX0 106 yX1_fillCell, Cond.instanceMethod yX1_fillCell]
def wsX0_tryOn_r6 : List Cond := [Cond.selects RX1 yX1_fillCell yX1_fillCell, Cond.code yX1_fillCell cX1_fillCell 3 (some .int), Cond.methodLink RX1 94 yX1_giveBack, Cond.methodLink RX0 109 yX1_giveAnew, Cond.instanceMethod yX1_giveAnew, Cond.selects RX1 yX1_giveAnew yX1_giveAnew, Cond.code yX1_giveAnew cX1_giveAnew 7 (some .int), Cond.methodLink RX1 104 yX1_placeOf, Cond.instanceMethod yX1_placeOf, Cond.selects RX1 yX1_placeOf yX1_placeOf, Cond.code yX1_placeOf cX1_placeOf 5 (some .int), Cond.methodLink RX1 97 yX1_isAhead, Cond.instanceMethod yX1_isAhead, Cond.selects RX1 yX1_isAhead yX1_isAhead, Cond.code yX1_isAhead cX1_isAhead 4 (some .boolean), Cond.static yX3_orderKey, Cond.code yX3_orderKey cX3_orderKey 3 (some .int), Cond.constant RX3 194 (14348907), Cond.methodLink RX1 108 yX1_namesBelow, Cond.instanceMethod yX1_namesBelow, Cond.selects RX1 yX1_namesBelow yX1_namesBelow, Cond.code yX1_namesBelow cX1_namesBelow 4 (some .int), Cond.methodLink RX1 111 yX1_moveNames, Cond.instanceMethod yX1_moveNames]
def wsX0_tryOn_r7 : List Cond := [Cond.selects RX1 yX1_moveNames yX1_moveNames, Cond.code yX1_moveNames cX1_moveNames 4 none, Cond.fieldLink RX1 42 "NameRolls$Roll" "oldNames" "[I", Cond.fieldLink RX1 45 "NameRolls$Roll" "oldUsers" "[I", Cond.methodLink RX1 48 yJ7_fill_53178, Cond.static yJ7_fill_53178, Cond.initialized RJ7, Cond.code yJ7_fill_53178 cJ7_fill_53178 4 none, Cond.methodLink RX1 115 yX1_moveCells, Cond.instanceMethod yX1_moveCells, Cond.selects RX1 yX1_moveCells yX1_moveCells, Cond.code yX1_moveCells cX1_moveCells 3 none]
def wsX0_tryOn : List Cond := .code yX0_tryOn cX0_tryOn 4 none :: ((wsX0_tryOn_r1 ++ (wsX0_tryOn_r2 ++ (wsX0_tryOn_r3 ++ (wsX0_tryOn_r4 ++ (wsX0_tryOn_r5 ++ (wsX0_tryOn_r6 ++ wsX0_tryOn_r7)))))) ++ wsX00 ++ wsX20 ++ wsX10)
def wsX1_tagIn : List Cond := .code yX1_tagIn cX1_tagIn 3 (some .int) :: ([.constant RX1 79 (1000000)])
def wsX1_tagOf : List Cond := .code yX1_tagOf cX1_tagOf 2 (some .int) :: ([.fieldLink RX1 60 "NameRolls$Roll" "epoch" "I", .fieldLink RX1 18 "NameRolls$Roll" "years" "[I", .constant RX1 78 (-1000004), .static yX3_isBelow, .initialized RX3, .code yX3_isBelow cX3_isBelow 2 (some .boolean), .methodLink RX1 74 yX1_tagIn, .static yX1_tagIn, .initialized RX1, .code yX1_tagIn cX1_tagIn 3 (some .int), .constant RX1 79 (1000000)] ++ wsX10)
def wsX1_standing : List Cond := .code yX1_standing cX1_standing 8 (some .int) :: ([.constant RX1 79 (1000000), .fieldLink RX1 60 "NameRolls$Roll" "epoch" "I", .fieldLink RX1 36 "NameRolls$Roll" "numbersBehind" "[I", .fieldLink RX1 33 "NameRolls$Roll" "yearsThen" "[I", .fieldLink RX1 39 "NameRolls$Roll" "yearsBehind" "[I", .fieldLink RX1 9 "NameRolls$Roll" "names" "[I", .fieldLink RX1 18 "NameRolls$Roll" "years" "[I", .static yX3_isBelow, .initialized RX3, .code yX3_isBelow cX3_isBelow 2 (some .boolean)] ++ wsX10)
def wsX1_emptyCell : List Cond := .code yX1_emptyCell cX1_emptyCell 3 (some .int) :: ([.fieldLink RX1 21 "NameRolls$Roll" "cells" "[I", .static yX3_isBelow, .initialized RX3, .code yX3_isBelow cX3_isBelow 2 (some .boolean), .methodLink RX1 94 yX1_giveBack, .instanceMethod yX1_giveBack, .selects RX1 yX1_giveBack yX1_giveBack, .initialized RX1, .code yX1_giveBack cX1_giveBack 2 (some .int), .fieldLink RX1 15 "NameRolls$Roll" "users" "[I", .fieldLink RX1 9 "NameRolls$Roll" "names" "[I", .fieldLink RX1 18 "NameRolls$Roll" "years" "[I", .fieldLink RX1 67 "NameRolls$Roll" "lost" "I"] ++ wsX10)
def wsX1_stillStanding : List Cond := .code yX1_stillStanding cX1_stillStanding 6 (some .int) :: ([.fieldLink RX1 36 "NameRolls$Roll" "numbersBehind" "[I", .fieldLink RX1 33 "NameRolls$Roll" "yearsThen" "[I", .methodLink RX1 74 yX1_tagIn, .static yX1_tagIn, .initialized RX1, .code yX1_tagIn cX1_tagIn 3 (some .int), .constant RX1 79 (1000000), .methodLink RX1 118 yX1_standing, .instanceMethod yX1_standing, .selects RX1 yX1_standing yX1_standing, .code yX1_standing cX1_standing 8 (some .int), .fieldLink RX1 60 "NameRolls$Roll" "epoch" "I", .fieldLink RX1 39 "NameRolls$Roll" "yearsBehind" "[I", .fieldLink RX1 9 "NameRolls$Roll" "names" "[I", .fieldLink RX1 18 "NameRolls$Roll" "years" "[I", .static yX3_isBelow, .initialized RX3, .code yX3_isBelow cX3_isBelow 2 (some .boolean)] ++ wsX10)
def wsX1_usersOfAll : List Cond := .code yX1_usersOfAll cX1_usersOfAll 3 (some .int) :: ([.fieldLink RX1 15 "NameRolls$Roll" "users" "[I"] ++ wsX10)
def wsX1_top : List Cond := .code yX1_top cX1_top 2 (some .int) :: ([.fieldLink RX1 9 "NameRolls$Roll" "names" "[I"] ++ wsX10)
def wsX2_init : List Cond := .code yX2_init cX2_init 1 none :: ([.methodLink RX2 3 objectInit, .instanceMethod objectInit, .code objectInit ⟨#[0xb1]⟩ 1 none, .arrayClass .char, .fieldLink RX2 9 "NameRolls$Text" "signs" "[C"] ++ wsX20)
def wsX2_append : List Cond := .code yX2_append cX2_append 2 (some .int) :: ([.fieldLink RX2 15 "NameRolls$Text" "length" "I", .fieldLink RX2 9 "NameRolls$Text" "signs" "[C", .static yX3_isBelow, .initialized RX3, .code yX3_isBelow cX3_isBelow 2 (some .boolean)] ++ wsX20)
def wsX3_init_r1 : List Cond := [Cond.methodLink RX3 1 objectInit, Cond.instanceMethod objectInit, Cond.code objectInit ⟨#[0xb1]⟩ 1 none, Cond.classLink RX3 7 RX1, Cond.instantiable RX1 15, Cond.initialized RX1, Cond.fieldLink RX3 10 "NameRolls" "now" "LNameRolls$Roll;", Cond.fieldLink RX3 16 "NameRolls" "past" "[LNameRolls$Roll;", Cond.classLink RX3 20 RX2, Cond.instantiable RX2 2, Cond.initialized RX2, Cond.fieldLink RX3 23 "NameRolls" "text" "LNameRolls$Text;", Cond.classLink RX3 27 RX0, Cond.instantiable RX0 12, Cond.initialized RX0, Cond.fieldLink RX3 30 "NameRolls" "player" "LNameRolls$Player;", Cond.methodLink RX3 9 yX1_init, Cond.instanceMethod yX1_init, Cond.code yX1_init cX1_init 1 none, Cond.methodLink RX1 3 objectInit, Cond.arrayClass .int, Cond.fieldLink RX1 9 "NameRolls$Roll" "names" "[I", Cond.fieldLink RX1 15 "NameRolls$Roll" "users" "[I", Cond.fieldLink RX1 18 "NameRolls$Roll" "years" "[I"]
def wsX3_init_r2 : List Cond := [Cond.fieldLink RX1 21 "NameRolls$Roll" "cells" "[I", Cond.fieldLink RX1 24 "NameRolls$Roll" "rules" "[I", Cond.fieldLink RX1 27 "NameRolls$Roll" "namesThen" "[I", Cond.fieldLink RX1 30 "NameRolls$Roll" "movedThen" "[I", Cond.fieldLink RX1 33 "NameRolls$Roll" "yearsThen" "[I", Cond.fieldLink RX1 36 "NameRolls$Roll" "numbersBehind" "[I", Cond.fieldLink RX1 39 "NameRolls$Roll" "yearsBehind" "[I", Cond.fieldLink RX1 42 "NameRolls$Roll" "oldNames" "[I", Cond.fieldLink RX1 45 "NameRolls$Roll" "oldUsers" "[I", Cond.methodLink RX1 48 yJ7_fill_53178, Cond.static yJ7_fill_53178, Cond.initialized RJ7, Cond.code yJ7_fill_53178 cJ7_fill_53178 4 none, Cond.instanceMethod yX2_init, Cond.code yX2_init cX2_init 1 none, Cond.methodLink RX2 3 objectInit, Cond.arrayClass .char, Cond.fieldLink RX2 9 "NameRolls$Text" "signs" "[C", Cond.instanceMethod yX0_init, Cond.code yX0_init cX0_init 1 none, Cond.methodLink RX0 3 objectInit, Cond.classLink RX0 9 RX1, Cond.fieldLink RX0 12 "NameRolls$Player" "trial" "LNameRolls$Roll;", Cond.methodLink RX0 11 yX1_init]
def wsX3_init : List Cond := .code yX3_init cX3_init 2 none :: ((wsX3_init_r1 ++ wsX3_init_r2) ++ wsX10 ++ wsX30 ++ wsX20 ++ wsX00)
def wsX3_isName : List Cond := .code yX3_isName cX3_isName 3 (some .boolean) :: ([.constant RX3 193 (387420488)])
def wsX3_recordState_r1 : List Cond := [Cond.fieldLink RX3 160 "NameRolls" "states" "I", Cond.fieldLink RX3 16 "NameRolls" "past" "[LNameRolls$Roll;", Cond.fieldLink RX3 10 "NameRolls" "now" "LNameRolls$Roll;", Cond.methodLink RX3 166 yX1_copyFrom, Cond.instanceMethod yX1_copyFrom, Cond.selects RX1 yX1_copyFrom yX1_copyFrom, Cond.initialized RX1, Cond.code yX1_copyFrom cX1_copyFrom 2 none, Cond.fieldLink RX1 9 "NameRolls$Roll" "names" "[I", Cond.methodLink RX1 54 arraycopyName, Cond.native arraycopyName, Cond.static arraycopyName, Cond.initialized "java/lang/System", Cond.fieldLink RX1 15 "NameRolls$Roll" "users" "[I", Cond.fieldLink RX1 18 "NameRolls$Roll" "years" "[I", Cond.fieldLink RX1 21 "NameRolls$Roll" "cells" "[I", Cond.fieldLink RX1 60 "NameRolls$Roll" "epoch" "I", Cond.fieldLink RX1 64 "NameRolls$Roll" "gained" "I", Cond.fieldLink RX1 67 "NameRolls$Roll" "lost" "I", Cond.fieldLink RX1 24 "NameRolls$Roll" "rules" "[I", Cond.fieldLink RX1 27 "NameRolls$Roll" "namesThen" "[I", Cond.fieldLink RX1 30 "NameRolls$Roll" "movedThen" "[I", Cond.fieldLink RX1 33 "NameRolls$Roll" "yearsThen" "[I", Cond.fieldLink RX1 36 "NameRolls$Roll" "numbersBehind" "[I"]
def wsX3_recordState_r2 : List Cond := [Cond.fieldLink RX1 39 "NameRolls$Roll" "yearsBehind" "[I"]
def wsX3_recordState : List Cond := .code yX3_recordState cX3_recordState 3 none :: ((wsX3_recordState_r1 ++ wsX3_recordState_r2) ++ wsX30 ++ wsX10)
def wsX3_acquire_r1 : List Cond := [Cond.constant RX3 38 (-1000001), Cond.fieldLink RX3 10 "NameRolls" "now" "LNameRolls$Roll;", Cond.constant RX3 42 (-1000003), Cond.methodLink RX3 34 yX3_isName, Cond.static yX3_isName, Cond.initialized RX3, Cond.code yX3_isName cX3_isName 3 (some .boolean), Cond.constant RX3 193 (387420488), Cond.methodLink RX3 39 yX1_hasRoomFor, Cond.instanceMethod yX1_hasRoomFor, Cond.selects RX1 yX1_hasRoomFor yX1_hasRoomFor, Cond.initialized RX1, Cond.code yX1_hasRoomFor cX1_hasRoomFor 3 (some .boolean), Cond.methodLink RX1 80 yX1_numberWith, Cond.instanceMethod yX1_numberWith, Cond.selects RX1 yX1_numberWith yX1_numberWith, Cond.code yX1_numberWith cX1_numberWith 3 (some .int), Cond.fieldLink RX1 9 "NameRolls$Roll" "names" "[I", Cond.methodLink RX1 84 yX1_hasRoomForUser, Cond.instanceMethod yX1_hasRoomForUser, Cond.selects RX1 yX1_hasRoomForUser yX1_hasRoomForUser, Cond.code yX1_hasRoomForUser cX1_hasRoomForUser 2 (some .boolean), Cond.fieldLink RX1 15 "NameRolls$Roll" "users" "[I", Cond.static yX3_isBelow]
def wsX3_acquire_r2 : List Cond := [Cond.code yX3_isBelow cX3_isBelow 2 (some .boolean), Cond.methodLink RX3 43 yX3_recordState, Cond.instanceMethod yX3_recordState, Cond.selects RX3 yX3_recordState yX3_recordState, Cond.code yX3_recordState cX3_recordState 3 none, Cond.fieldLink RX3 160 "NameRolls" "states" "I", Cond.fieldLink RX3 16 "NameRolls" "past" "[LNameRolls$Roll;", Cond.methodLink RX3 166 yX1_copyFrom, Cond.instanceMethod yX1_copyFrom, Cond.selects RX1 yX1_copyFrom yX1_copyFrom, Cond.code yX1_copyFrom cX1_copyFrom 2 none, Cond.methodLink RX1 54 arraycopyName, Cond.native arraycopyName, Cond.static arraycopyName, Cond.initialized "java/lang/System", Cond.fieldLink RX1 18 "NameRolls$Roll" "years" "[I", Cond.fieldLink RX1 21 "NameRolls$Roll" "cells" "[I", Cond.fieldLink RX1 60 "NameRolls$Roll" "epoch" "I", Cond.fieldLink RX1 64 "NameRolls$Roll" "gained" "I", Cond.fieldLink RX1 67 "NameRolls$Roll" "lost" "I", Cond.fieldLink RX1 24 "NameRolls$Roll" "rules" "[I", Cond.fieldLink RX1 27 "NameRolls$Roll" "namesThen" "[I", Cond.fieldLink RX1 30 "NameRolls$Roll" "movedThen" "[I", Cond.fieldLink RX1 33 "NameRolls$Roll" "yearsThen" "[I"]
def wsX3_acquire_r3 : List Cond := [Cond.fieldLink RX1 36 "NameRolls$Roll" "numbersBehind" "[I", Cond.fieldLink RX1 39 "NameRolls$Roll" "yearsBehind" "[I", Cond.methodLink RX3 46 yX1_enter, Cond.instanceMethod yX1_enter, Cond.selects RX1 yX1_enter yX1_enter, Cond.code yX1_enter cX1_enter 3 (some .int), Cond.methodLink RX1 88 yX1_addUser, Cond.instanceMethod yX1_addUser, Cond.selects RX1 yX1_addUser yX1_addUser, Cond.code yX1_addUser cX1_addUser 2 (some .int), Cond.methodLink RX3 50 yX1_tagOf, Cond.instanceMethod yX1_tagOf, Cond.selects RX1 yX1_tagOf yX1_tagOf, Cond.code yX1_tagOf cX1_tagOf 2 (some .int), Cond.constant RX1 78 (-1000004), Cond.methodLink RX1 74 yX1_tagIn, Cond.static yX1_tagIn, Cond.code yX1_tagIn cX1_tagIn 3 (some .int), Cond.constant RX1 79 (1000000)]
def wsX3_acquire : List Cond := .code yX3_acquire cX3_acquire 2 (some .int) :: ((wsX3_acquire_r1 ++ (wsX3_acquire_r2 ++ wsX3_acquire_r3)) ++ wsX30 ++ wsX10)
def wsX3_use_r1 : List Cond := [Cond.fieldLink RX3 10 "NameRolls" "now" "LNameRolls$Roll;", Cond.constant RX3 56 (-1000005), Cond.constant RX3 42 (-1000003), Cond.methodLink RX3 53 yX1_standing, Cond.instanceMethod yX1_standing, Cond.selects RX1 yX1_standing yX1_standing, Cond.initialized RX1, Cond.code yX1_standing cX1_standing 8 (some .int), Cond.constant RX1 79 (1000000), Cond.fieldLink RX1 60 "NameRolls$Roll" "epoch" "I", Cond.fieldLink RX1 36 "NameRolls$Roll" "numbersBehind" "[I", Cond.fieldLink RX1 33 "NameRolls$Roll" "yearsThen" "[I", Cond.fieldLink RX1 39 "NameRolls$Roll" "yearsBehind" "[I", Cond.fieldLink RX1 9 "NameRolls$Roll" "names" "[I", Cond.fieldLink RX1 18 "NameRolls$Roll" "years" "[I", Cond.static yX3_isBelow, Cond.initialized RX3, Cond.code yX3_isBelow cX3_isBelow 2 (some .boolean), Cond.methodLink RX3 57 yX1_hasRoomForUser, Cond.instanceMethod yX1_hasRoomForUser, Cond.selects RX1 yX1_hasRoomForUser yX1_hasRoomForUser, Cond.code yX1_hasRoomForUser cX1_hasRoomForUser 2 (some .boolean), Cond.fieldLink RX1 15 "NameRolls$Roll" "users" "[I", Cond.methodLink RX3 43 yX3_recordState]
def wsX3_use_r2 : List Cond := [Cond.instanceMethod yX3_recordState, Cond.selects RX3 yX3_recordState yX3_recordState, Cond.code yX3_recordState cX3_recordState 3 none, Cond.fieldLink RX3 160 "NameRolls" "states" "I", Cond.fieldLink RX3 16 "NameRolls" "past" "[LNameRolls$Roll;", Cond.methodLink RX3 166 yX1_copyFrom, Cond.instanceMethod yX1_copyFrom, Cond.selects RX1 yX1_copyFrom yX1_copyFrom, Cond.code yX1_copyFrom cX1_copyFrom 2 none, Cond.methodLink RX1 54 arraycopyName, Cond.native arraycopyName, Cond.static arraycopyName, Cond.initialized "java/lang/System", Cond.fieldLink RX1 21 "NameRolls$Roll" "cells" "[I", Cond.fieldLink RX1 64 "NameRolls$Roll" "gained" "I", Cond.fieldLink RX1 67 "NameRolls$Roll" "lost" "I", Cond.fieldLink RX1 24 "NameRolls$Roll" "rules" "[I", Cond.fieldLink RX1 27 "NameRolls$Roll" "namesThen" "[I", Cond.fieldLink RX1 30 "NameRolls$Roll" "movedThen" "[I", Cond.methodLink RX3 60 yX1_addUser, Cond.instanceMethod yX1_addUser, Cond.selects RX1 yX1_addUser yX1_addUser, Cond.code yX1_addUser cX1_addUser 2 (some .int)]
def wsX3_use : List Cond := .code yX3_use cX3_use 3 (some .int) :: ((wsX3_use_r1 ++ wsX3_use_r2) ++ wsX30 ++ wsX10)
def wsX3_release_r1 : List Cond := [Cond.fieldLink RX3 10 "NameRolls" "now" "LNameRolls$Roll;", Cond.constant RX3 56 (-1000005), Cond.constant RX3 66 (-1000002), Cond.methodLink RX3 53 yX1_standing, Cond.instanceMethod yX1_standing, Cond.selects RX1 yX1_standing yX1_standing, Cond.initialized RX1, Cond.code yX1_standing cX1_standing 8 (some .int), Cond.constant RX1 79 (1000000), Cond.fieldLink RX1 60 "NameRolls$Roll" "epoch" "I", Cond.fieldLink RX1 36 "NameRolls$Roll" "numbersBehind" "[I", Cond.fieldLink RX1 33 "NameRolls$Roll" "yearsThen" "[I", Cond.fieldLink RX1 39 "NameRolls$Roll" "yearsBehind" "[I", Cond.fieldLink RX1 9 "NameRolls$Roll" "names" "[I", Cond.fieldLink RX1 18 "NameRolls$Roll" "years" "[I", Cond.static yX3_isBelow, Cond.initialized RX3, Cond.code yX3_isBelow cX3_isBelow 2 (some .boolean), Cond.methodLink RX3 63 yX1_hasFreeUser, Cond.instanceMethod yX1_hasFreeUser, Cond.selects RX1 yX1_hasFreeUser yX1_hasFreeUser, Cond.code yX1_hasFreeUser cX1_hasFreeUser 2 (some .boolean), Cond.fieldLink RX1 15 "NameRolls$Roll" "users" "[I", Cond.methodLink RX1 91 yX1_cellsWith]
def wsX3_release_r2 : List Cond := [Cond.instanceMethod yX1_cellsWith, Cond.selects RX1 yX1_cellsWith yX1_cellsWith, Cond.code yX1_cellsWith cX1_cellsWith 4 (some .int), Cond.fieldLink RX1 21 "NameRolls$Roll" "cells" "[I", Cond.methodLink RX3 43 yX3_recordState, Cond.instanceMethod yX3_recordState, Cond.selects RX3 yX3_recordState yX3_recordState, Cond.code yX3_recordState cX3_recordState 3 none, Cond.fieldLink RX3 160 "NameRolls" "states" "I", Cond.fieldLink RX3 16 "NameRolls" "past" "[LNameRolls$Roll;", Cond.methodLink RX3 166 yX1_copyFrom, Cond.instanceMethod yX1_copyFrom, Cond.selects RX1 yX1_copyFrom yX1_copyFrom, Cond.code yX1_copyFrom cX1_copyFrom 2 none, Cond.methodLink RX1 54 arraycopyName, Cond.native arraycopyName, Cond.static arraycopyName, Cond.initialized "java/lang/System", Cond.fieldLink RX1 64 "NameRolls$Roll" "gained" "I", Cond.fieldLink RX1 67 "NameRolls$Roll" "lost" "I", Cond.fieldLink RX1 24 "NameRolls$Roll" "rules" "[I", Cond.fieldLink RX1 27 "NameRolls$Roll" "namesThen" "[I", Cond.fieldLink RX1 30 "NameRolls$Roll" "movedThen" "[I", Cond.methodLink RX3 67 yX1_giveBack]
def wsX3_release_r3 : List Cond := [Cond.instanceMethod yX1_giveBack, Cond.selects RX1 yX1_giveBack yX1_giveBack, Cond.code yX1_giveBack cX1_giveBack 2 (some .int)]
def wsX3_release : List Cond := .code yX3_release cX3_release 3 (some .int) :: ((wsX3_release_r1 ++ (wsX3_release_r2 ++ wsX3_release_r3)) ++ wsX30 ++ wsX10)
def wsX3_follow_r1 : List Cond := [Cond.fieldLink RX3 10 "NameRolls" "now" "LNameRolls$Roll;", Cond.constant RX3 56 (-1000005), Cond.methodLink RX3 53 yX1_standing, Cond.instanceMethod yX1_standing, Cond.selects RX1 yX1_standing yX1_standing, Cond.initialized RX1, Cond.code yX1_standing cX1_standing 8 (some .int), Cond.constant RX1 79 (1000000), Cond.fieldLink RX1 60 "NameRolls$Roll" "epoch" "I", Cond.fieldLink RX1 36 "NameRolls$Roll" "numbersBehind" "[I", Cond.fieldLink RX1 33 "NameRolls$Roll" "yearsThen" "[I", Cond.fieldLink RX1 39 "NameRolls$Roll" "yearsBehind" "[I", Cond.fieldLink RX1 9 "NameRolls$Roll" "names" "[I", Cond.fieldLink RX1 18 "NameRolls$Roll" "years" "[I", Cond.static yX3_isBelow, Cond.initialized RX3, Cond.code yX3_isBelow cX3_isBelow 2 (some .boolean), Cond.methodLink RX3 50 yX1_tagOf, Cond.instanceMethod yX1_tagOf, Cond.selects RX1 yX1_tagOf yX1_tagOf, Cond.code yX1_tagOf cX1_tagOf 2 (some .int), Cond.constant RX1 78 (-1000004), Cond.methodLink RX1 74 yX1_tagIn, Cond.static yX1_tagIn]
def wsX3_follow_r2 : List Cond := [Cond.code yX1_tagIn cX1_tagIn 3 (some .int)]
def wsX3_follow : List Cond := .code yX3_follow cX3_follow 3 (some .int) :: ((wsX3_follow_r1 ++ wsX3_follow_r2) ++ wsX30 ++ wsX10)
def wsX3_nameOf : List Cond := .code yX3_nameOf cX3_nameOf 3 (some .int) :: ([.fieldLink RX3 10 "NameRolls" "now" "LNameRolls$Roll;", .constant RX3 56 (-1000005), .fieldLink RX3 70 "NameRolls$Roll" "names" "[I", .methodLink RX3 53 yX1_standing, .instanceMethod yX1_standing, .selects RX1 yX1_standing yX1_standing, .initialized RX1, .code yX1_standing cX1_standing 8 (some .int), .constant RX1 79 (1000000), .fieldLink RX1 60 "NameRolls$Roll" "epoch" "I", .fieldLink RX1 36 "NameRolls$Roll" "numbersBehind" "[I", .fieldLink RX1 33 "NameRolls$Roll" "yearsThen" "[I", .fieldLink RX1 39 "NameRolls$Roll" "yearsBehind" "[I", .fieldLink RX1 9 "NameRolls$Roll" "names" "[I", .fieldLink RX1 18 "NameRolls$Roll" "years" "[I", .static yX3_isBelow, .initialized RX3, .code yX3_isBelow cX3_isBelow 2 (some .boolean)] ++ wsX30 ++ wsX10)
def wsX3_why : List Cond := .code yX3_why cX3_why 3 (some .int) :: ([.fieldLink RX3 10 "NameRolls" "now" "LNameRolls$Roll;", .methodLink RX3 53 yX1_standing, .instanceMethod yX1_standing, .selects RX1 yX1_standing yX1_standing, .initialized RX1, .code yX1_standing cX1_standing 8 (some .int), .constant RX1 79 (1000000), .fieldLink RX1 60 "NameRolls$Roll" "epoch" "I", .fieldLink RX1 36 "NameRolls$Roll" "numbersBehind" "[I", .fieldLink RX1 33 "NameRolls$Roll" "yearsThen" "[I", .fieldLink RX1 39 "NameRolls$Roll" "yearsBehind" "[I", .fieldLink RX1 9 "NameRolls$Roll" "names" "[I", .fieldLink RX1 18 "NameRolls$Roll" "years" "[I", .static yX3_isBelow, .initialized RX3, .code yX3_isBelow cX3_isBelow 2 (some .boolean)] ++ wsX30 ++ wsX10)
def wsX3_isCell : List Cond := .code yX3_isCell cX3_isCell 2 (some .boolean) :: ([.methodLink RX3 92 yX3_isBelow, .static yX3_isBelow, .initialized RX3, .code yX3_isBelow cX3_isBelow 2 (some .boolean)])
def wsX3_put_r1 : List Cond := [Cond.constant RX3 38 (-1000001), Cond.fieldLink RX3 10 "NameRolls" "now" "LNameRolls$Roll;", Cond.constant RX3 56 (-1000005), Cond.constant RX3 42 (-1000003), Cond.methodLink RX3 74 yX3_isCell, Cond.static yX3_isCell, Cond.initialized RX3, Cond.code yX3_isCell cX3_isCell 2 (some .boolean), Cond.methodLink RX3 92 yX3_isBelow, Cond.static yX3_isBelow, Cond.code yX3_isBelow cX3_isBelow 2 (some .boolean), Cond.methodLink RX3 53 yX1_standing, Cond.instanceMethod yX1_standing, Cond.selects RX1 yX1_standing yX1_standing, Cond.initialized RX1, Cond.code yX1_standing cX1_standing 8 (some .int), Cond.constant RX1 79 (1000000), Cond.fieldLink RX1 60 "NameRolls$Roll" "epoch" "I", Cond.fieldLink RX1 36 "NameRolls$Roll" "numbersBehind" "[I", Cond.fieldLink RX1 33 "NameRolls$Roll" "yearsThen" "[I", Cond.fieldLink RX1 39 "NameRolls$Roll" "yearsBehind" "[I", Cond.fieldLink RX1 9 "NameRolls$Roll" "names" "[I", Cond.fieldLink RX1 18 "NameRolls$Roll" "years" "[I", Cond.methodLink RX3 57 yX1_hasRoomForUser]
def wsX3_put_r2 : List Cond := [Cond.instanceMethod yX1_hasRoomForUser, Cond.selects RX1 yX1_hasRoomForUser yX1_hasRoomForUser, Cond.code yX1_hasRoomForUser cX1_hasRoomForUser 2 (some .boolean), Cond.fieldLink RX1 15 "NameRolls$Roll" "users" "[I", Cond.methodLink RX3 43 yX3_recordState, Cond.instanceMethod yX3_recordState, Cond.selects RX3 yX3_recordState yX3_recordState, Cond.code yX3_recordState cX3_recordState 3 none, Cond.fieldLink RX3 160 "NameRolls" "states" "I", Cond.fieldLink RX3 16 "NameRolls" "past" "[LNameRolls$Roll;", Cond.methodLink RX3 166 yX1_copyFrom, Cond.instanceMethod yX1_copyFrom, Cond.selects RX1 yX1_copyFrom yX1_copyFrom, Cond.code yX1_copyFrom cX1_copyFrom 2 none, Cond.methodLink RX1 54 arraycopyName, Cond.native arraycopyName, Cond.static arraycopyName, Cond.initialized "java/lang/System", Cond.fieldLink RX1 21 "NameRolls$Roll" "cells" "[I", Cond.fieldLink RX1 64 "NameRolls$Roll" "gained" "I", Cond.fieldLink RX1 67 "NameRolls$Roll" "lost" "I", Cond.fieldLink RX1 24 "NameRolls$Roll" "rules" "[I", Cond.fieldLink RX1 27 "NameRolls$Roll" "namesThen" "[I", Cond.fieldLink RX1 30 "NameRolls$Roll" "movedThen" "[I"]
def wsX3_put_r3 : List Cond := [Cond.methodLink RX3 78 yX3_cellIndex, Cond.static yX3_cellIndex, Cond.code yX3_cellIndex cX3_cellIndex 2 (some .int), Cond.methodLink RX3 82 yX1_fillCell, Cond.instanceMethod yX1_fillCell, Cond.selects RX1 yX1_fillCell yX1_fillCell, Cond.code yX1_fillCell cX1_fillCell 3 (some .int), Cond.methodLink RX1 88 yX1_addUser, Cond.instanceMethod yX1_addUser, Cond.selects RX1 yX1_addUser yX1_addUser, Cond.code yX1_addUser cX1_addUser 2 (some .int), Cond.methodLink RX1 94 yX1_giveBack, Cond.instanceMethod yX1_giveBack, Cond.selects RX1 yX1_giveBack yX1_giveBack, Cond.code yX1_giveBack cX1_giveBack 2 (some .int)]
def wsX3_put : List Cond := .code yX3_put cX3_put 5 (some .int) :: ((wsX3_put_r1 ++ (wsX3_put_r2 ++ wsX3_put_r3)) ++ wsX30 ++ wsX10)
def wsX3_clear_r1 : List Cond := [Cond.constant RX3 38 (-1000001), Cond.fieldLink RX3 10 "NameRolls" "now" "LNameRolls$Roll;", Cond.fieldLink RX3 85 "NameRolls$Roll" "cells" "[I", Cond.constant RX3 66 (-1000002), Cond.methodLink RX3 74 yX3_isCell, Cond.static yX3_isCell, Cond.initialized RX3, Cond.code yX3_isCell cX3_isCell 2 (some .boolean), Cond.methodLink RX3 92 yX3_isBelow, Cond.static yX3_isBelow, Cond.code yX3_isBelow cX3_isBelow 2 (some .boolean), Cond.methodLink RX3 78 yX3_cellIndex, Cond.static yX3_cellIndex, Cond.code yX3_cellIndex cX3_cellIndex 2 (some .int), Cond.methodLink RX3 43 yX3_recordState, Cond.instanceMethod yX3_recordState, Cond.selects RX3 yX3_recordState yX3_recordState, Cond.code yX3_recordState cX3_recordState 3 none, Cond.fieldLink RX3 160 "NameRolls" "states" "I", Cond.fieldLink RX3 16 "NameRolls" "past" "[LNameRolls$Roll;", Cond.methodLink RX3 166 yX1_copyFrom, Cond.instanceMethod yX1_copyFrom, Cond.selects RX1 yX1_copyFrom yX1_copyFrom, Cond.initialized RX1]
def wsX3_clear_r2 : List Cond := [Cond.code yX1_copyFrom cX1_copyFrom 2 none, Cond.fieldLink RX1 9 "NameRolls$Roll" "names" "[I", Cond.methodLink RX1 54 arraycopyName, Cond.native arraycopyName, Cond.static arraycopyName, Cond.initialized "java/lang/System", Cond.fieldLink RX1 15 "NameRolls$Roll" "users" "[I", Cond.fieldLink RX1 18 "NameRolls$Roll" "years" "[I", Cond.fieldLink RX1 21 "NameRolls$Roll" "cells" "[I", Cond.fieldLink RX1 60 "NameRolls$Roll" "epoch" "I", Cond.fieldLink RX1 64 "NameRolls$Roll" "gained" "I", Cond.fieldLink RX1 67 "NameRolls$Roll" "lost" "I", Cond.fieldLink RX1 24 "NameRolls$Roll" "rules" "[I", Cond.fieldLink RX1 27 "NameRolls$Roll" "namesThen" "[I", Cond.fieldLink RX1 30 "NameRolls$Roll" "movedThen" "[I", Cond.fieldLink RX1 33 "NameRolls$Roll" "yearsThen" "[I", Cond.fieldLink RX1 36 "NameRolls$Roll" "numbersBehind" "[I", Cond.fieldLink RX1 39 "NameRolls$Roll" "yearsBehind" "[I", Cond.methodLink RX3 88 yX1_emptyCell, Cond.instanceMethod yX1_emptyCell, Cond.selects RX1 yX1_emptyCell yX1_emptyCell, Cond.code yX1_emptyCell cX1_emptyCell 3 (some .int), Cond.methodLink RX1 94 yX1_giveBack, Cond.instanceMethod yX1_giveBack]
def wsX3_clear_r3 : List Cond := [Cond.selects RX1 yX1_giveBack yX1_giveBack, Cond.code yX1_giveBack cX1_giveBack 2 (some .int)]
def wsX3_clear : List Cond := .code yX3_clear cX3_clear 3 (some .int) :: ((wsX3_clear_r1 ++ (wsX3_clear_r2 ++ wsX3_clear_r3)) ++ wsX30 ++ wsX10)
def wsX3_cellOf_r1 : List Cond := [Cond.constant RX3 38 (-1000001), Cond.fieldLink RX3 10 "NameRolls" "now" "LNameRolls$Roll;", Cond.fieldLink RX3 85 "NameRolls$Roll" "cells" "[I", Cond.constant RX3 91 (-1000004), Cond.methodLink RX3 74 yX3_isCell, Cond.static yX3_isCell, Cond.initialized RX3, Cond.code yX3_isCell cX3_isCell 2 (some .boolean), Cond.methodLink RX3 92 yX3_isBelow, Cond.static yX3_isBelow, Cond.code yX3_isBelow cX3_isBelow 2 (some .boolean), Cond.methodLink RX3 78 yX3_cellIndex, Cond.static yX3_cellIndex, Cond.code yX3_cellIndex cX3_cellIndex 2 (some .int), Cond.methodLink RX3 50 yX1_tagOf, Cond.instanceMethod yX1_tagOf, Cond.selects RX1 yX1_tagOf yX1_tagOf, Cond.initialized RX1, Cond.code yX1_tagOf cX1_tagOf 2 (some .int), Cond.fieldLink RX1 60 "NameRolls$Roll" "epoch" "I", Cond.fieldLink RX1 18 "NameRolls$Roll" "years" "[I", Cond.constant RX1 78 (-1000004), Cond.methodLink RX1 74 yX1_tagIn, Cond.static yX1_tagIn]
def wsX3_cellOf_r2 : List Cond := [Cond.code yX1_tagIn cX1_tagIn 3 (some .int), Cond.constant RX1 79 (1000000)]
def wsX3_cellOf : List Cond := .code yX3_cellOf cX3_cellOf 4 (some .int) :: ((wsX3_cellOf_r1 ++ wsX3_cellOf_r2) ++ wsX30 ++ wsX10)
def wsX3_compact_r1 : List Cond := [Cond.constant RX3 38 (-1000001), Cond.fieldLink RX3 10 "NameRolls" "now" "LNameRolls$Roll;", Cond.constant RX3 42 (-1000003), Cond.methodLink RX3 92 yX3_isBelow, Cond.static yX3_isBelow, Cond.initialized RX3, Cond.code yX3_isBelow cX3_isBelow 2 (some .boolean), Cond.methodLink RX3 95 yX1_hasNextEpoch, Cond.instanceMethod yX1_hasNextEpoch, Cond.selects RX1 yX1_hasNextEpoch yX1_hasNextEpoch, Cond.initialized RX1, Cond.code yX1_hasNextEpoch cX1_hasNextEpoch 1 (some .boolean), Cond.fieldLink RX1 60 "NameRolls$Roll" "epoch" "I", Cond.methodLink RX3 43 yX3_recordState, Cond.instanceMethod yX3_recordState, Cond.selects RX3 yX3_recordState yX3_recordState, Cond.code yX3_recordState cX3_recordState 3 none, Cond.fieldLink RX3 160 "NameRolls" "states" "I", Cond.fieldLink RX3 16 "NameRolls" "past" "[LNameRolls$Roll;", Cond.methodLink RX3 166 yX1_copyFrom, Cond.instanceMethod yX1_copyFrom, Cond.selects RX1 yX1_copyFrom yX1_copyFrom, Cond.code yX1_copyFrom cX1_copyFrom 2 none, Cond.fieldLink RX1 9 "NameRolls$Roll" "names" "[I"]
def wsX3_compact_r2 : List Cond := [Cond.methodLink RX1 54 arraycopyName, Cond.native arraycopyName, Cond.static arraycopyName, Cond.initialized "java/lang/System", Cond.fieldLink RX1 15 "NameRolls$Roll" "users" "[I", Cond.fieldLink RX1 18 "NameRolls$Roll" "years" "[I", Cond.fieldLink RX1 21 "NameRolls$Roll" "cells" "[I", Cond.fieldLink RX1 64 "NameRolls$Roll" "gained" "I", Cond.fieldLink RX1 67 "NameRolls$Roll" "lost" "I", Cond.fieldLink RX1 24 "NameRolls$Roll" "rules" "[I", Cond.fieldLink RX1 27 "NameRolls$Roll" "namesThen" "[I", Cond.fieldLink RX1 30 "NameRolls$Roll" "movedThen" "[I", Cond.fieldLink RX1 33 "NameRolls$Roll" "yearsThen" "[I", Cond.fieldLink RX1 36 "NameRolls$Roll" "numbersBehind" "[I", Cond.fieldLink RX1 39 "NameRolls$Roll" "yearsBehind" "[I", Cond.methodLink RX3 99 yX1_giveAnew, Cond.instanceMethod yX1_giveAnew, Cond.selects RX1 yX1_giveAnew yX1_giveAnew, Cond.code yX1_giveAnew cX1_giveAnew 7 (some .int), Cond.methodLink RX1 104 yX1_placeOf, Cond.instanceMethod yX1_placeOf, Cond.selects RX1 yX1_placeOf yX1_placeOf, Cond.code yX1_placeOf cX1_placeOf 5 (some .int), Cond.methodLink RX1 97 yX1_isAhead]
def wsX3_compact_r3 : List Cond := [Cond.instanceMethod yX1_isAhead, Cond.selects RX1 yX1_isAhead yX1_isAhead, Cond.code yX1_isAhead cX1_isAhead 4 (some .boolean), Cond.static yX3_orderKey, Cond.code yX3_orderKey cX3_orderKey 3 (some .int), Cond.constant RX3 194 (14348907), Cond.methodLink RX1 108 yX1_namesBelow, Cond.instanceMethod yX1_namesBelow, Cond.selects RX1 yX1_namesBelow yX1_namesBelow, Cond.code yX1_namesBelow cX1_namesBelow 4 (some .int), Cond.methodLink RX1 111 yX1_moveNames, Cond.instanceMethod yX1_moveNames, Cond.selects RX1 yX1_moveNames yX1_moveNames, Cond.code yX1_moveNames cX1_moveNames 4 none, Cond.fieldLink RX1 42 "NameRolls$Roll" "oldNames" "[I", Cond.fieldLink RX1 45 "NameRolls$Roll" "oldUsers" "[I", Cond.methodLink RX1 48 yJ7_fill_53178, Cond.static yJ7_fill_53178, Cond.initialized RJ7, Cond.code yJ7_fill_53178 cJ7_fill_53178 4 none, Cond.methodLink RX1 115 yX1_moveCells, Cond.instanceMethod yX1_moveCells, Cond.selects RX1 yX1_moveCells yX1_moveCells, Cond.code yX1_moveCells cX1_moveCells 3 none]
def wsX3_compact : List Cond := .code yX3_compact cX3_compact 2 (some .int) :: ((wsX3_compact_r1 ++ (wsX3_compact_r2 ++ wsX3_compact_r3)) ++ wsX30 ++ wsX10)
def wsX3_numberOf_r1 : List Cond := [Cond.constant RX3 38 (-1000001), Cond.fieldLink RX3 10 "NameRolls" "now" "LNameRolls$Roll;", Cond.fieldLink RX3 70 "NameRolls$Roll" "names" "[I", Cond.constant RX3 91 (-1000004), Cond.fieldLink RX3 102 "NameRolls$Roll" "users" "[I", Cond.fieldLink RX3 108 "NameRolls$Roll" "years" "[I", Cond.methodLink RX3 92 yX3_isBelow, Cond.static yX3_isBelow, Cond.initialized RX3, Cond.code yX3_isBelow cX3_isBelow 2 (some .boolean), Cond.methodLink RX3 105 yX1_cellsWith, Cond.instanceMethod yX1_cellsWith, Cond.selects RX1 yX1_cellsWith yX1_cellsWith, Cond.initialized RX1, Cond.code yX1_cellsWith cX1_cellsWith 4 (some .int), Cond.fieldLink RX1 21 "NameRolls$Roll" "cells" "[I", Cond.methodLink RX3 50 yX1_tagOf, Cond.instanceMethod yX1_tagOf, Cond.selects RX1 yX1_tagOf yX1_tagOf, Cond.code yX1_tagOf cX1_tagOf 2 (some .int), Cond.fieldLink RX1 60 "NameRolls$Roll" "epoch" "I", Cond.fieldLink RX1 18 "NameRolls$Roll" "years" "[I", Cond.constant RX1 78 (-1000004), Cond.methodLink RX1 74 yX1_tagIn]
def wsX3_numberOf_r2 : List Cond := [Cond.static yX1_tagIn, Cond.code yX1_tagIn cX1_tagIn 3 (some .int), Cond.constant RX1 79 (1000000)]
def wsX3_numberOf : List Cond := .code yX3_numberOf cX3_numberOf 4 (some .int) :: ((wsX3_numberOf_r1 ++ wsX3_numberOf_r2) ++ wsX30 ++ wsX10)
def wsX3_find : List Cond := .code yX3_find cX3_find 3 (some .int) :: ([.constant RX3 38 (-1000001), .fieldLink RX3 10 "NameRolls" "now" "LNameRolls$Roll;", .constant RX3 91 (-1000004), .methodLink RX3 34 yX3_isName, .static yX3_isName, .initialized RX3, .code yX3_isName cX3_isName 3 (some .boolean), .constant RX3 193 (387420488), .methodLink RX3 111 yX1_numberWith, .instanceMethod yX1_numberWith, .selects RX1 yX1_numberWith yX1_numberWith, .initialized RX1, .code yX1_numberWith cX1_numberWith 3 (some .int), .fieldLink RX1 9 "NameRolls$Roll" "names" "[I"] ++ wsX30 ++ wsX10)
def wsX3_nameAt : List Cond := .code yX3_nameAt cX3_nameAt 4 (some .int) :: ([.constant RX3 38 (-1000001), .fieldLink RX3 10 "NameRolls" "now" "LNameRolls$Roll;", .fieldLink RX3 70 "NameRolls$Roll" "names" "[I", .constant RX3 91 (-1000004), .methodLink RX3 92 yX3_isBelow, .static yX3_isBelow, .initialized RX3, .code yX3_isBelow cX3_isBelow 2 (some .boolean), .methodLink RX3 114 yX1_placeOf, .instanceMethod yX1_placeOf, .selects RX1 yX1_placeOf yX1_placeOf, .initialized RX1, .code yX1_placeOf cX1_placeOf 5 (some .int), .fieldLink RX1 9 "NameRolls$Roll" "names" "[I", .methodLink RX1 97 yX1_isAhead, .instanceMethod yX1_isAhead, .selects RX1 yX1_isAhead yX1_isAhead, .code yX1_isAhead cX1_isAhead 4 (some .boolean), .fieldLink RX1 15 "NameRolls$Roll" "users" "[I", .static yX3_orderKey, .code yX3_orderKey cX3_orderKey 3 (some .int), .constant RX3 194 (14348907)] ++ wsX30 ++ wsX10)
def wsX3_beginsWith : List Cond := .code yX3_beginsWith cX3_beginsWith 4 (some .boolean) :: ([])
def wsX3_beginning : List Cond := .code yX3_beginning cX3_beginning 4 (some .int) :: ([.constant RX3 38 (-1000001), .fieldLink RX3 10 "NameRolls" "now" "LNameRolls$Roll;", .fieldLink RX3 70 "NameRolls$Roll" "names" "[I", .methodLink RX3 34 yX3_isName, .static yX3_isName, .initialized RX3, .code yX3_isName cX3_isName 3 (some .boolean), .constant RX3 193 (387420488), .methodLink RX3 117 yX3_beginsWith, .static yX3_beginsWith, .code yX3_beginsWith cX3_beginsWith 4 (some .boolean)] ++ wsX30 ++ wsX10)
def wsX3_behind : List Cond := .code yX3_behind cX3_behind 7 (some .int) :: ([.constant RX3 38 (-1000001), .fieldLink RX3 10 "NameRolls" "now" "LNameRolls$Roll;", .fieldLink RX3 70 "NameRolls$Roll" "names" "[I", .constant RX3 91 (-1000004), .methodLink RX3 34 yX3_isName, .static yX3_isName, .initialized RX3, .code yX3_isName cX3_isName 3 (some .boolean), .constant RX3 193 (387420488), .methodLink RX3 120 yX3_orderKey, .static yX3_orderKey, .code yX3_orderKey cX3_orderKey 3 (some .int), .constant RX3 194 (14348907)] ++ wsX30 ++ wsX10)
def wsX3_wouldBe : List Cond := .code yX3_wouldBe cX3_wouldBe 3 (some .int) :: ([.constant RX3 38 (-1000001), .fieldLink RX3 10 "NameRolls" "now" "LNameRolls$Roll;", .fieldLink RX3 70 "NameRolls$Roll" "names" "[I", .constant RX3 91 (-1000004), .methodLink RX3 92 yX3_isBelow, .static yX3_isBelow, .initialized RX3, .code yX3_isBelow cX3_isBelow 2 (some .boolean), .methodLink RX3 114 yX1_placeOf, .instanceMethod yX1_placeOf, .selects RX1 yX1_placeOf yX1_placeOf, .initialized RX1, .code yX1_placeOf cX1_placeOf 5 (some .int), .fieldLink RX1 9 "NameRolls$Roll" "names" "[I", .methodLink RX1 97 yX1_isAhead, .instanceMethod yX1_isAhead, .selects RX1 yX1_isAhead yX1_isAhead, .code yX1_isAhead cX1_isAhead 4 (some .boolean), .fieldLink RX1 15 "NameRolls$Roll" "users" "[I", .static yX3_orderKey, .code yX3_orderKey cX3_orderKey 3 (some .int), .constant RX3 194 (14348907)] ++ wsX30 ++ wsX10)
def wsX3_compaction_r1 : List Cond := [Cond.constant RX3 38 (-1000001), Cond.fieldLink RX3 10 "NameRolls" "now" "LNameRolls$Roll;", Cond.fieldLink RX3 123 "NameRolls$Roll" "epoch" "I", Cond.constant RX3 91 (-1000004), Cond.fieldLink RX3 127 "NameRolls$Roll" "rules" "[I", Cond.fieldLink RX3 130 "NameRolls$Roll" "namesThen" "[I", Cond.fieldLink RX3 133 "NameRolls$Roll" "movedThen" "[I", Cond.methodLink RX3 92 yX3_isBelow, Cond.static yX3_isBelow, Cond.initialized RX3, Cond.code yX3_isBelow cX3_isBelow 2 (some .boolean), Cond.methodLink RX3 136 yX1_stillStanding, Cond.instanceMethod yX1_stillStanding, Cond.selects RX1 yX1_stillStanding yX1_stillStanding, Cond.initialized RX1, Cond.code yX1_stillStanding cX1_stillStanding 6 (some .int), Cond.fieldLink RX1 36 "NameRolls$Roll" "numbersBehind" "[I", Cond.fieldLink RX1 33 "NameRolls$Roll" "yearsThen" "[I", Cond.methodLink RX1 74 yX1_tagIn, Cond.static yX1_tagIn, Cond.code yX1_tagIn cX1_tagIn 3 (some .int), Cond.constant RX1 79 (1000000), Cond.methodLink RX1 118 yX1_standing, Cond.instanceMethod yX1_standing]
def wsX3_compaction_r2 : List Cond := [Cond.selects RX1 yX1_standing yX1_standing, Cond.code yX1_standing cX1_standing 8 (some .int), Cond.fieldLink RX1 60 "NameRolls$Roll" "epoch" "I", Cond.fieldLink RX1 39 "NameRolls$Roll" "yearsBehind" "[I", Cond.fieldLink RX1 9 "NameRolls$Roll" "names" "[I", Cond.fieldLink RX1 18 "NameRolls$Roll" "years" "[I"]
def wsX3_compaction : List Cond := .code yX3_compaction cX3_compaction 4 (some .int) :: ((wsX3_compaction_r1 ++ wsX3_compaction_r2) ++ wsX30 ++ wsX10)
def wsX3_count_r1 : List Cond := [Cond.fieldLink RX3 10 "NameRolls" "now" "LNameRolls$Roll;", Cond.fieldLink RX3 85 "NameRolls$Roll" "cells" "[I", Cond.fieldLink RX3 123 "NameRolls$Roll" "epoch" "I", Cond.fieldLink RX3 149 "NameRolls$Roll" "gained" "I", Cond.fieldLink RX3 152 "NameRolls$Roll" "lost" "I", Cond.methodLink RX3 155 Lib.Math.min.name, Cond.static Lib.Math.min.name, Cond.initialized "java/lang/Math", Cond.code Lib.Math.min.name Lib.Math.min.code 2 (some .int), Cond.fieldLink RX3 160 "NameRolls" "states" "I", Cond.fieldLink RX3 23 "NameRolls" "text" "LNameRolls$Text;", Cond.fieldLink RX3 163 "NameRolls$Text" "length" "I", Cond.constant RX3 38 (-1000001), Cond.methodLink RX3 139 yX1_namesBelow, Cond.instanceMethod yX1_namesBelow, Cond.selects RX1 yX1_namesBelow yX1_namesBelow, Cond.initialized RX1, Cond.code yX1_namesBelow cX1_namesBelow 4 (some .int), Cond.fieldLink RX1 9 "NameRolls$Roll" "names" "[I", Cond.methodLink RX3 142 yX1_usersOfAll, Cond.instanceMethod yX1_usersOfAll, Cond.selects RX1 yX1_usersOfAll yX1_usersOfAll, Cond.code yX1_usersOfAll cX1_usersOfAll 3 (some .int), Cond.fieldLink RX1 15 "NameRolls$Roll" "users" "[I"]
def wsX3_count_r2 : List Cond := [Cond.methodLink RX3 105 yX1_cellsWith, Cond.instanceMethod yX1_cellsWith, Cond.selects RX1 yX1_cellsWith yX1_cellsWith, Cond.code yX1_cellsWith cX1_cellsWith 4 (some .int), Cond.fieldLink RX1 21 "NameRolls$Roll" "cells" "[I", Cond.methodLink RX3 146 yX1_top, Cond.instanceMethod yX1_top, Cond.selects RX1 yX1_top yX1_top, Cond.code yX1_top cX1_top 2 (some .int)]
def wsX3_count : List Cond := .code yX3_count cX3_count 2 (some .int) :: ((wsX3_count_r1 ++ wsX3_count_r2) ++ wsX30 ++ wsX10 ++ wsX20)
def wsX3_undo_r1 : List Cond := [Cond.fieldLink RX3 160 "NameRolls" "states" "I", Cond.constant RX3 66 (-1000002), Cond.fieldLink RX3 10 "NameRolls" "now" "LNameRolls$Roll;", Cond.fieldLink RX3 16 "NameRolls" "past" "[LNameRolls$Roll;", Cond.methodLink RX3 166 yX1_copyFrom, Cond.instanceMethod yX1_copyFrom, Cond.selects RX1 yX1_copyFrom yX1_copyFrom, Cond.initialized RX1, Cond.code yX1_copyFrom cX1_copyFrom 2 none, Cond.fieldLink RX1 9 "NameRolls$Roll" "names" "[I", Cond.methodLink RX1 54 arraycopyName, Cond.native arraycopyName, Cond.static arraycopyName, Cond.initialized "java/lang/System", Cond.fieldLink RX1 15 "NameRolls$Roll" "users" "[I", Cond.fieldLink RX1 18 "NameRolls$Roll" "years" "[I", Cond.fieldLink RX1 21 "NameRolls$Roll" "cells" "[I", Cond.fieldLink RX1 60 "NameRolls$Roll" "epoch" "I", Cond.fieldLink RX1 64 "NameRolls$Roll" "gained" "I", Cond.fieldLink RX1 67 "NameRolls$Roll" "lost" "I", Cond.fieldLink RX1 24 "NameRolls$Roll" "rules" "[I", Cond.fieldLink RX1 27 "NameRolls$Roll" "namesThen" "[I", Cond.fieldLink RX1 30 "NameRolls$Roll" "movedThen" "[I", Cond.fieldLink RX1 33 "NameRolls$Roll" "yearsThen" "[I"]
def wsX3_undo_r2 : List Cond := [Cond.fieldLink RX1 36 "NameRolls$Roll" "numbersBehind" "[I", Cond.fieldLink RX1 39 "NameRolls$Roll" "yearsBehind" "[I"]
def wsX3_undo : List Cond := .code yX3_undo cX3_undo 1 (some .int) :: ((wsX3_undo_r1 ++ wsX3_undo_r2) ++ wsX30 ++ wsX10)
def wsX3_type : List Cond := .code yX3_type cX3_type 2 (some .int) :: ([.constant RX3 38 (-1000001), .fieldLink RX3 23 "NameRolls" "text" "LNameRolls$Text;", .fieldLink RX3 163 "NameRolls$Text" "length" "I", .constant RX3 42 (-1000003), .methodLink RX3 170 yX2_append, .instanceMethod yX2_append, .selects RX2 yX2_append yX2_append, .initialized RX2, .code yX2_append cX2_append 2 (some .int), .fieldLink RX2 15 "NameRolls$Text" "length" "I", .fieldLink RX2 9 "NameRolls$Text" "signs" "[C", .static yX3_isBelow, .initialized RX3, .code yX3_isBelow cX3_isBelow 2 (some .boolean)] ++ wsX30 ++ wsX20)
def wsX3_clearText : List Cond := .code yX3_clearText cX3_clearText 2 (some .int) :: ([.fieldLink RX3 23 "NameRolls" "text" "LNameRolls$Text;", .fieldLink RX3 163 "NameRolls$Text" "length" "I"] ++ wsX30 ++ wsX20)
def wsX3_fault_r1 : List Cond := [Cond.constant RX3 38 (-1000001), Cond.fieldLink RX3 30 "NameRolls" "player" "LNameRolls$Player;", Cond.fieldLink RX3 10 "NameRolls" "now" "LNameRolls$Roll;", Cond.fieldLink RX3 23 "NameRolls" "text" "LNameRolls$Text;", Cond.fieldLink RX3 178 "NameRolls$Player" "reason" "I", Cond.constant RX3 91 (-1000004), Cond.fieldLink RX3 181 "NameRolls$Player" "start" "I", Cond.fieldLink RX3 184 "NameRolls$Player" "cause" "I", Cond.methodLink RX3 92 yX3_isBelow, Cond.static yX3_isBelow, Cond.initialized RX3, Cond.code yX3_isBelow cX3_isBelow 2 (some .boolean), Cond.methodLink RX3 174 yX0_tryOn, Cond.instanceMethod yX0_tryOn, Cond.selects RX0 yX0_tryOn yX0_tryOn, Cond.initialized RX0, Cond.code yX0_tryOn cX0_tryOn 4 none, Cond.fieldLink RX0 12 "NameRolls$Player" "trial" "LNameRolls$Roll;", Cond.fieldLink RX0 22 "NameRolls$Player" "orders" "I", Cond.fieldLink RX0 26 "NameRolls$Player" "reason" "I", Cond.fieldLink RX0 29 "NameRolls$Player" "at" "I", Cond.fieldLink RX0 32 "NameRolls$Text" "length" "I", Cond.fieldLink RX0 37 "NameRolls$Player" "start" "I", Cond.methodLink RX0 18 yX1_copyFrom]
def wsX3_fault_r2 : List Cond := [Cond.instanceMethod yX1_copyFrom, Cond.selects RX1 yX1_copyFrom yX1_copyFrom, Cond.initialized RX1, Cond.code yX1_copyFrom cX1_copyFrom 2 none, Cond.fieldLink RX1 9 "NameRolls$Roll" "names" "[I", Cond.methodLink RX1 54 arraycopyName, Cond.native arraycopyName, Cond.static arraycopyName, Cond.initialized "java/lang/System", Cond.fieldLink RX1 15 "NameRolls$Roll" "users" "[I", Cond.fieldLink RX1 18 "NameRolls$Roll" "years" "[I", Cond.fieldLink RX1 21 "NameRolls$Roll" "cells" "[I", Cond.fieldLink RX1 60 "NameRolls$Roll" "epoch" "I", Cond.fieldLink RX1 64 "NameRolls$Roll" "gained" "I", Cond.fieldLink RX1 67 "NameRolls$Roll" "lost" "I", Cond.fieldLink RX1 24 "NameRolls$Roll" "rules" "[I", Cond.fieldLink RX1 27 "NameRolls$Roll" "namesThen" "[I", Cond.fieldLink RX1 30 "NameRolls$Roll" "movedThen" "[I", Cond.fieldLink RX1 33 "NameRolls$Roll" "yearsThen" "[I", Cond.fieldLink RX1 36 "NameRolls$Roll" "numbersBehind" "[I", Cond.fieldLink RX1 39 "NameRolls$Roll" "yearsBehind" "[I", Cond.methodLink RX0 40 yX0_readOrder, Cond.instanceMethod yX0_readOrder, Cond.selects RX0 yX0_readOrder yX0_readOrder]
def wsX3_fault_r3 : List Cond := [Cond.code yX0_readOrder cX0_readOrder 2 none, Cond.fieldLink RX0 54 "NameRolls$Player" "kind" "C", Cond.fieldLink RX0 58 "NameRolls$Player" "table" "I", Cond.fieldLink RX0 61 "NameRolls$Player" "cell" "I", Cond.fieldLink RX0 64 "NameRolls$Player" "rule" "I", Cond.fieldLink RX0 67 "NameRolls$Player" "letters" "I", Cond.fieldLink RX0 70 "NameRolls$Player" "name" "I", Cond.methodLink RX0 50 yX2_signAt, Cond.instanceMethod yX2_signAt, Cond.selects RX2 yX2_signAt yX2_signAt, Cond.initialized RX2, Cond.code yX2_signAt cX2_signAt 2 (some .char), Cond.fieldLink RX2 15 "NameRolls$Text" "length" "I", Cond.fieldLink RX2 9 "NameRolls$Text" "signs" "[C", Cond.methodLink RX0 73 yX0_readLetters, Cond.instanceMethod yX0_readLetters, Cond.selects RX0 yX0_readLetters yX0_readLetters, Cond.code yX0_readLetters cX0_readLetters 4 none, Cond.methodLink RX0 84 yX0_fail, Cond.instanceMethod yX0_fail, Cond.selects RX0 yX0_fail yX0_fail, Cond.code yX0_fail cX0_fail 3 none, Cond.fieldLink RX0 125 "NameRolls$Player" "cause" "I", Cond.methodLink RX0 76 yX0_readDigit]
def wsX3_fault_r4 : List Cond := [Cond.instanceMethod yX0_readDigit, Cond.selects RX0 yX0_readDigit yX0_readDigit, Cond.code yX0_readDigit cX0_readDigit 3 (some .int), Cond.methodLink RX0 80 yX0_readSign, Cond.instanceMethod yX0_readSign, Cond.selects RX0 yX0_readSign yX0_readSign, Cond.code yX0_readSign cX0_readSign 3 none, Cond.methodLink RX0 44 yX0_checkRanges, Cond.instanceMethod yX0_checkRanges, Cond.selects RX0 yX0_checkRanges yX0_checkRanges, Cond.code yX0_checkRanges cX0_checkRanges 1 none, Cond.methodLink RX0 47 yX0_carryOut, Cond.instanceMethod yX0_carryOut, Cond.selects RX0 yX0_carryOut yX0_carryOut, Cond.code yX0_carryOut cX0_carryOut 2 none, Cond.methodLink RX0 88 yX1_numberWith, Cond.instanceMethod yX1_numberWith, Cond.selects RX1 yX1_numberWith yX1_numberWith, Cond.code yX1_numberWith cX1_numberWith 3 (some .int), Cond.methodLink RX0 92 yX0_canCarryOut, Cond.instanceMethod yX0_canCarryOut, Cond.selects RX0 yX0_canCarryOut yX0_canCarryOut, Cond.code yX0_canCarryOut cX0_canCarryOut 2 (some .boolean), Cond.methodLink RX0 112 yX1_hasRoomFor]
def wsX3_fault_r5 : List Cond := [Cond.instanceMethod yX1_hasRoomFor, Cond.selects RX1 yX1_hasRoomFor yX1_hasRoomFor, Cond.code yX1_hasRoomFor cX1_hasRoomFor 3 (some .boolean), Cond.methodLink RX1 80 yX1_numberWith, Cond.methodLink RX1 84 yX1_hasRoomForUser, Cond.instanceMethod yX1_hasRoomForUser, Cond.selects RX1 yX1_hasRoomForUser yX1_hasRoomForUser, Cond.code yX1_hasRoomForUser cX1_hasRoomForUser 2 (some .boolean), Cond.methodLink RX0 115 yX1_hasFreeUser, Cond.instanceMethod yX1_hasFreeUser, Cond.selects RX1 yX1_hasFreeUser yX1_hasFreeUser, Cond.code yX1_hasFreeUser cX1_hasFreeUser 2 (some .boolean), Cond.methodLink RX1 91 yX1_cellsWith, Cond.instanceMethod yX1_cellsWith, Cond.selects RX1 yX1_cellsWith yX1_cellsWith, Cond.code yX1_cellsWith cX1_cellsWith 4 (some .int), Cond.methodLink RX0 118 yX1_hasRoomForUser, Cond.methodLink RX0 121 yX1_hasNextEpoch, Cond.instanceMethod yX1_hasNextEpoch, Cond.selects RX1 yX1_hasNextEpoch yX1_hasNextEpoch, Cond.code yX1_hasNextEpoch cX1_hasNextEpoch 1 (some .boolean), Cond.methodLink RX0 96 yX1_enter, Cond.instanceMethod yX1_enter, Cond.selects RX1 yX1_enter yX1_enter]
def wsX3_fault_r6 : List Cond := [Cond.code yX1_enter cX1_enter 3 (some .int), Cond.methodLink RX1 88 yX1_addUser, Cond.instanceMethod yX1_addUser, Cond.selects RX1 yX1_addUser yX1_addUser, Cond.code yX1_addUser cX1_addUser 2 (some .int), Cond.methodLink RX0 99 yX1_giveBack, Cond.instanceMethod yX1_giveBack, Cond.selects RX1 yX1_giveBack yX1_giveBack, Cond.code yX1_giveBack cX1_giveBack 2 (some .int), Cond.static yX3_cellIndex, Cond.code yX3_cellIndex cX3_cellIndex 2 (some .int), Cond.methodLink RX0 106 yX1_fillCell, Cond.instanceMethod yX1_fillCell, Cond.selects RX1 yX1_fillCell yX1_fillCell, Cond.code yX1_fillCell cX1_fillCell 3 (some .int), Cond.methodLink RX1 94 yX1_giveBack, Cond.methodLink RX0 109 yX1_giveAnew, Cond.instanceMethod yX1_giveAnew, Cond.selects RX1 yX1_giveAnew yX1_giveAnew, Cond.code yX1_giveAnew cX1_giveAnew 7 (some .int), Cond.methodLink RX1 104 yX1_placeOf, Cond.instanceMethod yX1_placeOf, Cond.selects RX1 yX1_placeOf yX1_placeOf, Cond.code yX1_placeOf cX1_placeOf 5 (some .int)]
def wsX3_fault_r7 : List Cond := [Cond.methodLink RX1 97 yX1_isAhead, Cond.instanceMethod yX1_isAhead, Cond.selects RX1 yX1_isAhead yX1_isAhead, Cond.code yX1_isAhead cX1_isAhead 4 (some .boolean), Cond.static yX3_orderKey, Cond.code yX3_orderKey cX3_orderKey 3 (some .int), Cond.constant RX3 194 (14348907), Cond.methodLink RX1 108 yX1_namesBelow, Cond.instanceMethod yX1_namesBelow, Cond.selects RX1 yX1_namesBelow yX1_namesBelow, Cond.code yX1_namesBelow cX1_namesBelow 4 (some .int), Cond.methodLink RX1 111 yX1_moveNames, Cond.instanceMethod yX1_moveNames, Cond.selects RX1 yX1_moveNames yX1_moveNames, Cond.code yX1_moveNames cX1_moveNames 4 none, Cond.fieldLink RX1 42 "NameRolls$Roll" "oldNames" "[I", Cond.fieldLink RX1 45 "NameRolls$Roll" "oldUsers" "[I", Cond.methodLink RX1 48 yJ7_fill_53178, Cond.static yJ7_fill_53178, Cond.initialized RJ7, Cond.code yJ7_fill_53178 cJ7_fill_53178 4 none, Cond.methodLink RX1 115 yX1_moveCells, Cond.instanceMethod yX1_moveCells, Cond.selects RX1 yX1_moveCells yX1_moveCells]
def wsX3_fault_r8 : List Cond := [Cond.code yX1_moveCells cX1_moveCells 3 none]
def wsX3_fault : List Cond := .code yX3_fault cX3_fault 2 (some .int) :: ((wsX3_fault_r1 ++ (wsX3_fault_r2 ++ (wsX3_fault_r3 ++ (wsX3_fault_r4 ++ (wsX3_fault_r5 ++ (wsX3_fault_r6 ++ (wsX3_fault_r7 ++ wsX3_fault_r8))))))) ++ wsX30 ++ wsX00 ++ wsX20 ++ wsX10)
def wsX3_play_r1 : List Cond := [Cond.fieldLink RX3 30 "NameRolls" "player" "LNameRolls$Player;", Cond.fieldLink RX3 10 "NameRolls" "now" "LNameRolls$Roll;", Cond.fieldLink RX3 23 "NameRolls" "text" "LNameRolls$Text;", Cond.fieldLink RX3 178 "NameRolls$Player" "reason" "I", Cond.constant RX3 66 (-1000002), Cond.fieldLink RX3 187 "NameRolls$Player" "trial" "LNameRolls$Roll;", Cond.fieldLink RX3 190 "NameRolls$Player" "orders" "I", Cond.methodLink RX3 174 yX0_tryOn, Cond.instanceMethod yX0_tryOn, Cond.selects RX0 yX0_tryOn yX0_tryOn, Cond.initialized RX0, Cond.code yX0_tryOn cX0_tryOn 4 none, Cond.fieldLink RX0 12 "NameRolls$Player" "trial" "LNameRolls$Roll;", Cond.fieldLink RX0 22 "NameRolls$Player" "orders" "I", Cond.fieldLink RX0 26 "NameRolls$Player" "reason" "I", Cond.fieldLink RX0 29 "NameRolls$Player" "at" "I", Cond.fieldLink RX0 32 "NameRolls$Text" "length" "I", Cond.fieldLink RX0 37 "NameRolls$Player" "start" "I", Cond.methodLink RX0 18 yX1_copyFrom, Cond.instanceMethod yX1_copyFrom, Cond.selects RX1 yX1_copyFrom yX1_copyFrom, Cond.initialized RX1, Cond.code yX1_copyFrom cX1_copyFrom 2 none, Cond.fieldLink RX1 9 "NameRolls$Roll" "names" "[I"]
def wsX3_play_r2 : List Cond := [Cond.methodLink RX1 54 arraycopyName, Cond.native arraycopyName, Cond.static arraycopyName, Cond.initialized "java/lang/System", Cond.fieldLink RX1 15 "NameRolls$Roll" "users" "[I", Cond.fieldLink RX1 18 "NameRolls$Roll" "years" "[I", Cond.fieldLink RX1 21 "NameRolls$Roll" "cells" "[I", Cond.fieldLink RX1 60 "NameRolls$Roll" "epoch" "I", Cond.fieldLink RX1 64 "NameRolls$Roll" "gained" "I", Cond.fieldLink RX1 67 "NameRolls$Roll" "lost" "I", Cond.fieldLink RX1 24 "NameRolls$Roll" "rules" "[I", Cond.fieldLink RX1 27 "NameRolls$Roll" "namesThen" "[I", Cond.fieldLink RX1 30 "NameRolls$Roll" "movedThen" "[I", Cond.fieldLink RX1 33 "NameRolls$Roll" "yearsThen" "[I", Cond.fieldLink RX1 36 "NameRolls$Roll" "numbersBehind" "[I", Cond.fieldLink RX1 39 "NameRolls$Roll" "yearsBehind" "[I", Cond.methodLink RX0 40 yX0_readOrder, Cond.instanceMethod yX0_readOrder, Cond.selects RX0 yX0_readOrder yX0_readOrder, Cond.code yX0_readOrder cX0_readOrder 2 none, Cond.fieldLink RX0 54 "NameRolls$Player" "kind" "C", Cond.fieldLink RX0 58 "NameRolls$Player" "table" "I", Cond.fieldLink RX0 61 "NameRolls$Player" "cell" "I", Cond.fieldLink RX0 64 "NameRolls$Player" "rule" "I"]
def wsX3_play_r3 : List Cond := [Cond.fieldLink RX0 67 "NameRolls$Player" "letters" "I", Cond.fieldLink RX0 70 "NameRolls$Player" "name" "I", Cond.methodLink RX0 50 yX2_signAt, Cond.instanceMethod yX2_signAt, Cond.selects RX2 yX2_signAt yX2_signAt, Cond.initialized RX2, Cond.code yX2_signAt cX2_signAt 2 (some .char), Cond.fieldLink RX2 15 "NameRolls$Text" "length" "I", Cond.fieldLink RX2 9 "NameRolls$Text" "signs" "[C", Cond.static yX3_isBelow, Cond.initialized RX3, Cond.code yX3_isBelow cX3_isBelow 2 (some .boolean), Cond.methodLink RX0 73 yX0_readLetters, Cond.instanceMethod yX0_readLetters, Cond.selects RX0 yX0_readLetters yX0_readLetters, Cond.code yX0_readLetters cX0_readLetters 4 none, Cond.methodLink RX0 84 yX0_fail, Cond.instanceMethod yX0_fail, Cond.selects RX0 yX0_fail yX0_fail, Cond.code yX0_fail cX0_fail 3 none, Cond.fieldLink RX0 125 "NameRolls$Player" "cause" "I", Cond.methodLink RX0 76 yX0_readDigit, Cond.instanceMethod yX0_readDigit, Cond.selects RX0 yX0_readDigit yX0_readDigit]
def wsX3_play_r4 : List Cond := [Cond.code yX0_readDigit cX0_readDigit 3 (some .int), Cond.methodLink RX0 80 yX0_readSign, Cond.instanceMethod yX0_readSign, Cond.selects RX0 yX0_readSign yX0_readSign, Cond.code yX0_readSign cX0_readSign 3 none, Cond.methodLink RX0 44 yX0_checkRanges, Cond.instanceMethod yX0_checkRanges, Cond.selects RX0 yX0_checkRanges yX0_checkRanges, Cond.code yX0_checkRanges cX0_checkRanges 1 none, Cond.methodLink RX0 47 yX0_carryOut, Cond.instanceMethod yX0_carryOut, Cond.selects RX0 yX0_carryOut yX0_carryOut, Cond.code yX0_carryOut cX0_carryOut 2 none, Cond.methodLink RX0 88 yX1_numberWith, Cond.instanceMethod yX1_numberWith, Cond.selects RX1 yX1_numberWith yX1_numberWith, Cond.code yX1_numberWith cX1_numberWith 3 (some .int), Cond.methodLink RX0 92 yX0_canCarryOut, Cond.instanceMethod yX0_canCarryOut, Cond.selects RX0 yX0_canCarryOut yX0_canCarryOut, Cond.code yX0_canCarryOut cX0_canCarryOut 2 (some .boolean), Cond.methodLink RX0 112 yX1_hasRoomFor, Cond.instanceMethod yX1_hasRoomFor, Cond.selects RX1 yX1_hasRoomFor yX1_hasRoomFor]
def wsX3_play_r5 : List Cond := [Cond.code yX1_hasRoomFor cX1_hasRoomFor 3 (some .boolean), Cond.methodLink RX1 80 yX1_numberWith, Cond.methodLink RX1 84 yX1_hasRoomForUser, Cond.instanceMethod yX1_hasRoomForUser, Cond.selects RX1 yX1_hasRoomForUser yX1_hasRoomForUser, Cond.code yX1_hasRoomForUser cX1_hasRoomForUser 2 (some .boolean), Cond.methodLink RX0 115 yX1_hasFreeUser, Cond.instanceMethod yX1_hasFreeUser, Cond.selects RX1 yX1_hasFreeUser yX1_hasFreeUser, Cond.code yX1_hasFreeUser cX1_hasFreeUser 2 (some .boolean), Cond.methodLink RX1 91 yX1_cellsWith, Cond.instanceMethod yX1_cellsWith, Cond.selects RX1 yX1_cellsWith yX1_cellsWith, Cond.code yX1_cellsWith cX1_cellsWith 4 (some .int), Cond.methodLink RX0 118 yX1_hasRoomForUser, Cond.methodLink RX0 121 yX1_hasNextEpoch, Cond.instanceMethod yX1_hasNextEpoch, Cond.selects RX1 yX1_hasNextEpoch yX1_hasNextEpoch, Cond.code yX1_hasNextEpoch cX1_hasNextEpoch 1 (some .boolean), Cond.methodLink RX0 96 yX1_enter, Cond.instanceMethod yX1_enter, Cond.selects RX1 yX1_enter yX1_enter, Cond.code yX1_enter cX1_enter 3 (some .int), Cond.methodLink RX1 88 yX1_addUser]
def wsX3_play_r6 : List Cond := [Cond.instanceMethod yX1_addUser, Cond.selects RX1 yX1_addUser yX1_addUser, Cond.code yX1_addUser cX1_addUser 2 (some .int), Cond.methodLink RX0 99 yX1_giveBack, Cond.instanceMethod yX1_giveBack, Cond.selects RX1 yX1_giveBack yX1_giveBack, Cond.code yX1_giveBack cX1_giveBack 2 (some .int), Cond.static yX3_cellIndex, Cond.code yX3_cellIndex cX3_cellIndex 2 (some .int), Cond.methodLink RX0 106 yX1_fillCell, Cond.instanceMethod yX1_fillCell, Cond.selects RX1 yX1_fillCell yX1_fillCell, Cond.code yX1_fillCell cX1_fillCell 3 (some .int), Cond.methodLink RX1 94 yX1_giveBack, Cond.methodLink RX0 109 yX1_giveAnew, Cond.instanceMethod yX1_giveAnew, Cond.selects RX1 yX1_giveAnew yX1_giveAnew, Cond.code yX1_giveAnew cX1_giveAnew 7 (some .int), Cond.methodLink RX1 104 yX1_placeOf, Cond.instanceMethod yX1_placeOf, Cond.selects RX1 yX1_placeOf yX1_placeOf, Cond.code yX1_placeOf cX1_placeOf 5 (some .int), Cond.methodLink RX1 97 yX1_isAhead, Cond.instanceMethod yX1_isAhead]
def wsX3_play_r7 : List Cond := [Cond.selects RX1 yX1_isAhead yX1_isAhead, Cond.code yX1_isAhead cX1_isAhead 4 (some .boolean), Cond.static yX3_orderKey, Cond.code yX3_orderKey cX3_orderKey 3 (some .int), Cond.constant RX3 194 (14348907), Cond.methodLink RX1 108 yX1_namesBelow, Cond.instanceMethod yX1_namesBelow, Cond.selects RX1 yX1_namesBelow yX1_namesBelow, Cond.code yX1_namesBelow cX1_namesBelow 4 (some .int), Cond.methodLink RX1 111 yX1_moveNames, Cond.instanceMethod yX1_moveNames, Cond.selects RX1 yX1_moveNames yX1_moveNames, Cond.code yX1_moveNames cX1_moveNames 4 none, Cond.fieldLink RX1 42 "NameRolls$Roll" "oldNames" "[I", Cond.fieldLink RX1 45 "NameRolls$Roll" "oldUsers" "[I", Cond.methodLink RX1 48 yJ7_fill_53178, Cond.static yJ7_fill_53178, Cond.initialized RJ7, Cond.code yJ7_fill_53178 cJ7_fill_53178 4 none, Cond.methodLink RX1 115 yX1_moveCells, Cond.instanceMethod yX1_moveCells, Cond.selects RX1 yX1_moveCells yX1_moveCells, Cond.code yX1_moveCells cX1_moveCells 3 none, Cond.methodLink RX3 43 yX3_recordState]
def wsX3_play_r8 : List Cond := [Cond.instanceMethod yX3_recordState, Cond.selects RX3 yX3_recordState yX3_recordState, Cond.code yX3_recordState cX3_recordState 3 none, Cond.fieldLink RX3 160 "NameRolls" "states" "I", Cond.fieldLink RX3 16 "NameRolls" "past" "[LNameRolls$Roll;", Cond.methodLink RX3 166 yX1_copyFrom]
def wsX3_play : List Cond := .code yX3_play cX3_play 1 (some .int) :: ((wsX3_play_r1 ++ (wsX3_play_r2 ++ (wsX3_play_r3 ++ (wsX3_play_r4 ++ (wsX3_play_r5 ++ (wsX3_play_r6 ++ (wsX3_play_r7 ++ wsX3_play_r8))))))) ++ wsX30 ++ wsX00 ++ wsX20 ++ wsX10)
def wsJ9_min_7cf53 : List Cond := .code yJ9_min_7cf53 cJ9_min_7cf53 2 (some .int) :: ([])
def wsL_cell : List Cond := .code yL_cell cL_cell 2 (some .int) :: ([.constant RL 7 (461845907)])
def wsL_low : List Cond := .code yL_low cL_low 2 (some .int) :: ([.constant RL 8 (2147483647)])
def wsL_near : List Cond := .code yL_near cL_near 3 (some .int) :: ([.methodLink RL 9 yL_low, .static yL_low, .initialized RL, .code yL_low cL_low 2 (some .int), .constant RL 8 (2147483647)])
def wsL_isError : List Cond := .code yL_isError cL_isError 1 (some .boolean) :: ([.constant RL 15 (-1000001), .constant RL 16 (-1000005)])
def wsL_trace_r1 : List Cond := [Cond.constantLong RL 17 (3), Cond.constantLong RL 19 (31), Cond.methodLink RL 21 yX3_count, Cond.instanceMethod yX3_count, Cond.selects RX3 yX3_count yX3_count, Cond.initialized RX3, Cond.code yX3_count cX3_count 2 (some .int), Cond.fieldLink RX3 10 "NameRolls" "now" "LNameRolls$Roll;", Cond.fieldLink RX3 85 "NameRolls$Roll" "cells" "[I", Cond.fieldLink RX3 123 "NameRolls$Roll" "epoch" "I", Cond.fieldLink RX3 149 "NameRolls$Roll" "gained" "I", Cond.fieldLink RX3 152 "NameRolls$Roll" "lost" "I", Cond.methodLink RX3 155 Lib.Math.min.name, Cond.static Lib.Math.min.name, Cond.initialized "java/lang/Math", Cond.code Lib.Math.min.name Lib.Math.min.code 2 (some .int), Cond.fieldLink RX3 160 "NameRolls" "states" "I", Cond.fieldLink RX3 23 "NameRolls" "text" "LNameRolls$Text;", Cond.fieldLink RX3 163 "NameRolls$Text" "length" "I", Cond.constant RX3 38 (-1000001), Cond.methodLink RX3 139 yX1_namesBelow, Cond.instanceMethod yX1_namesBelow, Cond.selects RX1 yX1_namesBelow yX1_namesBelow, Cond.initialized RX1]
def wsL_trace_r2 : List Cond := [Cond.code yX1_namesBelow cX1_namesBelow 4 (some .int), Cond.fieldLink RX1 9 "NameRolls$Roll" "names" "[I", Cond.methodLink RX3 142 yX1_usersOfAll, Cond.instanceMethod yX1_usersOfAll, Cond.selects RX1 yX1_usersOfAll yX1_usersOfAll, Cond.code yX1_usersOfAll cX1_usersOfAll 3 (some .int), Cond.fieldLink RX1 15 "NameRolls$Roll" "users" "[I", Cond.methodLink RX3 105 yX1_cellsWith, Cond.instanceMethod yX1_cellsWith, Cond.selects RX1 yX1_cellsWith yX1_cellsWith, Cond.code yX1_cellsWith cX1_cellsWith 4 (some .int), Cond.fieldLink RX1 21 "NameRolls$Roll" "cells" "[I", Cond.methodLink RX3 146 yX1_top, Cond.instanceMethod yX1_top, Cond.selects RX1 yX1_top yX1_top, Cond.code yX1_top cX1_top 2 (some .int), Cond.methodLink RL 27 yX3_numberOf, Cond.instanceMethod yX3_numberOf, Cond.selects RX3 yX3_numberOf yX3_numberOf, Cond.code yX3_numberOf cX3_numberOf 4 (some .int), Cond.fieldLink RX3 70 "NameRolls$Roll" "names" "[I", Cond.constant RX3 91 (-1000004), Cond.fieldLink RX3 102 "NameRolls$Roll" "users" "[I", Cond.fieldLink RX3 108 "NameRolls$Roll" "years" "[I"]
def wsL_trace_r3 : List Cond := [Cond.methodLink RX3 92 yX3_isBelow, Cond.static yX3_isBelow, Cond.code yX3_isBelow cX3_isBelow 2 (some .boolean), Cond.methodLink RX3 50 yX1_tagOf, Cond.instanceMethod yX1_tagOf, Cond.selects RX1 yX1_tagOf yX1_tagOf, Cond.code yX1_tagOf cX1_tagOf 2 (some .int), Cond.fieldLink RX1 60 "NameRolls$Roll" "epoch" "I", Cond.fieldLink RX1 18 "NameRolls$Roll" "years" "[I", Cond.constant RX1 78 (-1000004), Cond.methodLink RX1 74 yX1_tagIn, Cond.static yX1_tagIn, Cond.code yX1_tagIn cX1_tagIn 3 (some .int), Cond.constant RX1 79 (1000000), Cond.methodLink RL 30 yX3_cellOf, Cond.instanceMethod yX3_cellOf, Cond.selects RX3 yX3_cellOf yX3_cellOf, Cond.code yX3_cellOf cX3_cellOf 4 (some .int), Cond.methodLink RX3 74 yX3_isCell, Cond.static yX3_isCell, Cond.code yX3_isCell cX3_isCell 2 (some .boolean), Cond.methodLink RX3 78 yX3_cellIndex, Cond.static yX3_cellIndex, Cond.code yX3_cellIndex cX3_cellIndex 2 (some .int)]
def wsL_trace_r4 : List Cond := [Cond.methodLink RL 33 yX3_compaction, Cond.instanceMethod yX3_compaction, Cond.selects RX3 yX3_compaction yX3_compaction, Cond.code yX3_compaction cX3_compaction 4 (some .int), Cond.fieldLink RX3 127 "NameRolls$Roll" "rules" "[I", Cond.fieldLink RX3 130 "NameRolls$Roll" "namesThen" "[I", Cond.fieldLink RX3 133 "NameRolls$Roll" "movedThen" "[I", Cond.methodLink RX3 136 yX1_stillStanding, Cond.instanceMethod yX1_stillStanding, Cond.selects RX1 yX1_stillStanding yX1_stillStanding, Cond.code yX1_stillStanding cX1_stillStanding 6 (some .int), Cond.fieldLink RX1 36 "NameRolls$Roll" "numbersBehind" "[I", Cond.fieldLink RX1 33 "NameRolls$Roll" "yearsThen" "[I", Cond.methodLink RX1 118 yX1_standing, Cond.instanceMethod yX1_standing, Cond.selects RX1 yX1_standing yX1_standing, Cond.code yX1_standing cX1_standing 8 (some .int), Cond.fieldLink RX1 39 "NameRolls$Roll" "yearsBehind" "[I"]
def wsL_trace : List Cond := .code yL_trace cL_trace 5 (some .long) :: ((wsL_trace_r1 ++ (wsL_trace_r2 ++ (wsL_trace_r3 ++ wsL_trace_r4))) ++ wsX30 ++ wsX10 ++ wsX20)
def wsL_padded : List Cond := .code yL_padded cL_padded 2 (some .int) :: ([.constant RL 36 (14348907)])
def wsL_numbersFit_r1 : List Cond := [Cond.constant RL 37 (-1000004), Cond.constant RL 38 (1000000), Cond.methodLink RL 27 yX3_numberOf, Cond.instanceMethod yX3_numberOf, Cond.selects RX3 yX3_numberOf yX3_numberOf, Cond.initialized RX3, Cond.code yX3_numberOf cX3_numberOf 4 (some .int), Cond.constant RX3 38 (-1000001), Cond.fieldLink RX3 10 "NameRolls" "now" "LNameRolls$Roll;", Cond.fieldLink RX3 70 "NameRolls$Roll" "names" "[I", Cond.constant RX3 91 (-1000004), Cond.fieldLink RX3 102 "NameRolls$Roll" "users" "[I", Cond.fieldLink RX3 108 "NameRolls$Roll" "years" "[I", Cond.methodLink RX3 92 yX3_isBelow, Cond.static yX3_isBelow, Cond.code yX3_isBelow cX3_isBelow 2 (some .boolean), Cond.methodLink RX3 105 yX1_cellsWith, Cond.instanceMethod yX1_cellsWith, Cond.selects RX1 yX1_cellsWith yX1_cellsWith, Cond.initialized RX1, Cond.code yX1_cellsWith cX1_cellsWith 4 (some .int), Cond.fieldLink RX1 21 "NameRolls$Roll" "cells" "[I", Cond.methodLink RX3 50 yX1_tagOf, Cond.instanceMethod yX1_tagOf]
def wsL_numbersFit_r2 : List Cond := [Cond.selects RX1 yX1_tagOf yX1_tagOf, Cond.code yX1_tagOf cX1_tagOf 2 (some .int), Cond.fieldLink RX1 60 "NameRolls$Roll" "epoch" "I", Cond.fieldLink RX1 18 "NameRolls$Roll" "years" "[I", Cond.constant RX1 78 (-1000004), Cond.methodLink RX1 74 yX1_tagIn, Cond.static yX1_tagIn, Cond.code yX1_tagIn cX1_tagIn 3 (some .int), Cond.constant RX1 79 (1000000), Cond.methodLink RL 30 yX3_cellOf, Cond.instanceMethod yX3_cellOf, Cond.selects RX3 yX3_cellOf yX3_cellOf, Cond.code yX3_cellOf cX3_cellOf 4 (some .int), Cond.fieldLink RX3 85 "NameRolls$Roll" "cells" "[I", Cond.methodLink RX3 74 yX3_isCell, Cond.static yX3_isCell, Cond.code yX3_isCell cX3_isCell 2 (some .boolean), Cond.methodLink RX3 78 yX3_cellIndex, Cond.static yX3_cellIndex, Cond.code yX3_cellIndex cX3_cellIndex 2 (some .int), Cond.methodLink RL 21 yX3_count, Cond.instanceMethod yX3_count, Cond.selects RX3 yX3_count yX3_count, Cond.code yX3_count cX3_count 2 (some .int)]
def wsL_numbersFit_r3 : List Cond := [Cond.fieldLink RX3 123 "NameRolls$Roll" "epoch" "I", Cond.fieldLink RX3 149 "NameRolls$Roll" "gained" "I", Cond.fieldLink RX3 152 "NameRolls$Roll" "lost" "I", Cond.methodLink RX3 155 Lib.Math.min.name, Cond.static Lib.Math.min.name, Cond.initialized "java/lang/Math", Cond.code Lib.Math.min.name Lib.Math.min.code 2 (some .int), Cond.fieldLink RX3 160 "NameRolls" "states" "I", Cond.fieldLink RX3 23 "NameRolls" "text" "LNameRolls$Text;", Cond.fieldLink RX3 163 "NameRolls$Text" "length" "I", Cond.methodLink RX3 139 yX1_namesBelow, Cond.instanceMethod yX1_namesBelow, Cond.selects RX1 yX1_namesBelow yX1_namesBelow, Cond.code yX1_namesBelow cX1_namesBelow 4 (some .int), Cond.fieldLink RX1 9 "NameRolls$Roll" "names" "[I", Cond.methodLink RX3 142 yX1_usersOfAll, Cond.instanceMethod yX1_usersOfAll, Cond.selects RX1 yX1_usersOfAll yX1_usersOfAll, Cond.code yX1_usersOfAll cX1_usersOfAll 3 (some .int), Cond.fieldLink RX1 15 "NameRolls$Roll" "users" "[I", Cond.methodLink RX3 146 yX1_top, Cond.instanceMethod yX1_top, Cond.selects RX1 yX1_top yX1_top, Cond.code yX1_top cX1_top 2 (some .int)]
def wsL_numbersFit_r4 : List Cond := [Cond.methodLink RL 39 yX3_find, Cond.instanceMethod yX3_find, Cond.selects RX3 yX3_find yX3_find, Cond.code yX3_find cX3_find 3 (some .int), Cond.methodLink RX3 34 yX3_isName, Cond.static yX3_isName, Cond.code yX3_isName cX3_isName 3 (some .boolean), Cond.constant RX3 193 (387420488), Cond.methodLink RX3 111 yX1_numberWith, Cond.instanceMethod yX1_numberWith, Cond.selects RX1 yX1_numberWith yX1_numberWith, Cond.code yX1_numberWith cX1_numberWith 3 (some .int), Cond.methodLink RL 42 yX3_why, Cond.instanceMethod yX3_why, Cond.selects RX3 yX3_why yX3_why, Cond.code yX3_why cX3_why 3 (some .int), Cond.methodLink RX3 53 yX1_standing, Cond.instanceMethod yX1_standing, Cond.selects RX1 yX1_standing yX1_standing, Cond.code yX1_standing cX1_standing 8 (some .int), Cond.fieldLink RX1 36 "NameRolls$Roll" "numbersBehind" "[I", Cond.fieldLink RX1 33 "NameRolls$Roll" "yearsThen" "[I", Cond.fieldLink RX1 39 "NameRolls$Roll" "yearsBehind" "[I", Cond.methodLink RL 45 yX3_follow]
def wsL_numbersFit_r5 : List Cond := [Cond.instanceMethod yX3_follow, Cond.selects RX3 yX3_follow yX3_follow, Cond.code yX3_follow cX3_follow 3 (some .int), Cond.constant RX3 56 (-1000005), Cond.methodLink RL 48 yX3_nameOf, Cond.instanceMethod yX3_nameOf, Cond.selects RX3 yX3_nameOf yX3_nameOf, Cond.code yX3_nameOf cX3_nameOf 3 (some .int), Cond.methodLink RL 51 yX3_beginning, Cond.instanceMethod yX3_beginning, Cond.selects RX3 yX3_beginning yX3_beginning, Cond.code yX3_beginning cX3_beginning 4 (some .int), Cond.methodLink RX3 117 yX3_beginsWith, Cond.static yX3_beginsWith, Cond.code yX3_beginsWith cX3_beginsWith 4 (some .boolean), Cond.methodLink RL 54 yX3_wouldBe, Cond.instanceMethod yX3_wouldBe, Cond.selects RX3 yX3_wouldBe yX3_wouldBe, Cond.code yX3_wouldBe cX3_wouldBe 3 (some .int), Cond.methodLink RX3 114 yX1_placeOf, Cond.instanceMethod yX1_placeOf, Cond.selects RX1 yX1_placeOf yX1_placeOf, Cond.code yX1_placeOf cX1_placeOf 5 (some .int), Cond.methodLink RX1 97 yX1_isAhead]
def wsL_numbersFit_r6 : List Cond := [Cond.instanceMethod yX1_isAhead, Cond.selects RX1 yX1_isAhead yX1_isAhead, Cond.code yX1_isAhead cX1_isAhead 4 (some .boolean), Cond.static yX3_orderKey, Cond.code yX3_orderKey cX3_orderKey 3 (some .int), Cond.constant RX3 194 (14348907)]
def wsL_numbersFit : List Cond := .code yL_numbersFit cL_numbersFit 12 (some .boolean) :: ((wsL_numbersFit_r1 ++ (wsL_numbersFit_r2 ++ (wsL_numbersFit_r3 ++ (wsL_numbersFit_r4 ++ (wsL_numbersFit_r5 ++ wsL_numbersFit_r6))))) ++ wsX30 ++ wsX10 ++ wsX20)
def wsL_ordersFit_r1 : List Cond := [Cond.constant RL 37 (-1000004), Cond.methodLink RL 21 yX3_count, Cond.instanceMethod yX3_count, Cond.selects RX3 yX3_count yX3_count, Cond.initialized RX3, Cond.code yX3_count cX3_count 2 (some .int), Cond.fieldLink RX3 10 "NameRolls" "now" "LNameRolls$Roll;", Cond.fieldLink RX3 85 "NameRolls$Roll" "cells" "[I", Cond.fieldLink RX3 123 "NameRolls$Roll" "epoch" "I", Cond.fieldLink RX3 149 "NameRolls$Roll" "gained" "I", Cond.fieldLink RX3 152 "NameRolls$Roll" "lost" "I", Cond.methodLink RX3 155 Lib.Math.min.name, Cond.static Lib.Math.min.name, Cond.initialized "java/lang/Math", Cond.code Lib.Math.min.name Lib.Math.min.code 2 (some .int), Cond.fieldLink RX3 160 "NameRolls" "states" "I", Cond.fieldLink RX3 23 "NameRolls" "text" "LNameRolls$Text;", Cond.fieldLink RX3 163 "NameRolls$Text" "length" "I", Cond.constant RX3 38 (-1000001), Cond.methodLink RX3 139 yX1_namesBelow, Cond.instanceMethod yX1_namesBelow, Cond.selects RX1 yX1_namesBelow yX1_namesBelow, Cond.initialized RX1, Cond.code yX1_namesBelow cX1_namesBelow 4 (some .int)]
def wsL_ordersFit_r2 : List Cond := [Cond.fieldLink RX1 9 "NameRolls$Roll" "names" "[I", Cond.methodLink RX3 142 yX1_usersOfAll, Cond.instanceMethod yX1_usersOfAll, Cond.selects RX1 yX1_usersOfAll yX1_usersOfAll, Cond.code yX1_usersOfAll cX1_usersOfAll 3 (some .int), Cond.fieldLink RX1 15 "NameRolls$Roll" "users" "[I", Cond.methodLink RX3 105 yX1_cellsWith, Cond.instanceMethod yX1_cellsWith, Cond.selects RX1 yX1_cellsWith yX1_cellsWith, Cond.code yX1_cellsWith cX1_cellsWith 4 (some .int), Cond.fieldLink RX1 21 "NameRolls$Roll" "cells" "[I", Cond.methodLink RX3 146 yX1_top, Cond.instanceMethod yX1_top, Cond.selects RX1 yX1_top yX1_top, Cond.code yX1_top cX1_top 2 (some .int), Cond.methodLink RL 57 yX3_nameAt, Cond.instanceMethod yX3_nameAt, Cond.selects RX3 yX3_nameAt yX3_nameAt, Cond.code yX3_nameAt cX3_nameAt 4 (some .int), Cond.fieldLink RX3 70 "NameRolls$Roll" "names" "[I", Cond.constant RX3 91 (-1000004), Cond.methodLink RX3 92 yX3_isBelow, Cond.static yX3_isBelow, Cond.code yX3_isBelow cX3_isBelow 2 (some .boolean)]
def wsL_ordersFit_r3 : List Cond := [Cond.methodLink RX3 114 yX1_placeOf, Cond.instanceMethod yX1_placeOf, Cond.selects RX1 yX1_placeOf yX1_placeOf, Cond.code yX1_placeOf cX1_placeOf 5 (some .int), Cond.methodLink RX1 97 yX1_isAhead, Cond.instanceMethod yX1_isAhead, Cond.selects RX1 yX1_isAhead yX1_isAhead, Cond.code yX1_isAhead cX1_isAhead 4 (some .boolean), Cond.static yX3_orderKey, Cond.code yX3_orderKey cX3_orderKey 3 (some .int), Cond.constant RX3 194 (14348907), Cond.methodLink RL 39 yX3_find, Cond.instanceMethod yX3_find, Cond.selects RX3 yX3_find yX3_find, Cond.code yX3_find cX3_find 3 (some .int), Cond.methodLink RX3 34 yX3_isName, Cond.static yX3_isName, Cond.code yX3_isName cX3_isName 3 (some .boolean), Cond.constant RX3 193 (387420488), Cond.methodLink RX3 111 yX1_numberWith, Cond.instanceMethod yX1_numberWith, Cond.selects RX1 yX1_numberWith yX1_numberWith, Cond.code yX1_numberWith cX1_numberWith 3 (some .int), Cond.methodLink RL 54 yX3_wouldBe]
def wsL_ordersFit_r4 : List Cond := [Cond.instanceMethod yX3_wouldBe, Cond.selects RX3 yX3_wouldBe yX3_wouldBe, Cond.code yX3_wouldBe cX3_wouldBe 3 (some .int), Cond.methodLink RL 27 yX3_numberOf, Cond.instanceMethod yX3_numberOf, Cond.selects RX3 yX3_numberOf yX3_numberOf, Cond.code yX3_numberOf cX3_numberOf 4 (some .int), Cond.fieldLink RX3 102 "NameRolls$Roll" "users" "[I", Cond.fieldLink RX3 108 "NameRolls$Roll" "years" "[I", Cond.methodLink RX3 50 yX1_tagOf, Cond.instanceMethod yX1_tagOf, Cond.selects RX1 yX1_tagOf yX1_tagOf, Cond.code yX1_tagOf cX1_tagOf 2 (some .int), Cond.fieldLink RX1 60 "NameRolls$Roll" "epoch" "I", Cond.fieldLink RX1 18 "NameRolls$Roll" "years" "[I", Cond.constant RX1 78 (-1000004), Cond.methodLink RX1 74 yX1_tagIn, Cond.static yX1_tagIn, Cond.code yX1_tagIn cX1_tagIn 3 (some .int), Cond.constant RX1 79 (1000000), Cond.methodLink RL 60 yL_padded, Cond.static yL_padded, Cond.initialized RL, Cond.code yL_padded cL_padded 2 (some .int)]
def wsL_ordersFit_r5 : List Cond := [Cond.constant RL 36 (14348907), Cond.methodLink RL 63 yX3_behind, Cond.instanceMethod yX3_behind, Cond.selects RX3 yX3_behind yX3_behind, Cond.code yX3_behind cX3_behind 7 (some .int), Cond.methodLink RX3 120 yX3_orderKey]
def wsL_ordersFit : List Cond := .code yL_ordersFit cL_ordersFit 10 (some .boolean) :: ((wsL_ordersFit_r1 ++ (wsL_ordersFit_r2 ++ (wsL_ordersFit_r3 ++ (wsL_ordersFit_r4 ++ wsL_ordersFit_r5)))) ++ wsX30 ++ wsX10 ++ wsX20)
def wsL_tagsFit_r1 : List Cond := [Cond.constant RL 38 (1000000), Cond.constant RL 16 (-1000005), Cond.methodLink RL 42 yX3_why, Cond.instanceMethod yX3_why, Cond.selects RX3 yX3_why yX3_why, Cond.initialized RX3, Cond.code yX3_why cX3_why 3 (some .int), Cond.fieldLink RX3 10 "NameRolls" "now" "LNameRolls$Roll;", Cond.methodLink RX3 53 yX1_standing, Cond.instanceMethod yX1_standing, Cond.selects RX1 yX1_standing yX1_standing, Cond.initialized RX1, Cond.code yX1_standing cX1_standing 8 (some .int), Cond.constant RX1 79 (1000000), Cond.fieldLink RX1 60 "NameRolls$Roll" "epoch" "I", Cond.fieldLink RX1 36 "NameRolls$Roll" "numbersBehind" "[I", Cond.fieldLink RX1 33 "NameRolls$Roll" "yearsThen" "[I", Cond.fieldLink RX1 39 "NameRolls$Roll" "yearsBehind" "[I", Cond.fieldLink RX1 9 "NameRolls$Roll" "names" "[I", Cond.fieldLink RX1 18 "NameRolls$Roll" "years" "[I", Cond.static yX3_isBelow, Cond.code yX3_isBelow cX3_isBelow 2 (some .boolean), Cond.methodLink RL 45 yX3_follow, Cond.instanceMethod yX3_follow]
def wsL_tagsFit_r2 : List Cond := [Cond.selects RX3 yX3_follow yX3_follow, Cond.code yX3_follow cX3_follow 3 (some .int), Cond.constant RX3 56 (-1000005), Cond.methodLink RX3 50 yX1_tagOf, Cond.instanceMethod yX1_tagOf, Cond.selects RX1 yX1_tagOf yX1_tagOf, Cond.code yX1_tagOf cX1_tagOf 2 (some .int), Cond.constant RX1 78 (-1000004), Cond.methodLink RX1 74 yX1_tagIn, Cond.static yX1_tagIn, Cond.code yX1_tagIn cX1_tagIn 3 (some .int), Cond.methodLink RL 21 yX3_count, Cond.instanceMethod yX3_count, Cond.selects RX3 yX3_count yX3_count, Cond.code yX3_count cX3_count 2 (some .int), Cond.fieldLink RX3 85 "NameRolls$Roll" "cells" "[I", Cond.fieldLink RX3 123 "NameRolls$Roll" "epoch" "I", Cond.fieldLink RX3 149 "NameRolls$Roll" "gained" "I", Cond.fieldLink RX3 152 "NameRolls$Roll" "lost" "I", Cond.methodLink RX3 155 Lib.Math.min.name, Cond.static Lib.Math.min.name, Cond.initialized "java/lang/Math", Cond.code Lib.Math.min.name Lib.Math.min.code 2 (some .int), Cond.fieldLink RX3 160 "NameRolls" "states" "I"]
def wsL_tagsFit_r3 : List Cond := [Cond.fieldLink RX3 23 "NameRolls" "text" "LNameRolls$Text;", Cond.fieldLink RX3 163 "NameRolls$Text" "length" "I", Cond.constant RX3 38 (-1000001), Cond.methodLink RX3 139 yX1_namesBelow, Cond.instanceMethod yX1_namesBelow, Cond.selects RX1 yX1_namesBelow yX1_namesBelow, Cond.code yX1_namesBelow cX1_namesBelow 4 (some .int), Cond.methodLink RX3 142 yX1_usersOfAll, Cond.instanceMethod yX1_usersOfAll, Cond.selects RX1 yX1_usersOfAll yX1_usersOfAll, Cond.code yX1_usersOfAll cX1_usersOfAll 3 (some .int), Cond.fieldLink RX1 15 "NameRolls$Roll" "users" "[I", Cond.methodLink RX3 105 yX1_cellsWith, Cond.instanceMethod yX1_cellsWith, Cond.selects RX1 yX1_cellsWith yX1_cellsWith, Cond.code yX1_cellsWith cX1_cellsWith 4 (some .int), Cond.fieldLink RX1 21 "NameRolls$Roll" "cells" "[I", Cond.methodLink RX3 146 yX1_top, Cond.instanceMethod yX1_top, Cond.selects RX1 yX1_top yX1_top, Cond.code yX1_top cX1_top 2 (some .int), Cond.methodLink RL 48 yX3_nameOf, Cond.instanceMethod yX3_nameOf, Cond.selects RX3 yX3_nameOf yX3_nameOf]
def wsL_tagsFit_r4 : List Cond := [Cond.code yX3_nameOf cX3_nameOf 3 (some .int), Cond.fieldLink RX3 70 "NameRolls$Roll" "names" "[I"]
def wsL_tagsFit : List Cond := .code yL_tagsFit cL_tagsFit 6 (some .boolean) :: ((wsL_tagsFit_r1 ++ (wsL_tagsFit_r2 ++ (wsL_tagsFit_r3 ++ wsL_tagsFit_r4))) ++ wsX30 ++ wsX10 ++ wsX20)
def wsL_fits_r1 : List Cond := [Cond.constant RL 38 (1000000), Cond.constant RL 37 (-1000004), Cond.constant RL 15 (-1000001), Cond.methodLink RL 66 yL_trace, Cond.static yL_trace, Cond.initialized RL, Cond.code yL_trace cL_trace 5 (some .long), Cond.constantLong RL 17 (3), Cond.constantLong RL 19 (31), Cond.methodLink RL 21 yX3_count, Cond.instanceMethod yX3_count, Cond.selects RX3 yX3_count yX3_count, Cond.initialized RX3, Cond.code yX3_count cX3_count 2 (some .int), Cond.fieldLink RX3 10 "NameRolls" "now" "LNameRolls$Roll;", Cond.fieldLink RX3 85 "NameRolls$Roll" "cells" "[I", Cond.fieldLink RX3 123 "NameRolls$Roll" "epoch" "I", Cond.fieldLink RX3 149 "NameRolls$Roll" "gained" "I", Cond.fieldLink RX3 152 "NameRolls$Roll" "lost" "I", Cond.methodLink RX3 155 Lib.Math.min.name, Cond.static Lib.Math.min.name, Cond.initialized "java/lang/Math", Cond.code Lib.Math.min.name Lib.Math.min.code 2 (some .int), Cond.fieldLink RX3 160 "NameRolls" "states" "I"]
def wsL_fits_r2 : List Cond := [Cond.fieldLink RX3 23 "NameRolls" "text" "LNameRolls$Text;", Cond.fieldLink RX3 163 "NameRolls$Text" "length" "I", Cond.constant RX3 38 (-1000001), Cond.methodLink RX3 139 yX1_namesBelow, Cond.instanceMethod yX1_namesBelow, Cond.selects RX1 yX1_namesBelow yX1_namesBelow, Cond.initialized RX1, Cond.code yX1_namesBelow cX1_namesBelow 4 (some .int), Cond.fieldLink RX1 9 "NameRolls$Roll" "names" "[I", Cond.methodLink RX3 142 yX1_usersOfAll, Cond.instanceMethod yX1_usersOfAll, Cond.selects RX1 yX1_usersOfAll yX1_usersOfAll, Cond.code yX1_usersOfAll cX1_usersOfAll 3 (some .int), Cond.fieldLink RX1 15 "NameRolls$Roll" "users" "[I", Cond.methodLink RX3 105 yX1_cellsWith, Cond.instanceMethod yX1_cellsWith, Cond.selects RX1 yX1_cellsWith yX1_cellsWith, Cond.code yX1_cellsWith cX1_cellsWith 4 (some .int), Cond.fieldLink RX1 21 "NameRolls$Roll" "cells" "[I", Cond.methodLink RX3 146 yX1_top, Cond.instanceMethod yX1_top, Cond.selects RX1 yX1_top yX1_top, Cond.code yX1_top cX1_top 2 (some .int), Cond.methodLink RL 27 yX3_numberOf]
def wsL_fits_r3 : List Cond := [Cond.instanceMethod yX3_numberOf, Cond.selects RX3 yX3_numberOf yX3_numberOf, Cond.code yX3_numberOf cX3_numberOf 4 (some .int), Cond.fieldLink RX3 70 "NameRolls$Roll" "names" "[I", Cond.constant RX3 91 (-1000004), Cond.fieldLink RX3 102 "NameRolls$Roll" "users" "[I", Cond.fieldLink RX3 108 "NameRolls$Roll" "years" "[I", Cond.methodLink RX3 92 yX3_isBelow, Cond.static yX3_isBelow, Cond.code yX3_isBelow cX3_isBelow 2 (some .boolean), Cond.methodLink RX3 50 yX1_tagOf, Cond.instanceMethod yX1_tagOf, Cond.selects RX1 yX1_tagOf yX1_tagOf, Cond.code yX1_tagOf cX1_tagOf 2 (some .int), Cond.fieldLink RX1 60 "NameRolls$Roll" "epoch" "I", Cond.fieldLink RX1 18 "NameRolls$Roll" "years" "[I", Cond.constant RX1 78 (-1000004), Cond.methodLink RX1 74 yX1_tagIn, Cond.static yX1_tagIn, Cond.code yX1_tagIn cX1_tagIn 3 (some .int), Cond.constant RX1 79 (1000000), Cond.methodLink RL 30 yX3_cellOf, Cond.instanceMethod yX3_cellOf, Cond.selects RX3 yX3_cellOf yX3_cellOf]
def wsL_fits_r4 : List Cond := [Cond.code yX3_cellOf cX3_cellOf 4 (some .int), Cond.methodLink RX3 74 yX3_isCell, Cond.static yX3_isCell, Cond.code yX3_isCell cX3_isCell 2 (some .boolean), Cond.methodLink RX3 78 yX3_cellIndex, Cond.static yX3_cellIndex, Cond.code yX3_cellIndex cX3_cellIndex 2 (some .int), Cond.methodLink RL 33 yX3_compaction, Cond.instanceMethod yX3_compaction, Cond.selects RX3 yX3_compaction yX3_compaction, Cond.code yX3_compaction cX3_compaction 4 (some .int), Cond.fieldLink RX3 127 "NameRolls$Roll" "rules" "[I", Cond.fieldLink RX3 130 "NameRolls$Roll" "namesThen" "[I", Cond.fieldLink RX3 133 "NameRolls$Roll" "movedThen" "[I", Cond.methodLink RX3 136 yX1_stillStanding, Cond.instanceMethod yX1_stillStanding, Cond.selects RX1 yX1_stillStanding yX1_stillStanding, Cond.code yX1_stillStanding cX1_stillStanding 6 (some .int), Cond.fieldLink RX1 36 "NameRolls$Roll" "numbersBehind" "[I", Cond.fieldLink RX1 33 "NameRolls$Roll" "yearsThen" "[I", Cond.methodLink RX1 118 yX1_standing, Cond.instanceMethod yX1_standing, Cond.selects RX1 yX1_standing yX1_standing, Cond.code yX1_standing cX1_standing 8 (some .int)]
def wsL_fits_r5 : List Cond := [Cond.fieldLink RX1 39 "NameRolls$Roll" "yearsBehind" "[I", Cond.methodLink RL 70 yL_near, Cond.static yL_near, Cond.code yL_near cL_near 3 (some .int), Cond.methodLink RL 9 yL_low, Cond.static yL_low, Cond.code yL_low cL_low 2 (some .int), Cond.constant RL 8 (2147483647), Cond.methodLink RL 73 yL_numbersFit, Cond.static yL_numbersFit, Cond.code yL_numbersFit cL_numbersFit 12 (some .boolean), Cond.methodLink RL 39 yX3_find, Cond.instanceMethod yX3_find, Cond.selects RX3 yX3_find yX3_find, Cond.code yX3_find cX3_find 3 (some .int), Cond.methodLink RX3 34 yX3_isName, Cond.static yX3_isName, Cond.code yX3_isName cX3_isName 3 (some .boolean), Cond.constant RX3 193 (387420488), Cond.methodLink RX3 111 yX1_numberWith, Cond.instanceMethod yX1_numberWith, Cond.selects RX1 yX1_numberWith yX1_numberWith, Cond.code yX1_numberWith cX1_numberWith 3 (some .int), Cond.methodLink RL 42 yX3_why]
def wsL_fits_r6 : List Cond := [Cond.instanceMethod yX3_why, Cond.selects RX3 yX3_why yX3_why, Cond.code yX3_why cX3_why 3 (some .int), Cond.methodLink RX3 53 yX1_standing, Cond.methodLink RL 45 yX3_follow, Cond.instanceMethod yX3_follow, Cond.selects RX3 yX3_follow yX3_follow, Cond.code yX3_follow cX3_follow 3 (some .int), Cond.constant RX3 56 (-1000005), Cond.methodLink RL 48 yX3_nameOf, Cond.instanceMethod yX3_nameOf, Cond.selects RX3 yX3_nameOf yX3_nameOf, Cond.code yX3_nameOf cX3_nameOf 3 (some .int), Cond.methodLink RL 51 yX3_beginning, Cond.instanceMethod yX3_beginning, Cond.selects RX3 yX3_beginning yX3_beginning, Cond.code yX3_beginning cX3_beginning 4 (some .int), Cond.methodLink RX3 117 yX3_beginsWith, Cond.static yX3_beginsWith, Cond.code yX3_beginsWith cX3_beginsWith 4 (some .boolean), Cond.methodLink RL 54 yX3_wouldBe, Cond.instanceMethod yX3_wouldBe, Cond.selects RX3 yX3_wouldBe yX3_wouldBe, Cond.code yX3_wouldBe cX3_wouldBe 3 (some .int)]
def wsL_fits_r7 : List Cond := [Cond.methodLink RX3 114 yX1_placeOf, Cond.instanceMethod yX1_placeOf, Cond.selects RX1 yX1_placeOf yX1_placeOf, Cond.code yX1_placeOf cX1_placeOf 5 (some .int), Cond.methodLink RX1 97 yX1_isAhead, Cond.instanceMethod yX1_isAhead, Cond.selects RX1 yX1_isAhead yX1_isAhead, Cond.code yX1_isAhead cX1_isAhead 4 (some .boolean), Cond.static yX3_orderKey, Cond.code yX3_orderKey cX3_orderKey 3 (some .int), Cond.constant RX3 194 (14348907), Cond.methodLink RL 77 yL_ordersFit, Cond.static yL_ordersFit, Cond.code yL_ordersFit cL_ordersFit 10 (some .boolean), Cond.methodLink RL 57 yX3_nameAt, Cond.instanceMethod yX3_nameAt, Cond.selects RX3 yX3_nameAt yX3_nameAt, Cond.code yX3_nameAt cX3_nameAt 4 (some .int), Cond.methodLink RL 60 yL_padded, Cond.static yL_padded, Cond.code yL_padded cL_padded 2 (some .int), Cond.constant RL 36 (14348907), Cond.methodLink RL 63 yX3_behind, Cond.instanceMethod yX3_behind]
def wsL_fits_r8 : List Cond := [Cond.selects RX3 yX3_behind yX3_behind, Cond.code yX3_behind cX3_behind 7 (some .int), Cond.methodLink RX3 120 yX3_orderKey, Cond.methodLink RL 80 yL_tagsFit, Cond.static yL_tagsFit, Cond.code yL_tagsFit cL_tagsFit 6 (some .boolean), Cond.constant RL 16 (-1000005)]
def wsL_fits : List Cond := .code yL_fits cL_fits 9 (some .boolean) :: ((wsL_fits_r1 ++ (wsL_fits_r2 ++ (wsL_fits_r3 ++ (wsL_fits_r4 ++ (wsL_fits_r5 ++ (wsL_fits_r6 ++ (wsL_fits_r7 ++ wsL_fits_r8))))))) ++ wsX30 ++ wsX10 ++ wsX20)
def wsL_name : List Cond := .code yL_name cL_name 3 (some .int) :: ([.methodLink RL 9 yL_low, .static yL_low, .initialized RL, .code yL_low cL_low 2 (some .int), .constant RL 8 (2147483647)])
def wsL_above : List Cond := .code yL_above cL_above 1 (some .int) :: ([])
def wsL_tag_r1 : List Cond := [Cond.constant RL 38 (1000000), Cond.methodLink RL 9 yL_low, Cond.static yL_low, Cond.initialized RL, Cond.code yL_low cL_low 2 (some .int), Cond.constant RL 8 (2147483647), Cond.methodLink RL 21 yX3_count, Cond.instanceMethod yX3_count, Cond.selects RX3 yX3_count yX3_count, Cond.initialized RX3, Cond.code yX3_count cX3_count 2 (some .int), Cond.fieldLink RX3 10 "NameRolls" "now" "LNameRolls$Roll;", Cond.fieldLink RX3 85 "NameRolls$Roll" "cells" "[I", Cond.fieldLink RX3 123 "NameRolls$Roll" "epoch" "I", Cond.fieldLink RX3 149 "NameRolls$Roll" "gained" "I", Cond.fieldLink RX3 152 "NameRolls$Roll" "lost" "I", Cond.methodLink RX3 155 Lib.Math.min.name, Cond.static Lib.Math.min.name, Cond.initialized "java/lang/Math", Cond.code Lib.Math.min.name Lib.Math.min.code 2 (some .int), Cond.fieldLink RX3 160 "NameRolls" "states" "I", Cond.fieldLink RX3 23 "NameRolls" "text" "LNameRolls$Text;", Cond.fieldLink RX3 163 "NameRolls$Text" "length" "I", Cond.constant RX3 38 (-1000001)]
def wsL_tag_r2 : List Cond := [Cond.methodLink RX3 139 yX1_namesBelow, Cond.instanceMethod yX1_namesBelow, Cond.selects RX1 yX1_namesBelow yX1_namesBelow, Cond.initialized RX1, Cond.code yX1_namesBelow cX1_namesBelow 4 (some .int), Cond.fieldLink RX1 9 "NameRolls$Roll" "names" "[I", Cond.methodLink RX3 142 yX1_usersOfAll, Cond.instanceMethod yX1_usersOfAll, Cond.selects RX1 yX1_usersOfAll yX1_usersOfAll, Cond.code yX1_usersOfAll cX1_usersOfAll 3 (some .int), Cond.fieldLink RX1 15 "NameRolls$Roll" "users" "[I", Cond.methodLink RX3 105 yX1_cellsWith, Cond.instanceMethod yX1_cellsWith, Cond.selects RX1 yX1_cellsWith yX1_cellsWith, Cond.code yX1_cellsWith cX1_cellsWith 4 (some .int), Cond.fieldLink RX1 21 "NameRolls$Roll" "cells" "[I", Cond.methodLink RX3 146 yX1_top, Cond.instanceMethod yX1_top, Cond.selects RX1 yX1_top yX1_top, Cond.code yX1_top cX1_top 2 (some .int), Cond.methodLink RL 84 yL_above, Cond.static yL_above, Cond.code yL_above cL_above 1 (some .int), Cond.methodLink RL 27 yX3_numberOf]
def wsL_tag_r3 : List Cond := [Cond.instanceMethod yX3_numberOf, Cond.selects RX3 yX3_numberOf yX3_numberOf, Cond.code yX3_numberOf cX3_numberOf 4 (some .int), Cond.fieldLink RX3 70 "NameRolls$Roll" "names" "[I", Cond.constant RX3 91 (-1000004), Cond.fieldLink RX3 102 "NameRolls$Roll" "users" "[I", Cond.fieldLink RX3 108 "NameRolls$Roll" "years" "[I", Cond.methodLink RX3 92 yX3_isBelow, Cond.static yX3_isBelow, Cond.code yX3_isBelow cX3_isBelow 2 (some .boolean), Cond.methodLink RX3 50 yX1_tagOf, Cond.instanceMethod yX1_tagOf, Cond.selects RX1 yX1_tagOf yX1_tagOf, Cond.code yX1_tagOf cX1_tagOf 2 (some .int), Cond.fieldLink RX1 60 "NameRolls$Roll" "epoch" "I", Cond.fieldLink RX1 18 "NameRolls$Roll" "years" "[I", Cond.constant RX1 78 (-1000004), Cond.methodLink RX1 74 yX1_tagIn, Cond.static yX1_tagIn, Cond.code yX1_tagIn cX1_tagIn 3 (some .int), Cond.constant RX1 79 (1000000)]
def wsL_tag : List Cond := .code yL_tag cL_tag 3 (some .int) :: ((wsL_tag_r1 ++ (wsL_tag_r2 ++ wsL_tag_r3)) ++ wsX30 ++ wsX10 ++ wsX20)
def wsL_plays_r1 : List Cond := [Cond.constant RL 91 (1103515245), Cond.constant RL 37 (-1000004), Cond.constant RL 101 (-1000002), Cond.constant RL 102 (1073741824), Cond.methodLink RL 87 yX3_clearText, Cond.instanceMethod yX3_clearText, Cond.selects RX3 yX3_clearText yX3_clearText, Cond.initialized RX3, Cond.code yX3_clearText cX3_clearText 2 (some .int), Cond.fieldLink RX3 23 "NameRolls" "text" "LNameRolls$Text;", Cond.fieldLink RX3 163 "NameRolls$Text" "length" "I", Cond.methodLink RL 9 yL_low, Cond.static yL_low, Cond.initialized RL, Cond.code yL_low cL_low 2 (some .int), Cond.constant RL 8 (2147483647), Cond.methodLink RL 92 yX3_type, Cond.instanceMethod yX3_type, Cond.selects RX3 yX3_type yX3_type, Cond.code yX3_type cX3_type 2 (some .int), Cond.constant RX3 38 (-1000001), Cond.constant RX3 42 (-1000003), Cond.methodLink RX3 170 yX2_append, Cond.instanceMethod yX2_append]
def wsL_plays_r2 : List Cond := [Cond.selects RX2 yX2_append yX2_append, Cond.initialized RX2, Cond.code yX2_append cX2_append 2 (some .int), Cond.fieldLink RX2 15 "NameRolls$Text" "length" "I", Cond.fieldLink RX2 9 "NameRolls$Text" "signs" "[C", Cond.static yX3_isBelow, Cond.code yX3_isBelow cX3_isBelow 2 (some .boolean), Cond.methodLink RL 95 yX3_fault, Cond.instanceMethod yX3_fault, Cond.selects RX3 yX3_fault yX3_fault, Cond.code yX3_fault cX3_fault 2 (some .int), Cond.fieldLink RX3 30 "NameRolls" "player" "LNameRolls$Player;", Cond.fieldLink RX3 10 "NameRolls" "now" "LNameRolls$Roll;", Cond.fieldLink RX3 178 "NameRolls$Player" "reason" "I", Cond.constant RX3 91 (-1000004), Cond.fieldLink RX3 181 "NameRolls$Player" "start" "I", Cond.fieldLink RX3 184 "NameRolls$Player" "cause" "I", Cond.methodLink RX3 92 yX3_isBelow, Cond.methodLink RX3 174 yX0_tryOn, Cond.instanceMethod yX0_tryOn, Cond.selects RX0 yX0_tryOn yX0_tryOn, Cond.initialized RX0, Cond.code yX0_tryOn cX0_tryOn 4 none, Cond.fieldLink RX0 12 "NameRolls$Player" "trial" "LNameRolls$Roll;"]
def wsL_plays_r3 : List Cond := [Cond.fieldLink RX0 22 "NameRolls$Player" "orders" "I", Cond.fieldLink RX0 26 "NameRolls$Player" "reason" "I", Cond.fieldLink RX0 29 "NameRolls$Player" "at" "I", Cond.fieldLink RX0 32 "NameRolls$Text" "length" "I", Cond.fieldLink RX0 37 "NameRolls$Player" "start" "I", Cond.methodLink RX0 18 yX1_copyFrom, Cond.instanceMethod yX1_copyFrom, Cond.selects RX1 yX1_copyFrom yX1_copyFrom, Cond.initialized RX1, Cond.code yX1_copyFrom cX1_copyFrom 2 none, Cond.fieldLink RX1 9 "NameRolls$Roll" "names" "[I", Cond.methodLink RX1 54 arraycopyName, Cond.native arraycopyName, Cond.static arraycopyName, Cond.initialized "java/lang/System", Cond.fieldLink RX1 15 "NameRolls$Roll" "users" "[I", Cond.fieldLink RX1 18 "NameRolls$Roll" "years" "[I", Cond.fieldLink RX1 21 "NameRolls$Roll" "cells" "[I", Cond.fieldLink RX1 60 "NameRolls$Roll" "epoch" "I", Cond.fieldLink RX1 64 "NameRolls$Roll" "gained" "I", Cond.fieldLink RX1 67 "NameRolls$Roll" "lost" "I", Cond.fieldLink RX1 24 "NameRolls$Roll" "rules" "[I", Cond.fieldLink RX1 27 "NameRolls$Roll" "namesThen" "[I", Cond.fieldLink RX1 30 "NameRolls$Roll" "movedThen" "[I"]
def wsL_plays_r4 : List Cond := [Cond.fieldLink RX1 33 "NameRolls$Roll" "yearsThen" "[I", Cond.fieldLink RX1 36 "NameRolls$Roll" "numbersBehind" "[I", Cond.fieldLink RX1 39 "NameRolls$Roll" "yearsBehind" "[I", Cond.methodLink RX0 40 yX0_readOrder, Cond.instanceMethod yX0_readOrder, Cond.selects RX0 yX0_readOrder yX0_readOrder, Cond.code yX0_readOrder cX0_readOrder 2 none, Cond.fieldLink RX0 54 "NameRolls$Player" "kind" "C", Cond.fieldLink RX0 58 "NameRolls$Player" "table" "I", Cond.fieldLink RX0 61 "NameRolls$Player" "cell" "I", Cond.fieldLink RX0 64 "NameRolls$Player" "rule" "I", Cond.fieldLink RX0 67 "NameRolls$Player" "letters" "I", Cond.fieldLink RX0 70 "NameRolls$Player" "name" "I", Cond.methodLink RX0 50 yX2_signAt, Cond.instanceMethod yX2_signAt, Cond.selects RX2 yX2_signAt yX2_signAt, Cond.code yX2_signAt cX2_signAt 2 (some .char), Cond.methodLink RX0 73 yX0_readLetters, Cond.instanceMethod yX0_readLetters, Cond.selects RX0 yX0_readLetters yX0_readLetters, Cond.code yX0_readLetters cX0_readLetters 4 none, Cond.methodLink RX0 84 yX0_fail, Cond.instanceMethod yX0_fail, Cond.selects RX0 yX0_fail yX0_fail]
def wsL_plays_r5 : List Cond := [Cond.code yX0_fail cX0_fail 3 none, Cond.fieldLink RX0 125 "NameRolls$Player" "cause" "I", Cond.methodLink RX0 76 yX0_readDigit, Cond.instanceMethod yX0_readDigit, Cond.selects RX0 yX0_readDigit yX0_readDigit, Cond.code yX0_readDigit cX0_readDigit 3 (some .int), Cond.methodLink RX0 80 yX0_readSign, Cond.instanceMethod yX0_readSign, Cond.selects RX0 yX0_readSign yX0_readSign, Cond.code yX0_readSign cX0_readSign 3 none, Cond.methodLink RX0 44 yX0_checkRanges, Cond.instanceMethod yX0_checkRanges, Cond.selects RX0 yX0_checkRanges yX0_checkRanges, Cond.code yX0_checkRanges cX0_checkRanges 1 none, Cond.methodLink RX0 47 yX0_carryOut, Cond.instanceMethod yX0_carryOut, Cond.selects RX0 yX0_carryOut yX0_carryOut, Cond.code yX0_carryOut cX0_carryOut 2 none, Cond.methodLink RX0 88 yX1_numberWith, Cond.instanceMethod yX1_numberWith, Cond.selects RX1 yX1_numberWith yX1_numberWith, Cond.code yX1_numberWith cX1_numberWith 3 (some .int), Cond.methodLink RX0 92 yX0_canCarryOut, Cond.instanceMethod yX0_canCarryOut]
def wsL_plays_r6 : List Cond := [Cond.selects RX0 yX0_canCarryOut yX0_canCarryOut, Cond.code yX0_canCarryOut cX0_canCarryOut 2 (some .boolean), Cond.methodLink RX0 112 yX1_hasRoomFor, Cond.instanceMethod yX1_hasRoomFor, Cond.selects RX1 yX1_hasRoomFor yX1_hasRoomFor, Cond.code yX1_hasRoomFor cX1_hasRoomFor 3 (some .boolean), Cond.methodLink RX1 80 yX1_numberWith, Cond.methodLink RX1 84 yX1_hasRoomForUser, Cond.instanceMethod yX1_hasRoomForUser, Cond.selects RX1 yX1_hasRoomForUser yX1_hasRoomForUser, Cond.code yX1_hasRoomForUser cX1_hasRoomForUser 2 (some .boolean), Cond.methodLink RX0 115 yX1_hasFreeUser, Cond.instanceMethod yX1_hasFreeUser, Cond.selects RX1 yX1_hasFreeUser yX1_hasFreeUser, Cond.code yX1_hasFreeUser cX1_hasFreeUser 2 (some .boolean), Cond.methodLink RX1 91 yX1_cellsWith, Cond.instanceMethod yX1_cellsWith, Cond.selects RX1 yX1_cellsWith yX1_cellsWith, Cond.code yX1_cellsWith cX1_cellsWith 4 (some .int), Cond.methodLink RX0 118 yX1_hasRoomForUser, Cond.methodLink RX0 121 yX1_hasNextEpoch, Cond.instanceMethod yX1_hasNextEpoch, Cond.selects RX1 yX1_hasNextEpoch yX1_hasNextEpoch, Cond.code yX1_hasNextEpoch cX1_hasNextEpoch 1 (some .boolean)]
def wsL_plays_r7 : List Cond := [Cond.methodLink RX0 96 yX1_enter, Cond.instanceMethod yX1_enter, Cond.selects RX1 yX1_enter yX1_enter, Cond.code yX1_enter cX1_enter 3 (some .int), Cond.methodLink RX1 88 yX1_addUser, Cond.instanceMethod yX1_addUser, Cond.selects RX1 yX1_addUser yX1_addUser, Cond.code yX1_addUser cX1_addUser 2 (some .int), Cond.methodLink RX0 99 yX1_giveBack, Cond.instanceMethod yX1_giveBack, Cond.selects RX1 yX1_giveBack yX1_giveBack, Cond.code yX1_giveBack cX1_giveBack 2 (some .int), Cond.static yX3_cellIndex, Cond.code yX3_cellIndex cX3_cellIndex 2 (some .int), Cond.methodLink RX0 106 yX1_fillCell, Cond.instanceMethod yX1_fillCell, Cond.selects RX1 yX1_fillCell yX1_fillCell, Cond.code yX1_fillCell cX1_fillCell 3 (some .int), Cond.methodLink RX1 94 yX1_giveBack, Cond.methodLink RX0 109 yX1_giveAnew, Cond.instanceMethod yX1_giveAnew, Cond.selects RX1 yX1_giveAnew yX1_giveAnew, Cond.code yX1_giveAnew cX1_giveAnew 7 (some .int), Cond.methodLink RX1 104 yX1_placeOf]
def wsL_plays_r8 : List Cond := [Cond.instanceMethod yX1_placeOf, Cond.selects RX1 yX1_placeOf yX1_placeOf, Cond.code yX1_placeOf cX1_placeOf 5 (some .int), Cond.methodLink RX1 97 yX1_isAhead, Cond.instanceMethod yX1_isAhead, Cond.selects RX1 yX1_isAhead yX1_isAhead, Cond.code yX1_isAhead cX1_isAhead 4 (some .boolean), Cond.static yX3_orderKey, Cond.code yX3_orderKey cX3_orderKey 3 (some .int), Cond.constant RX3 194 (14348907), Cond.methodLink RX1 108 yX1_namesBelow, Cond.instanceMethod yX1_namesBelow, Cond.selects RX1 yX1_namesBelow yX1_namesBelow, Cond.code yX1_namesBelow cX1_namesBelow 4 (some .int), Cond.methodLink RX1 111 yX1_moveNames, Cond.instanceMethod yX1_moveNames, Cond.selects RX1 yX1_moveNames yX1_moveNames, Cond.code yX1_moveNames cX1_moveNames 4 none, Cond.fieldLink RX1 42 "NameRolls$Roll" "oldNames" "[I", Cond.fieldLink RX1 45 "NameRolls$Roll" "oldUsers" "[I", Cond.methodLink RX1 48 yJ7_fill_53178, Cond.static yJ7_fill_53178, Cond.initialized RJ7, Cond.code yJ7_fill_53178 cJ7_fill_53178 4 none]
def wsL_plays_r9 : List Cond := [Cond.methodLink RX1 115 yX1_moveCells, Cond.instanceMethod yX1_moveCells, Cond.selects RX1 yX1_moveCells yX1_moveCells, Cond.code yX1_moveCells cX1_moveCells 3 none, Cond.methodLink RL 98 yX3_play, Cond.instanceMethod yX3_play, Cond.selects RX3 yX3_play yX3_play, Cond.code yX3_play cX3_play 1 (some .int), Cond.constant RX3 66 (-1000002), Cond.fieldLink RX3 187 "NameRolls$Player" "trial" "LNameRolls$Roll;", Cond.fieldLink RX3 190 "NameRolls$Player" "orders" "I", Cond.methodLink RX3 43 yX3_recordState, Cond.instanceMethod yX3_recordState, Cond.selects RX3 yX3_recordState yX3_recordState, Cond.code yX3_recordState cX3_recordState 3 none, Cond.fieldLink RX3 160 "NameRolls" "states" "I", Cond.fieldLink RX3 16 "NameRolls" "past" "[LNameRolls$Roll;", Cond.methodLink RX3 166 yX1_copyFrom, Cond.methodLink RL 21 yX3_count, Cond.instanceMethod yX3_count, Cond.selects RX3 yX3_count yX3_count, Cond.code yX3_count cX3_count 2 (some .int), Cond.fieldLink RX3 85 "NameRolls$Roll" "cells" "[I", Cond.fieldLink RX3 123 "NameRolls$Roll" "epoch" "I"]
def wsL_plays_r10 : List Cond := [Cond.fieldLink RX3 149 "NameRolls$Roll" "gained" "I", Cond.fieldLink RX3 152 "NameRolls$Roll" "lost" "I", Cond.methodLink RX3 155 Lib.Math.min.name, Cond.static Lib.Math.min.name, Cond.initialized "java/lang/Math", Cond.code Lib.Math.min.name Lib.Math.min.code 2 (some .int), Cond.methodLink RX3 139 yX1_namesBelow, Cond.methodLink RX3 142 yX1_usersOfAll, Cond.instanceMethod yX1_usersOfAll, Cond.selects RX1 yX1_usersOfAll yX1_usersOfAll, Cond.code yX1_usersOfAll cX1_usersOfAll 3 (some .int), Cond.methodLink RX3 105 yX1_cellsWith, Cond.methodLink RX3 146 yX1_top, Cond.instanceMethod yX1_top, Cond.selects RX1 yX1_top yX1_top, Cond.code yX1_top cX1_top 2 (some .int)]
def wsL_plays : List Cond := .code yL_plays cL_plays 7 (some .int) :: ((wsL_plays_r1 ++ (wsL_plays_r2 ++ (wsL_plays_r3 ++ (wsL_plays_r4 ++ (wsL_plays_r5 ++ (wsL_plays_r6 ++ (wsL_plays_r7 ++ (wsL_plays_r8 ++ (wsL_plays_r9 ++ wsL_plays_r10))))))))) ++ wsX30 ++ wsX20 ++ wsX00 ++ wsX10)
def wsL_goes_r1 : List Cond := [Cond.methodLink RL 9 yL_low, Cond.static yL_low, Cond.initialized RL, Cond.code yL_low cL_low 2 (some .int), Cond.constant RL 8 (2147483647), Cond.methodLink RL 103 yL_name, Cond.static yL_name, Cond.code yL_name cL_name 3 (some .int), Cond.methodLink RL 106 yX3_acquire, Cond.instanceMethod yX3_acquire, Cond.selects RX3 yX3_acquire yX3_acquire, Cond.initialized RX3, Cond.code yX3_acquire cX3_acquire 2 (some .int), Cond.constant RX3 38 (-1000001), Cond.fieldLink RX3 10 "NameRolls" "now" "LNameRolls$Roll;", Cond.constant RX3 42 (-1000003), Cond.methodLink RX3 34 yX3_isName, Cond.static yX3_isName, Cond.code yX3_isName cX3_isName 3 (some .boolean), Cond.constant RX3 193 (387420488), Cond.methodLink RX3 39 yX1_hasRoomFor, Cond.instanceMethod yX1_hasRoomFor, Cond.selects RX1 yX1_hasRoomFor yX1_hasRoomFor, Cond.initialized RX1]
def wsL_goes_r2 : List Cond := [Cond.code yX1_hasRoomFor cX1_hasRoomFor 3 (some .boolean), Cond.methodLink RX1 80 yX1_numberWith, Cond.instanceMethod yX1_numberWith, Cond.selects RX1 yX1_numberWith yX1_numberWith, Cond.code yX1_numberWith cX1_numberWith 3 (some .int), Cond.fieldLink RX1 9 "NameRolls$Roll" "names" "[I", Cond.methodLink RX1 84 yX1_hasRoomForUser, Cond.instanceMethod yX1_hasRoomForUser, Cond.selects RX1 yX1_hasRoomForUser yX1_hasRoomForUser, Cond.code yX1_hasRoomForUser cX1_hasRoomForUser 2 (some .boolean), Cond.fieldLink RX1 15 "NameRolls$Roll" "users" "[I", Cond.static yX3_isBelow, Cond.code yX3_isBelow cX3_isBelow 2 (some .boolean), Cond.methodLink RX3 43 yX3_recordState, Cond.instanceMethod yX3_recordState, Cond.selects RX3 yX3_recordState yX3_recordState, Cond.code yX3_recordState cX3_recordState 3 none, Cond.fieldLink RX3 160 "NameRolls" "states" "I", Cond.fieldLink RX3 16 "NameRolls" "past" "[LNameRolls$Roll;", Cond.methodLink RX3 166 yX1_copyFrom, Cond.instanceMethod yX1_copyFrom, Cond.selects RX1 yX1_copyFrom yX1_copyFrom, Cond.code yX1_copyFrom cX1_copyFrom 2 none, Cond.methodLink RX1 54 arraycopyName]
def wsL_goes_r3 : List Cond := [Cond.native arraycopyName, Cond.static arraycopyName, Cond.initialized "java/lang/System", Cond.fieldLink RX1 18 "NameRolls$Roll" "years" "[I", Cond.fieldLink RX1 21 "NameRolls$Roll" "cells" "[I", Cond.fieldLink RX1 60 "NameRolls$Roll" "epoch" "I", Cond.fieldLink RX1 64 "NameRolls$Roll" "gained" "I", Cond.fieldLink RX1 67 "NameRolls$Roll" "lost" "I", Cond.fieldLink RX1 24 "NameRolls$Roll" "rules" "[I", Cond.fieldLink RX1 27 "NameRolls$Roll" "namesThen" "[I", Cond.fieldLink RX1 30 "NameRolls$Roll" "movedThen" "[I", Cond.fieldLink RX1 33 "NameRolls$Roll" "yearsThen" "[I", Cond.fieldLink RX1 36 "NameRolls$Roll" "numbersBehind" "[I", Cond.fieldLink RX1 39 "NameRolls$Roll" "yearsBehind" "[I", Cond.methodLink RX3 46 yX1_enter, Cond.instanceMethod yX1_enter, Cond.selects RX1 yX1_enter yX1_enter, Cond.code yX1_enter cX1_enter 3 (some .int), Cond.methodLink RX1 88 yX1_addUser, Cond.instanceMethod yX1_addUser, Cond.selects RX1 yX1_addUser yX1_addUser, Cond.code yX1_addUser cX1_addUser 2 (some .int), Cond.methodLink RX3 50 yX1_tagOf, Cond.instanceMethod yX1_tagOf]
def wsL_goes_r4 : List Cond := [Cond.selects RX1 yX1_tagOf yX1_tagOf, Cond.code yX1_tagOf cX1_tagOf 2 (some .int), Cond.constant RX1 78 (-1000004), Cond.methodLink RX1 74 yX1_tagIn, Cond.static yX1_tagIn, Cond.code yX1_tagIn cX1_tagIn 3 (some .int), Cond.constant RX1 79 (1000000), Cond.methodLink RL 109 yL_tag, Cond.static yL_tag, Cond.code yL_tag cL_tag 3 (some .int), Cond.constant RL 38 (1000000), Cond.methodLink RL 21 yX3_count, Cond.instanceMethod yX3_count, Cond.selects RX3 yX3_count yX3_count, Cond.code yX3_count cX3_count 2 (some .int), Cond.fieldLink RX3 85 "NameRolls$Roll" "cells" "[I", Cond.fieldLink RX3 123 "NameRolls$Roll" "epoch" "I", Cond.fieldLink RX3 149 "NameRolls$Roll" "gained" "I", Cond.fieldLink RX3 152 "NameRolls$Roll" "lost" "I", Cond.methodLink RX3 155 Lib.Math.min.name, Cond.static Lib.Math.min.name, Cond.initialized "java/lang/Math", Cond.code Lib.Math.min.name Lib.Math.min.code 2 (some .int), Cond.fieldLink RX3 23 "NameRolls" "text" "LNameRolls$Text;"]
def wsL_goes_r5 : List Cond := [Cond.fieldLink RX3 163 "NameRolls$Text" "length" "I", Cond.methodLink RX3 139 yX1_namesBelow, Cond.instanceMethod yX1_namesBelow, Cond.selects RX1 yX1_namesBelow yX1_namesBelow, Cond.code yX1_namesBelow cX1_namesBelow 4 (some .int), Cond.methodLink RX3 142 yX1_usersOfAll, Cond.instanceMethod yX1_usersOfAll, Cond.selects RX1 yX1_usersOfAll yX1_usersOfAll, Cond.code yX1_usersOfAll cX1_usersOfAll 3 (some .int), Cond.methodLink RX3 105 yX1_cellsWith, Cond.instanceMethod yX1_cellsWith, Cond.selects RX1 yX1_cellsWith yX1_cellsWith, Cond.code yX1_cellsWith cX1_cellsWith 4 (some .int), Cond.methodLink RX3 146 yX1_top, Cond.instanceMethod yX1_top, Cond.selects RX1 yX1_top yX1_top, Cond.code yX1_top cX1_top 2 (some .int), Cond.methodLink RL 84 yL_above, Cond.static yL_above, Cond.code yL_above cL_above 1 (some .int), Cond.methodLink RL 27 yX3_numberOf, Cond.instanceMethod yX3_numberOf, Cond.selects RX3 yX3_numberOf yX3_numberOf, Cond.code yX3_numberOf cX3_numberOf 4 (some .int)]
def wsL_goes_r6 : List Cond := [Cond.fieldLink RX3 70 "NameRolls$Roll" "names" "[I", Cond.constant RX3 91 (-1000004), Cond.fieldLink RX3 102 "NameRolls$Roll" "users" "[I", Cond.fieldLink RX3 108 "NameRolls$Roll" "years" "[I", Cond.methodLink RX3 92 yX3_isBelow, Cond.methodLink RL 113 yX3_use, Cond.instanceMethod yX3_use, Cond.selects RX3 yX3_use yX3_use, Cond.code yX3_use cX3_use 3 (some .int), Cond.constant RX3 56 (-1000005), Cond.methodLink RX3 53 yX1_standing, Cond.instanceMethod yX1_standing, Cond.selects RX1 yX1_standing yX1_standing, Cond.code yX1_standing cX1_standing 8 (some .int), Cond.methodLink RX3 57 yX1_hasRoomForUser, Cond.methodLink RX3 60 yX1_addUser, Cond.methodLink RL 116 yX3_release, Cond.instanceMethod yX3_release, Cond.selects RX3 yX3_release yX3_release, Cond.code yX3_release cX3_release 3 (some .int), Cond.constant RX3 66 (-1000002), Cond.methodLink RX3 63 yX1_hasFreeUser, Cond.instanceMethod yX1_hasFreeUser, Cond.selects RX1 yX1_hasFreeUser yX1_hasFreeUser]
def wsL_goes_r7 : List Cond := [Cond.code yX1_hasFreeUser cX1_hasFreeUser 2 (some .boolean), Cond.methodLink RX1 91 yX1_cellsWith, Cond.methodLink RX3 67 yX1_giveBack, Cond.instanceMethod yX1_giveBack, Cond.selects RX1 yX1_giveBack yX1_giveBack, Cond.code yX1_giveBack cX1_giveBack 2 (some .int), Cond.methodLink RL 70 yL_near, Cond.static yL_near, Cond.code yL_near cL_near 3 (some .int), Cond.methodLink RL 119 yX3_put, Cond.instanceMethod yX3_put, Cond.selects RX3 yX3_put yX3_put, Cond.code yX3_put cX3_put 5 (some .int), Cond.methodLink RX3 74 yX3_isCell, Cond.static yX3_isCell, Cond.code yX3_isCell cX3_isCell 2 (some .boolean), Cond.methodLink RX3 78 yX3_cellIndex, Cond.static yX3_cellIndex, Cond.code yX3_cellIndex cX3_cellIndex 2 (some .int), Cond.methodLink RX3 82 yX1_fillCell, Cond.instanceMethod yX1_fillCell, Cond.selects RX1 yX1_fillCell yX1_fillCell, Cond.code yX1_fillCell cX1_fillCell 3 (some .int), Cond.methodLink RX1 94 yX1_giveBack]
def wsL_goes_r8 : List Cond := [Cond.methodLink RL 123 yX3_clear, Cond.instanceMethod yX3_clear, Cond.selects RX3 yX3_clear yX3_clear, Cond.code yX3_clear cX3_clear 3 (some .int), Cond.methodLink RX3 88 yX1_emptyCell, Cond.instanceMethod yX1_emptyCell, Cond.selects RX1 yX1_emptyCell yX1_emptyCell, Cond.code yX1_emptyCell cX1_emptyCell 3 (some .int), Cond.methodLink RL 126 yX3_compact, Cond.instanceMethod yX3_compact, Cond.selects RX3 yX3_compact yX3_compact, Cond.code yX3_compact cX3_compact 2 (some .int), Cond.methodLink RX3 95 yX1_hasNextEpoch, Cond.instanceMethod yX1_hasNextEpoch, Cond.selects RX1 yX1_hasNextEpoch yX1_hasNextEpoch, Cond.code yX1_hasNextEpoch cX1_hasNextEpoch 1 (some .boolean), Cond.methodLink RX3 99 yX1_giveAnew, Cond.instanceMethod yX1_giveAnew, Cond.selects RX1 yX1_giveAnew yX1_giveAnew, Cond.code yX1_giveAnew cX1_giveAnew 7 (some .int), Cond.methodLink RX1 104 yX1_placeOf, Cond.instanceMethod yX1_placeOf, Cond.selects RX1 yX1_placeOf yX1_placeOf, Cond.code yX1_placeOf cX1_placeOf 5 (some .int)]
def wsL_goes_r9 : List Cond := [Cond.methodLink RX1 97 yX1_isAhead, Cond.instanceMethod yX1_isAhead, Cond.selects RX1 yX1_isAhead yX1_isAhead, Cond.code yX1_isAhead cX1_isAhead 4 (some .boolean), Cond.static yX3_orderKey, Cond.code yX3_orderKey cX3_orderKey 3 (some .int), Cond.constant RX3 194 (14348907), Cond.methodLink RX1 108 yX1_namesBelow, Cond.methodLink RX1 111 yX1_moveNames, Cond.instanceMethod yX1_moveNames, Cond.selects RX1 yX1_moveNames yX1_moveNames, Cond.code yX1_moveNames cX1_moveNames 4 none, Cond.fieldLink RX1 42 "NameRolls$Roll" "oldNames" "[I", Cond.fieldLink RX1 45 "NameRolls$Roll" "oldUsers" "[I", Cond.methodLink RX1 48 yJ7_fill_53178, Cond.static yJ7_fill_53178, Cond.initialized RJ7, Cond.code yJ7_fill_53178 cJ7_fill_53178 4 none, Cond.methodLink RX1 115 yX1_moveCells, Cond.instanceMethod yX1_moveCells, Cond.selects RX1 yX1_moveCells yX1_moveCells, Cond.code yX1_moveCells cX1_moveCells 3 none, Cond.methodLink RL 129 yL_plays, Cond.static yL_plays]
def wsL_goes_r10 : List Cond := [Cond.code yL_plays cL_plays 7 (some .int), Cond.constant RL 91 (1103515245), Cond.constant RL 37 (-1000004), Cond.constant RL 101 (-1000002), Cond.constant RL 102 (1073741824), Cond.methodLink RL 87 yX3_clearText, Cond.instanceMethod yX3_clearText, Cond.selects RX3 yX3_clearText yX3_clearText, Cond.code yX3_clearText cX3_clearText 2 (some .int), Cond.methodLink RL 92 yX3_type, Cond.instanceMethod yX3_type, Cond.selects RX3 yX3_type yX3_type, Cond.code yX3_type cX3_type 2 (some .int), Cond.methodLink RX3 170 yX2_append, Cond.instanceMethod yX2_append, Cond.selects RX2 yX2_append yX2_append, Cond.initialized RX2, Cond.code yX2_append cX2_append 2 (some .int), Cond.fieldLink RX2 15 "NameRolls$Text" "length" "I", Cond.fieldLink RX2 9 "NameRolls$Text" "signs" "[C", Cond.methodLink RL 95 yX3_fault, Cond.instanceMethod yX3_fault, Cond.selects RX3 yX3_fault yX3_fault, Cond.code yX3_fault cX3_fault 2 (some .int)]
def wsL_goes_r11 : List Cond := [Cond.fieldLink RX3 30 "NameRolls" "player" "LNameRolls$Player;", Cond.fieldLink RX3 178 "NameRolls$Player" "reason" "I", Cond.fieldLink RX3 181 "NameRolls$Player" "start" "I", Cond.fieldLink RX3 184 "NameRolls$Player" "cause" "I", Cond.methodLink RX3 174 yX0_tryOn, Cond.instanceMethod yX0_tryOn, Cond.selects RX0 yX0_tryOn yX0_tryOn, Cond.initialized RX0, Cond.code yX0_tryOn cX0_tryOn 4 none, Cond.fieldLink RX0 12 "NameRolls$Player" "trial" "LNameRolls$Roll;", Cond.fieldLink RX0 22 "NameRolls$Player" "orders" "I", Cond.fieldLink RX0 26 "NameRolls$Player" "reason" "I", Cond.fieldLink RX0 29 "NameRolls$Player" "at" "I", Cond.fieldLink RX0 32 "NameRolls$Text" "length" "I", Cond.fieldLink RX0 37 "NameRolls$Player" "start" "I", Cond.methodLink RX0 18 yX1_copyFrom, Cond.methodLink RX0 40 yX0_readOrder, Cond.instanceMethod yX0_readOrder, Cond.selects RX0 yX0_readOrder yX0_readOrder, Cond.code yX0_readOrder cX0_readOrder 2 none, Cond.fieldLink RX0 54 "NameRolls$Player" "kind" "C", Cond.fieldLink RX0 58 "NameRolls$Player" "table" "I", Cond.fieldLink RX0 61 "NameRolls$Player" "cell" "I", Cond.fieldLink RX0 64 "NameRolls$Player" "rule" "I"]
def wsL_goes_r12 : List Cond := [Cond.fieldLink RX0 67 "NameRolls$Player" "letters" "I", Cond.fieldLink RX0 70 "NameRolls$Player" "name" "I", Cond.methodLink RX0 50 yX2_signAt, Cond.instanceMethod yX2_signAt, Cond.selects RX2 yX2_signAt yX2_signAt, Cond.code yX2_signAt cX2_signAt 2 (some .char), Cond.methodLink RX0 73 yX0_readLetters, Cond.instanceMethod yX0_readLetters, Cond.selects RX0 yX0_readLetters yX0_readLetters, Cond.code yX0_readLetters cX0_readLetters 4 none, Cond.methodLink RX0 84 yX0_fail, Cond.instanceMethod yX0_fail, Cond.selects RX0 yX0_fail yX0_fail, Cond.code yX0_fail cX0_fail 3 none, Cond.fieldLink RX0 125 "NameRolls$Player" "cause" "I", Cond.methodLink RX0 76 yX0_readDigit, Cond.instanceMethod yX0_readDigit, Cond.selects RX0 yX0_readDigit yX0_readDigit, Cond.code yX0_readDigit cX0_readDigit 3 (some .int), Cond.methodLink RX0 80 yX0_readSign, Cond.instanceMethod yX0_readSign, Cond.selects RX0 yX0_readSign yX0_readSign, Cond.code yX0_readSign cX0_readSign 3 none, Cond.methodLink RX0 44 yX0_checkRanges]
def wsL_goes_r13 : List Cond := [Cond.instanceMethod yX0_checkRanges, Cond.selects RX0 yX0_checkRanges yX0_checkRanges, Cond.code yX0_checkRanges cX0_checkRanges 1 none, Cond.methodLink RX0 47 yX0_carryOut, Cond.instanceMethod yX0_carryOut, Cond.selects RX0 yX0_carryOut yX0_carryOut, Cond.code yX0_carryOut cX0_carryOut 2 none, Cond.methodLink RX0 88 yX1_numberWith, Cond.methodLink RX0 92 yX0_canCarryOut, Cond.instanceMethod yX0_canCarryOut, Cond.selects RX0 yX0_canCarryOut yX0_canCarryOut, Cond.code yX0_canCarryOut cX0_canCarryOut 2 (some .boolean), Cond.methodLink RX0 112 yX1_hasRoomFor, Cond.methodLink RX0 115 yX1_hasFreeUser, Cond.methodLink RX0 118 yX1_hasRoomForUser, Cond.methodLink RX0 121 yX1_hasNextEpoch, Cond.methodLink RX0 96 yX1_enter, Cond.methodLink RX0 99 yX1_giveBack, Cond.methodLink RX0 106 yX1_fillCell, Cond.methodLink RX0 109 yX1_giveAnew, Cond.methodLink RL 98 yX3_play, Cond.instanceMethod yX3_play, Cond.selects RX3 yX3_play yX3_play, Cond.code yX3_play cX3_play 1 (some .int)]
def wsL_goes_r14 : List Cond := [Cond.fieldLink RX3 187 "NameRolls$Player" "trial" "LNameRolls$Roll;", Cond.fieldLink RX3 190 "NameRolls$Player" "orders" "I"]
def wsL_goes : List Cond := .code yL_goes cL_goes 3 (some .int) :: ((wsL_goes_r1 ++ (wsL_goes_r2 ++ (wsL_goes_r3 ++ (wsL_goes_r4 ++ (wsL_goes_r5 ++ (wsL_goes_r6 ++ (wsL_goes_r7 ++ (wsL_goes_r8 ++ (wsL_goes_r9 ++ (wsL_goes_r10 ++ (wsL_goes_r11 ++ (wsL_goes_r12 ++ (wsL_goes_r13 ++ wsL_goes_r14))))))))))))) ++ wsX30 ++ wsX10 ++ wsX20 ++ wsX00)
def wsL_law_r1 : List Cond := [Cond.classLink RL 22 RX3, Cond.instantiable RX3 5, Cond.initialized RX3, Cond.constant RL 102 (1073741824), Cond.methodLink RL 132 yX3_init, Cond.instanceMethod yX3_init, Cond.code yX3_init cX3_init 2 none, Cond.methodLink RX3 1 objectInit, Cond.instanceMethod objectInit, Cond.code objectInit ⟨#[0xb1]⟩ 1 none, Cond.classLink RX3 7 RX1, Cond.instantiable RX1 15, Cond.initialized RX1, Cond.fieldLink RX3 10 "NameRolls" "now" "LNameRolls$Roll;", Cond.fieldLink RX3 16 "NameRolls" "past" "[LNameRolls$Roll;", Cond.classLink RX3 20 RX2, Cond.instantiable RX2 2, Cond.initialized RX2, Cond.fieldLink RX3 23 "NameRolls" "text" "LNameRolls$Text;", Cond.classLink RX3 27 RX0, Cond.instantiable RX0 12, Cond.initialized RX0, Cond.fieldLink RX3 30 "NameRolls" "player" "LNameRolls$Player;", Cond.methodLink RX3 9 yX1_init]
def wsL_law_r2 : List Cond := [Cond.instanceMethod yX1_init, Cond.code yX1_init cX1_init 1 none, Cond.methodLink RX1 3 objectInit, Cond.arrayClass .int, Cond.fieldLink RX1 9 "NameRolls$Roll" "names" "[I", Cond.fieldLink RX1 15 "NameRolls$Roll" "users" "[I", Cond.fieldLink RX1 18 "NameRolls$Roll" "years" "[I", Cond.fieldLink RX1 21 "NameRolls$Roll" "cells" "[I", Cond.fieldLink RX1 24 "NameRolls$Roll" "rules" "[I", Cond.fieldLink RX1 27 "NameRolls$Roll" "namesThen" "[I", Cond.fieldLink RX1 30 "NameRolls$Roll" "movedThen" "[I", Cond.fieldLink RX1 33 "NameRolls$Roll" "yearsThen" "[I", Cond.fieldLink RX1 36 "NameRolls$Roll" "numbersBehind" "[I", Cond.fieldLink RX1 39 "NameRolls$Roll" "yearsBehind" "[I", Cond.fieldLink RX1 42 "NameRolls$Roll" "oldNames" "[I", Cond.fieldLink RX1 45 "NameRolls$Roll" "oldUsers" "[I", Cond.methodLink RX1 48 yJ7_fill_53178, Cond.static yJ7_fill_53178, Cond.initialized RJ7, Cond.code yJ7_fill_53178 cJ7_fill_53178 4 none, Cond.instanceMethod yX2_init, Cond.code yX2_init cX2_init 1 none, Cond.methodLink RX2 3 objectInit, Cond.arrayClass .char]
def wsL_law_r3 : List Cond := [Cond.fieldLink RX2 9 "NameRolls$Text" "signs" "[C", Cond.instanceMethod yX0_init, Cond.code yX0_init cX0_init 1 none, Cond.methodLink RX0 3 objectInit, Cond.classLink RX0 9 RX1, Cond.fieldLink RX0 12 "NameRolls$Player" "trial" "LNameRolls$Roll;", Cond.methodLink RX0 11 yX1_init, Cond.methodLink RL 133 yL_fits, Cond.static yL_fits, Cond.initialized RL, Cond.code yL_fits cL_fits 9 (some .boolean), Cond.constant RL 38 (1000000), Cond.constant RL 37 (-1000004), Cond.constant RL 15 (-1000001), Cond.methodLink RL 66 yL_trace, Cond.static yL_trace, Cond.code yL_trace cL_trace 5 (some .long), Cond.constantLong RL 17 (3), Cond.constantLong RL 19 (31), Cond.methodLink RL 21 yX3_count, Cond.instanceMethod yX3_count, Cond.selects RX3 yX3_count yX3_count, Cond.code yX3_count cX3_count 2 (some .int), Cond.fieldLink RX3 85 "NameRolls$Roll" "cells" "[I"]
def wsL_law_r4 : List Cond := [Cond.fieldLink RX3 123 "NameRolls$Roll" "epoch" "I", Cond.fieldLink RX3 149 "NameRolls$Roll" "gained" "I", Cond.fieldLink RX3 152 "NameRolls$Roll" "lost" "I", Cond.methodLink RX3 155 Lib.Math.min.name, Cond.static Lib.Math.min.name, Cond.initialized "java/lang/Math", Cond.code Lib.Math.min.name Lib.Math.min.code 2 (some .int), Cond.fieldLink RX3 160 "NameRolls" "states" "I", Cond.fieldLink RX3 163 "NameRolls$Text" "length" "I", Cond.constant RX3 38 (-1000001), Cond.methodLink RX3 139 yX1_namesBelow, Cond.instanceMethod yX1_namesBelow, Cond.selects RX1 yX1_namesBelow yX1_namesBelow, Cond.code yX1_namesBelow cX1_namesBelow 4 (some .int), Cond.methodLink RX3 142 yX1_usersOfAll, Cond.instanceMethod yX1_usersOfAll, Cond.selects RX1 yX1_usersOfAll yX1_usersOfAll, Cond.code yX1_usersOfAll cX1_usersOfAll 3 (some .int), Cond.methodLink RX3 105 yX1_cellsWith, Cond.instanceMethod yX1_cellsWith, Cond.selects RX1 yX1_cellsWith yX1_cellsWith, Cond.code yX1_cellsWith cX1_cellsWith 4 (some .int), Cond.methodLink RX3 146 yX1_top, Cond.instanceMethod yX1_top]
def wsL_law_r5 : List Cond := [Cond.selects RX1 yX1_top yX1_top, Cond.code yX1_top cX1_top 2 (some .int), Cond.methodLink RL 27 yX3_numberOf, Cond.instanceMethod yX3_numberOf, Cond.selects RX3 yX3_numberOf yX3_numberOf, Cond.code yX3_numberOf cX3_numberOf 4 (some .int), Cond.fieldLink RX3 70 "NameRolls$Roll" "names" "[I", Cond.constant RX3 91 (-1000004), Cond.fieldLink RX3 102 "NameRolls$Roll" "users" "[I", Cond.fieldLink RX3 108 "NameRolls$Roll" "years" "[I", Cond.methodLink RX3 92 yX3_isBelow, Cond.static yX3_isBelow, Cond.code yX3_isBelow cX3_isBelow 2 (some .boolean), Cond.methodLink RX3 50 yX1_tagOf, Cond.instanceMethod yX1_tagOf, Cond.selects RX1 yX1_tagOf yX1_tagOf, Cond.code yX1_tagOf cX1_tagOf 2 (some .int), Cond.fieldLink RX1 60 "NameRolls$Roll" "epoch" "I", Cond.constant RX1 78 (-1000004), Cond.methodLink RX1 74 yX1_tagIn, Cond.static yX1_tagIn, Cond.code yX1_tagIn cX1_tagIn 3 (some .int), Cond.constant RX1 79 (1000000), Cond.methodLink RL 30 yX3_cellOf]
def wsL_law_r6 : List Cond := [Cond.instanceMethod yX3_cellOf, Cond.selects RX3 yX3_cellOf yX3_cellOf, Cond.code yX3_cellOf cX3_cellOf 4 (some .int), Cond.methodLink RX3 74 yX3_isCell, Cond.static yX3_isCell, Cond.code yX3_isCell cX3_isCell 2 (some .boolean), Cond.methodLink RX3 78 yX3_cellIndex, Cond.static yX3_cellIndex, Cond.code yX3_cellIndex cX3_cellIndex 2 (some .int), Cond.methodLink RL 33 yX3_compaction, Cond.instanceMethod yX3_compaction, Cond.selects RX3 yX3_compaction yX3_compaction, Cond.code yX3_compaction cX3_compaction 4 (some .int), Cond.fieldLink RX3 127 "NameRolls$Roll" "rules" "[I", Cond.fieldLink RX3 130 "NameRolls$Roll" "namesThen" "[I", Cond.fieldLink RX3 133 "NameRolls$Roll" "movedThen" "[I", Cond.methodLink RX3 136 yX1_stillStanding, Cond.instanceMethod yX1_stillStanding, Cond.selects RX1 yX1_stillStanding yX1_stillStanding, Cond.code yX1_stillStanding cX1_stillStanding 6 (some .int), Cond.methodLink RX1 118 yX1_standing, Cond.instanceMethod yX1_standing, Cond.selects RX1 yX1_standing yX1_standing, Cond.code yX1_standing cX1_standing 8 (some .int)]
def wsL_law_r7 : List Cond := [Cond.methodLink RL 70 yL_near, Cond.static yL_near, Cond.code yL_near cL_near 3 (some .int), Cond.methodLink RL 9 yL_low, Cond.static yL_low, Cond.code yL_low cL_low 2 (some .int), Cond.constant RL 8 (2147483647), Cond.methodLink RL 73 yL_numbersFit, Cond.static yL_numbersFit, Cond.code yL_numbersFit cL_numbersFit 12 (some .boolean), Cond.methodLink RL 39 yX3_find, Cond.instanceMethod yX3_find, Cond.selects RX3 yX3_find yX3_find, Cond.code yX3_find cX3_find 3 (some .int), Cond.methodLink RX3 34 yX3_isName, Cond.static yX3_isName, Cond.code yX3_isName cX3_isName 3 (some .boolean), Cond.constant RX3 193 (387420488), Cond.methodLink RX3 111 yX1_numberWith, Cond.instanceMethod yX1_numberWith, Cond.selects RX1 yX1_numberWith yX1_numberWith, Cond.code yX1_numberWith cX1_numberWith 3 (some .int), Cond.methodLink RL 42 yX3_why, Cond.instanceMethod yX3_why]
def wsL_law_r8 : List Cond := [Cond.selects RX3 yX3_why yX3_why, Cond.code yX3_why cX3_why 3 (some .int), Cond.methodLink RX3 53 yX1_standing, Cond.methodLink RL 45 yX3_follow, Cond.instanceMethod yX3_follow, Cond.selects RX3 yX3_follow yX3_follow, Cond.code yX3_follow cX3_follow 3 (some .int), Cond.constant RX3 56 (-1000005), Cond.methodLink RL 48 yX3_nameOf, Cond.instanceMethod yX3_nameOf, Cond.selects RX3 yX3_nameOf yX3_nameOf, Cond.code yX3_nameOf cX3_nameOf 3 (some .int), Cond.methodLink RL 51 yX3_beginning, Cond.instanceMethod yX3_beginning, Cond.selects RX3 yX3_beginning yX3_beginning, Cond.code yX3_beginning cX3_beginning 4 (some .int), Cond.methodLink RX3 117 yX3_beginsWith, Cond.static yX3_beginsWith, Cond.code yX3_beginsWith cX3_beginsWith 4 (some .boolean), Cond.methodLink RL 54 yX3_wouldBe, Cond.instanceMethod yX3_wouldBe, Cond.selects RX3 yX3_wouldBe yX3_wouldBe, Cond.code yX3_wouldBe cX3_wouldBe 3 (some .int), Cond.methodLink RX3 114 yX1_placeOf]
def wsL_law_r9 : List Cond := [Cond.instanceMethod yX1_placeOf, Cond.selects RX1 yX1_placeOf yX1_placeOf, Cond.code yX1_placeOf cX1_placeOf 5 (some .int), Cond.methodLink RX1 97 yX1_isAhead, Cond.instanceMethod yX1_isAhead, Cond.selects RX1 yX1_isAhead yX1_isAhead, Cond.code yX1_isAhead cX1_isAhead 4 (some .boolean), Cond.static yX3_orderKey, Cond.code yX3_orderKey cX3_orderKey 3 (some .int), Cond.constant RX3 194 (14348907), Cond.methodLink RL 77 yL_ordersFit, Cond.static yL_ordersFit, Cond.code yL_ordersFit cL_ordersFit 10 (some .boolean), Cond.methodLink RL 57 yX3_nameAt, Cond.instanceMethod yX3_nameAt, Cond.selects RX3 yX3_nameAt yX3_nameAt, Cond.code yX3_nameAt cX3_nameAt 4 (some .int), Cond.methodLink RL 60 yL_padded, Cond.static yL_padded, Cond.code yL_padded cL_padded 2 (some .int), Cond.constant RL 36 (14348907), Cond.methodLink RL 63 yX3_behind, Cond.instanceMethod yX3_behind, Cond.selects RX3 yX3_behind yX3_behind]
def wsL_law_r10 : List Cond := [Cond.code yX3_behind cX3_behind 7 (some .int), Cond.methodLink RX3 120 yX3_orderKey, Cond.methodLink RL 80 yL_tagsFit, Cond.static yL_tagsFit, Cond.code yL_tagsFit cL_tagsFit 6 (some .boolean), Cond.constant RL 16 (-1000005), Cond.methodLink RL 136 yL_cell, Cond.static yL_cell, Cond.code yL_cell cL_cell 2 (some .int), Cond.constant RL 7 (461845907), Cond.methodLink RL 140 yL_goes, Cond.static yL_goes, Cond.code yL_goes cL_goes 3 (some .int), Cond.methodLink RL 103 yL_name, Cond.static yL_name, Cond.code yL_name cL_name 3 (some .int), Cond.methodLink RL 106 yX3_acquire, Cond.instanceMethod yX3_acquire, Cond.selects RX3 yX3_acquire yX3_acquire, Cond.code yX3_acquire cX3_acquire 2 (some .int), Cond.constant RX3 42 (-1000003), Cond.methodLink RX3 39 yX1_hasRoomFor, Cond.instanceMethod yX1_hasRoomFor, Cond.selects RX1 yX1_hasRoomFor yX1_hasRoomFor]
def wsL_law_r11 : List Cond := [Cond.code yX1_hasRoomFor cX1_hasRoomFor 3 (some .boolean), Cond.methodLink RX1 80 yX1_numberWith, Cond.methodLink RX1 84 yX1_hasRoomForUser, Cond.instanceMethod yX1_hasRoomForUser, Cond.selects RX1 yX1_hasRoomForUser yX1_hasRoomForUser, Cond.code yX1_hasRoomForUser cX1_hasRoomForUser 2 (some .boolean), Cond.methodLink RX3 43 yX3_recordState, Cond.instanceMethod yX3_recordState, Cond.selects RX3 yX3_recordState yX3_recordState, Cond.code yX3_recordState cX3_recordState 3 none, Cond.methodLink RX3 166 yX1_copyFrom, Cond.instanceMethod yX1_copyFrom, Cond.selects RX1 yX1_copyFrom yX1_copyFrom, Cond.code yX1_copyFrom cX1_copyFrom 2 none, Cond.methodLink RX1 54 arraycopyName, Cond.native arraycopyName, Cond.static arraycopyName, Cond.initialized "java/lang/System", Cond.fieldLink RX1 64 "NameRolls$Roll" "gained" "I", Cond.fieldLink RX1 67 "NameRolls$Roll" "lost" "I", Cond.methodLink RX3 46 yX1_enter, Cond.instanceMethod yX1_enter, Cond.selects RX1 yX1_enter yX1_enter, Cond.code yX1_enter cX1_enter 3 (some .int)]
def wsL_law_r12 : List Cond := [Cond.methodLink RX1 88 yX1_addUser, Cond.instanceMethod yX1_addUser, Cond.selects RX1 yX1_addUser yX1_addUser, Cond.code yX1_addUser cX1_addUser 2 (some .int), Cond.methodLink RL 109 yL_tag, Cond.static yL_tag, Cond.code yL_tag cL_tag 3 (some .int), Cond.methodLink RL 84 yL_above, Cond.static yL_above, Cond.code yL_above cL_above 1 (some .int), Cond.methodLink RL 113 yX3_use, Cond.instanceMethod yX3_use, Cond.selects RX3 yX3_use yX3_use, Cond.code yX3_use cX3_use 3 (some .int), Cond.methodLink RX3 57 yX1_hasRoomForUser, Cond.methodLink RX3 60 yX1_addUser, Cond.methodLink RL 116 yX3_release, Cond.instanceMethod yX3_release, Cond.selects RX3 yX3_release yX3_release, Cond.code yX3_release cX3_release 3 (some .int), Cond.constant RX3 66 (-1000002), Cond.methodLink RX3 63 yX1_hasFreeUser, Cond.instanceMethod yX1_hasFreeUser, Cond.selects RX1 yX1_hasFreeUser yX1_hasFreeUser]
def wsL_law_r13 : List Cond := [Cond.code yX1_hasFreeUser cX1_hasFreeUser 2 (some .boolean), Cond.methodLink RX1 91 yX1_cellsWith, Cond.methodLink RX3 67 yX1_giveBack, Cond.instanceMethod yX1_giveBack, Cond.selects RX1 yX1_giveBack yX1_giveBack, Cond.code yX1_giveBack cX1_giveBack 2 (some .int), Cond.methodLink RL 119 yX3_put, Cond.instanceMethod yX3_put, Cond.selects RX3 yX3_put yX3_put, Cond.code yX3_put cX3_put 5 (some .int), Cond.methodLink RX3 82 yX1_fillCell, Cond.instanceMethod yX1_fillCell, Cond.selects RX1 yX1_fillCell yX1_fillCell, Cond.code yX1_fillCell cX1_fillCell 3 (some .int), Cond.methodLink RX1 94 yX1_giveBack, Cond.methodLink RL 123 yX3_clear, Cond.instanceMethod yX3_clear, Cond.selects RX3 yX3_clear yX3_clear, Cond.code yX3_clear cX3_clear 3 (some .int), Cond.methodLink RX3 88 yX1_emptyCell, Cond.instanceMethod yX1_emptyCell, Cond.selects RX1 yX1_emptyCell yX1_emptyCell, Cond.code yX1_emptyCell cX1_emptyCell 3 (some .int), Cond.methodLink RL 126 yX3_compact]
def wsL_law_r14 : List Cond := [Cond.instanceMethod yX3_compact, Cond.selects RX3 yX3_compact yX3_compact, Cond.code yX3_compact cX3_compact 2 (some .int), Cond.methodLink RX3 95 yX1_hasNextEpoch, Cond.instanceMethod yX1_hasNextEpoch, Cond.selects RX1 yX1_hasNextEpoch yX1_hasNextEpoch, Cond.code yX1_hasNextEpoch cX1_hasNextEpoch 1 (some .boolean), Cond.methodLink RX3 99 yX1_giveAnew, Cond.instanceMethod yX1_giveAnew, Cond.selects RX1 yX1_giveAnew yX1_giveAnew, Cond.code yX1_giveAnew cX1_giveAnew 7 (some .int), Cond.methodLink RX1 104 yX1_placeOf, Cond.methodLink RX1 108 yX1_namesBelow, Cond.methodLink RX1 111 yX1_moveNames, Cond.instanceMethod yX1_moveNames, Cond.selects RX1 yX1_moveNames yX1_moveNames, Cond.code yX1_moveNames cX1_moveNames 4 none, Cond.methodLink RX1 115 yX1_moveCells, Cond.instanceMethod yX1_moveCells, Cond.selects RX1 yX1_moveCells yX1_moveCells, Cond.code yX1_moveCells cX1_moveCells 3 none, Cond.methodLink RL 129 yL_plays, Cond.static yL_plays, Cond.code yL_plays cL_plays 7 (some .int)]
def wsL_law_r15 : List Cond := [Cond.constant RL 91 (1103515245), Cond.constant RL 101 (-1000002), Cond.methodLink RL 87 yX3_clearText, Cond.instanceMethod yX3_clearText, Cond.selects RX3 yX3_clearText yX3_clearText, Cond.code yX3_clearText cX3_clearText 2 (some .int), Cond.methodLink RL 92 yX3_type, Cond.instanceMethod yX3_type, Cond.selects RX3 yX3_type yX3_type, Cond.code yX3_type cX3_type 2 (some .int), Cond.methodLink RX3 170 yX2_append, Cond.instanceMethod yX2_append, Cond.selects RX2 yX2_append yX2_append, Cond.code yX2_append cX2_append 2 (some .int), Cond.fieldLink RX2 15 "NameRolls$Text" "length" "I", Cond.methodLink RL 95 yX3_fault, Cond.instanceMethod yX3_fault, Cond.selects RX3 yX3_fault yX3_fault, Cond.code yX3_fault cX3_fault 2 (some .int), Cond.fieldLink RX3 178 "NameRolls$Player" "reason" "I", Cond.fieldLink RX3 181 "NameRolls$Player" "start" "I", Cond.fieldLink RX3 184 "NameRolls$Player" "cause" "I", Cond.methodLink RX3 174 yX0_tryOn, Cond.instanceMethod yX0_tryOn]
def wsL_law_r16 : List Cond := [Cond.selects RX0 yX0_tryOn yX0_tryOn, Cond.code yX0_tryOn cX0_tryOn 4 none, Cond.fieldLink RX0 22 "NameRolls$Player" "orders" "I", Cond.fieldLink RX0 26 "NameRolls$Player" "reason" "I", Cond.fieldLink RX0 29 "NameRolls$Player" "at" "I", Cond.fieldLink RX0 32 "NameRolls$Text" "length" "I", Cond.fieldLink RX0 37 "NameRolls$Player" "start" "I", Cond.methodLink RX0 18 yX1_copyFrom, Cond.methodLink RX0 40 yX0_readOrder, Cond.instanceMethod yX0_readOrder, Cond.selects RX0 yX0_readOrder yX0_readOrder, Cond.code yX0_readOrder cX0_readOrder 2 none, Cond.fieldLink RX0 54 "NameRolls$Player" "kind" "C", Cond.fieldLink RX0 58 "NameRolls$Player" "table" "I", Cond.fieldLink RX0 61 "NameRolls$Player" "cell" "I", Cond.fieldLink RX0 64 "NameRolls$Player" "rule" "I", Cond.fieldLink RX0 67 "NameRolls$Player" "letters" "I", Cond.fieldLink RX0 70 "NameRolls$Player" "name" "I", Cond.methodLink RX0 50 yX2_signAt, Cond.instanceMethod yX2_signAt, Cond.selects RX2 yX2_signAt yX2_signAt, Cond.code yX2_signAt cX2_signAt 2 (some .char), Cond.methodLink RX0 73 yX0_readLetters, Cond.instanceMethod yX0_readLetters]
def wsL_law_r17 : List Cond := [Cond.selects RX0 yX0_readLetters yX0_readLetters, Cond.code yX0_readLetters cX0_readLetters 4 none, Cond.methodLink RX0 84 yX0_fail, Cond.instanceMethod yX0_fail, Cond.selects RX0 yX0_fail yX0_fail, Cond.code yX0_fail cX0_fail 3 none, Cond.fieldLink RX0 125 "NameRolls$Player" "cause" "I", Cond.methodLink RX0 76 yX0_readDigit, Cond.instanceMethod yX0_readDigit, Cond.selects RX0 yX0_readDigit yX0_readDigit, Cond.code yX0_readDigit cX0_readDigit 3 (some .int), Cond.methodLink RX0 80 yX0_readSign, Cond.instanceMethod yX0_readSign, Cond.selects RX0 yX0_readSign yX0_readSign, Cond.code yX0_readSign cX0_readSign 3 none, Cond.methodLink RX0 44 yX0_checkRanges, Cond.instanceMethod yX0_checkRanges, Cond.selects RX0 yX0_checkRanges yX0_checkRanges, Cond.code yX0_checkRanges cX0_checkRanges 1 none, Cond.methodLink RX0 47 yX0_carryOut, Cond.instanceMethod yX0_carryOut, Cond.selects RX0 yX0_carryOut yX0_carryOut, Cond.code yX0_carryOut cX0_carryOut 2 none, Cond.methodLink RX0 88 yX1_numberWith]
def wsL_law_r18 : List Cond := [Cond.methodLink RX0 92 yX0_canCarryOut, Cond.instanceMethod yX0_canCarryOut, Cond.selects RX0 yX0_canCarryOut yX0_canCarryOut, Cond.code yX0_canCarryOut cX0_canCarryOut 2 (some .boolean), Cond.methodLink RX0 112 yX1_hasRoomFor, Cond.methodLink RX0 115 yX1_hasFreeUser, Cond.methodLink RX0 118 yX1_hasRoomForUser, Cond.methodLink RX0 121 yX1_hasNextEpoch, Cond.methodLink RX0 96 yX1_enter, Cond.methodLink RX0 99 yX1_giveBack, Cond.methodLink RX0 106 yX1_fillCell, Cond.methodLink RX0 109 yX1_giveAnew, Cond.methodLink RL 98 yX3_play, Cond.instanceMethod yX3_play, Cond.selects RX3 yX3_play yX3_play, Cond.code yX3_play cX3_play 1 (some .int), Cond.fieldLink RX3 187 "NameRolls$Player" "trial" "LNameRolls$Roll;", Cond.fieldLink RX3 190 "NameRolls$Player" "orders" "I", Cond.methodLink RL 144 yL_isError, Cond.static yL_isError, Cond.code yL_isError cL_isError 1 (some .boolean), Cond.methodLink RL 148 yX3_undo, Cond.instanceMethod yX3_undo, Cond.selects RX3 yX3_undo yX3_undo]
def wsL_law_r19 : List Cond := [Cond.code yX3_undo cX3_undo 1 (some .int)]
def wsL_law : List Cond := (wsL_law_r1 ++ (wsL_law_r2 ++ (wsL_law_r3 ++ (wsL_law_r4 ++ (wsL_law_r5 ++ (wsL_law_r6 ++ (wsL_law_r7 ++ (wsL_law_r8 ++ (wsL_law_r9 ++ (wsL_law_r10 ++ (wsL_law_r11 ++ (wsL_law_r12 ++ (wsL_law_r13 ++ (wsL_law_r14 ++ (wsL_law_r15 ++ (wsL_law_r16 ++ (wsL_law_r17 ++ (wsL_law_r18 ++ wsL_law_r19)))))))))))))))))) ++ wsX30 ++ wsX10 ++ wsX20 ++ wsX00 ++ ([] : List Cond)
theorem z_places {big : List Cond} (ws : List Cond) (ps : List Nat) (hp : ws = ps.filterMap (fun i => big[i]?)) : ∀ w ∈ ws, w ∈ big := by
  intro w hw
  rw [hp] at hw
  obtain ⟨i, -, hi⟩ := List.mem_filterMap.mp hw
  exact List.mem_of_getElem? hi
set_option maxRecDepth 20000 in
theorem in_wsL_law_r1 : ∀ w ∈ wsL_law_r1, w ∈ lw_tbl := z_places wsL_law_r1 [20, 21, 13, 523, 22, 23, 24, 25, 26, 27, 28, 29, 14, 161, 162, 95, 96, 16, 164, 111, 112, 17, 165, 30] (by decide +kernel)
set_option maxRecDepth 20000 in
theorem in_wsL_law_r2 : ∀ w ∈ wsL_law_r2, w ∈ lw_tbl := z_places wsL_law_r2 [31, 32, 33, 93, 37, 39, 41, 43, 51, 53, 55, 57, 58, 59, 60, 61, 34, 35, 15, 36, 98, 99, 100, 110] (by decide +kernel)
set_option maxRecDepth 20000 in
theorem in_wsL_law_r3 : ∀ w ∈ wsL_law_r3, w ∈ lw_tbl := z_places wsL_law_r3 [101, 114, 115, 116, 117, 119, 118, 271, 272, 12, 273, 277, 281, 224, 226, 227, 228, 229, 230, 177, 178, 179, 180, 44] (by decide +kernel)
set_option maxRecDepth 20000 in
theorem in_wsL_law_r4 : ∀ w ∈ wsL_law_r4, w ∈ lw_tbl := z_places wsL_law_r4 [46, 48, 50, 197, 198, 18, 199, 163, 104, 200, 181, 182, 183, 184, 185, 186, 187, 188, 189, 190, 191, 192, 193, 194] (by decide +kernel)
set_option maxRecDepth 20000 in
theorem in_wsL_law_r5 : ∀ w ∈ wsL_law_r5, w ∈ lw_tbl := z_places wsL_law_r5 [195, 196, 231, 232, 233, 234, 38, 238, 40, 42, 235, 236, 237, 239, 240, 241, 242, 45, 248, 244, 245, 246, 247, 249] (by decide +kernel)
set_option maxRecDepth 20000 in
theorem in_wsL_law_r6 : ∀ w ∈ wsL_law_r6, w ∈ lw_tbl := z_places wsL_law_r6 [250, 251, 252, 253, 254, 255, 256, 257, 258, 259, 260, 261, 262, 52, 54, 56, 263, 264, 265, 266, 267, 268, 269, 270] (by decide +kernel)
set_option maxRecDepth 20000 in
theorem in_wsL_law_r7 : ∀ w ∈ wsL_law_r7, w ∈ lw_tbl := z_places wsL_law_r7 [274, 275, 276, 217, 218, 219, 220, 278, 279, 280, 282, 283, 284, 285, 286, 287, 288, 289, 290, 291, 292, 293, 294, 295] (by decide +kernel)
set_option maxRecDepth 20000 in
theorem in_wsL_law_r8 : ∀ w ∈ wsL_law_r8, w ∈ lw_tbl := z_places wsL_law_r8 [296, 297, 298, 299, 300, 301, 302, 303, 304, 305, 306, 307, 308, 309, 310, 311, 312, 313, 314, 315, 316, 317, 318, 319] (by decide +kernel)
set_option maxRecDepth 20000 in
theorem in_wsL_law_r9 : ∀ w ∈ wsL_law_r9, w ∈ lw_tbl := z_places wsL_law_r9 [320, 321, 322, 323, 325, 0, 326, 328, 329, 330, 331, 332, 333, 334, 335, 336, 337, 338, 339, 340, 341, 342, 343, 344] (by decide +kernel)
set_option maxRecDepth 20000 in
theorem in_wsL_law_r10 : ∀ w ∈ wsL_law_r10, w ∈ lw_tbl := z_places wsL_law_r10 [345, 346, 347, 348, 349, 225, 213, 214, 215, 216, 350, 351, 352, 353, 354, 355, 356, 357, 358, 359, 369, 360, 361, 362] (by decide +kernel)
set_option maxRecDepth 20000 in
theorem in_wsL_law_r11 : ∀ w ∈ wsL_law_r11, w ∈ lw_tbl := z_places wsL_law_r11 [363, 364, 365, 366, 367, 368, 370, 372, 1, 373, 206, 207, 208, 209, 210, 212, 211, 19, 47, 49, 374, 375, 376, 377] (by decide +kernel)
set_option maxRecDepth 20000 in
theorem in_wsL_law_r12 : ∀ w ∈ wsL_law_r12, w ∈ lw_tbl := z_places wsL_law_r12 [378, 379, 380, 381, 382, 383, 384, 385, 386, 387, 388, 389, 390, 391, 392, 393, 394, 395, 396, 397, 205, 398, 399, 400] (by decide +kernel)
set_option maxRecDepth 20000 in
theorem in_wsL_law_r13 : ∀ w ∈ wsL_law_r13, w ∈ lw_tbl := z_places wsL_law_r13 [401, 402, 403, 404, 405, 406, 407, 408, 409, 410, 411, 412, 413, 414, 415, 416, 417, 418, 419, 420, 421, 422, 423, 424] (by decide +kernel)
set_option maxRecDepth 20000 in
theorem in_wsL_law_r14 : ∀ w ∈ wsL_law_r14, w ∈ lw_tbl := z_places wsL_law_r14 [425, 426, 427, 428, 429, 430, 431, 432, 433, 434, 435, 436, 437, 438, 440, 2, 441, 442, 444, 3, 445, 446, 447, 448] (by decide +kernel)
set_option maxRecDepth 20000 in
theorem in_wsL_law_r15 : ∀ w ∈ wsL_law_r15, w ∈ lw_tbl := z_places wsL_law_r15 [453, 522, 449, 450, 451, 452, 454, 455, 456, 457, 458, 459, 460, 461, 102, 463, 464, 465, 466, 124, 128, 126, 467, 468] (by decide +kernel)
set_option maxRecDepth 20000 in
theorem in_wsL_law_r16 : ∀ w ∈ wsL_law_r16, w ∈ lw_tbl := z_places wsL_law_r16 [469, 470, 121, 123, 129, 103, 127, 471, 472, 474, 4, 475, 130, 131, 132, 133, 134, 135, 476, 477, 478, 479, 480, 482] (by decide +kernel)
set_option maxRecDepth 20000 in
theorem in_wsL_law_r17 : ∀ w ∈ wsL_law_r17, w ∈ lw_tbl := z_places wsL_law_r17 [5, 483, 484, 486, 6, 487, 125, 488, 490, 7, 491, 492, 494, 8, 495, 496, 498, 9, 499, 500, 502, 10, 503, 504] (by decide +kernel)
set_option maxRecDepth 20000 in
theorem in_wsL_law_r18 : ∀ w ∈ wsL_law_r18, w ∈ lw_tbl := z_places wsL_law_r18 [505, 507, 11, 508, 509, 510, 511, 512, 513, 514, 516, 517, 518, 519, 520, 521, 120, 122, 221, 222, 223, 201, 202, 203] (by decide +kernel)
set_option maxRecDepth 20000 in
theorem in_wsL_law_r19 : ∀ w ∈ wsL_law_r19, w ∈ lw_tbl := z_places wsL_law_r19 [204] (by decide +kernel)
set_option maxRecDepth 20000 in
theorem inX0 : ∀ w ∈ wsX00, w ∈ lw_tbl := z_places wsX00 [136, 138, 140, 142, 144, 146, 148, 150, 152, 154, 156, 158] (by decide +kernel)
set_option maxRecDepth 20000 in
theorem inX1 : ∀ w ∈ wsX10, w ∈ lw_tbl := z_places wsX10 [62, 64, 66, 68, 70, 72, 74, 76, 78, 80, 82, 84, 86, 88, 90] (by decide +kernel)
set_option maxRecDepth 20000 in
theorem inX2 : ∀ w ∈ wsX20, w ∈ lw_tbl := z_places wsX20 [105, 107] (by decide +kernel)
set_option maxRecDepth 20000 in
theorem inX3 : ∀ w ∈ wsX30, w ∈ lw_tbl := z_places wsX30 [166, 168, 170, 172, 174] (by decide +kernel)
theorem wsL_law_in : ∀ w ∈ wsL_law, w ∈ lw_tbl := by
  show ∀ w ∈ (wsL_law_r1 ++ (wsL_law_r2 ++ (wsL_law_r3 ++ (wsL_law_r4 ++ (wsL_law_r5 ++ (wsL_law_r6 ++ (wsL_law_r7 ++ (wsL_law_r8 ++ (wsL_law_r9 ++ (wsL_law_r10 ++ (wsL_law_r11 ++ (wsL_law_r12 ++ (wsL_law_r13 ++ (wsL_law_r14 ++ (wsL_law_r15 ++ (wsL_law_r16 ++ (wsL_law_r17 ++ (wsL_law_r18 ++ wsL_law_r19)))))))))))))))))) ++ wsX30 ++ wsX10 ++ wsX20 ++ wsX00 ++ ([] : List Cond), w ∈ lw_tbl
  exact List.forall_mem_append.mpr ⟨List.forall_mem_append.mpr ⟨List.forall_mem_append.mpr ⟨List.forall_mem_append.mpr ⟨List.forall_mem_append.mpr ⟨List.forall_mem_append.mpr ⟨in_wsL_law_r1, List.forall_mem_append.mpr ⟨in_wsL_law_r2, List.forall_mem_append.mpr ⟨in_wsL_law_r3, List.forall_mem_append.mpr ⟨in_wsL_law_r4, List.forall_mem_append.mpr ⟨in_wsL_law_r5, List.forall_mem_append.mpr ⟨in_wsL_law_r6, List.forall_mem_append.mpr ⟨in_wsL_law_r7, List.forall_mem_append.mpr ⟨in_wsL_law_r8, List.forall_mem_append.mpr ⟨in_wsL_law_r9, List.forall_mem_append.mpr ⟨in_wsL_law_r10, List.forall_mem_append.mpr ⟨in_wsL_law_r11, List.forall_mem_append.mpr ⟨in_wsL_law_r12, List.forall_mem_append.mpr ⟨in_wsL_law_r13, List.forall_mem_append.mpr ⟨in_wsL_law_r14, List.forall_mem_append.mpr ⟨in_wsL_law_r15, List.forall_mem_append.mpr ⟨in_wsL_law_r16, List.forall_mem_append.mpr ⟨in_wsL_law_r17, List.forall_mem_append.mpr ⟨in_wsL_law_r18, in_wsL_law_r19⟩⟩⟩⟩⟩⟩⟩⟩⟩⟩⟩⟩⟩⟩⟩⟩⟩⟩, inX3⟩, inX1⟩, inX2⟩, inX0⟩, fun _ h => absurd h List.not_mem_nil⟩
theorem inlX0 : ∀ w ∈ wsX00, w ∈ wsL_law := fun _ h => List.mem_append_left _ (List.mem_append_right _ h)
theorem inlX1 : ∀ w ∈ wsX10, w ∈ wsL_law := fun _ h => List.mem_append_left _ (List.mem_append_left _ (List.mem_append_left _ (List.mem_append_right _ h)))
theorem inlX2 : ∀ w ∈ wsX20, w ∈ wsL_law := fun _ h => List.mem_append_left _ (List.mem_append_left _ (List.mem_append_right _ h))
theorem inlX3 : ∀ w ∈ wsX30, w ∈ wsL_law := fun _ h => List.mem_append_left _ (List.mem_append_left _ (List.mem_append_left _ (List.mem_append_left _ (List.mem_append_right _ h))))
theorem inJ9 : ∀ w ∈ wsJ90, w ∈ lw_tbl := by decide +kernel
theorem inJ10 : ∀ w ∈ wsJ100, w ∈ lw_tbl := by decide +kernel
theorem inJ7 : ∀ w ∈ wsJ70, w ∈ lw_tbl := by decide +kernel
set_option maxRecDepth 20000 in
theorem ggX0_init_X1_init : GoodIn wsX0_init wsX1_init := goodIn_r _ [10, 11, 2, 3, 12, 13, 14, 15, 16, 17, 18, 19, 20, 21, 22, 23, 24, 25, 26, 27, 28, 29, 30, 31, 32, 33, 34, 35, 36, 37, 38, 39, 40, 41, 42, 43] (by decide +kernel) (by decide +kernel)
set_option maxRecDepth 20000 in
theorem gX0_init_X1_init : GoodIn wsX0_init (wsX1_init) := ggX0_init_X1_init
theorem dX0_init_0 : decode cX0_init 0 = .ok (.aload_n 0, 1) := by decide +kernel
theorem dX0_init_1 : decode cX0_init 1 = .ok (.invokespecial 3, 3) := by decide +kernel
theorem dX0_init_4 : decode cX0_init 4 = .ok (.aload_n 0, 1) := by decide +kernel
theorem dX0_init_5 : decode cX0_init 5 = .ok (.new 9, 3) := by decide +kernel
theorem dX0_init_8 : decode cX0_init 8 = .ok (.dup, 1) := by decide +kernel
theorem dX0_init_9 : decode cX0_init 9 = .ok (.invokespecial 11, 3) := by decide +kernel
theorem dX0_init_12 : decode cX0_init 12 = .ok (.putfield 12, 3) := by decide +kernel
theorem dX0_init_15 : decode cX0_init 15 = .ok (.return_, 1) := by decide +kernel
set_option maxRecDepth 20000 in
theorem ggX0_tryOn_X1_copyFrom : GoodIn wsX0_tryOn wsX1_copyFrom := goodIn_r _ [11, 12, 13, 14, 15, 16, 17, 18, 19, 20, 21, 22, 23, 24, 25, 26, 27, 28, 171, 172, 173, 174, 175, 176, 177, 178, 179, 180, 181, 182, 183, 184, 185] (by decide +kernel) (by decide +kernel)
set_option maxRecDepth 20000 in
theorem gX0_tryOn_X1_copyFrom : GoodIn wsX0_tryOn (wsV RX0 18 RX1 yX1_copyFrom wsX1_copyFrom) := goodIn_app (goodIn_of _ (by decide +kernel)) ggX0_tryOn_X1_copyFrom
set_option maxRecDepth 20000 in
theorem ggX0_tryOn_X0_readOrder : GoodIn wsX0_tryOn wsX0_readOrder := goodIn_r _ [33, 4, 34, 35, 36, 37, 38, 39, 40, 41, 42, 43, 44, 45, 46, 47, 48, 49, 50, 51, 52, 32, 53, 6, 54, 55, 56, 57, 3, 58, 59, 60, 61, 62, 63, 64, 65, 66, 157, 158, 159, 160, 161, 162, 163, 164, 165, 166, 167, 168, 169, 170] (by decide +kernel) (by decide +kernel)
set_option maxRecDepth 20000 in
theorem gX0_tryOn_X0_readOrder : GoodIn wsX0_tryOn (wsV RX0 40 RX0 yX0_readOrder wsX0_readOrder) := goodIn_app (goodIn_of _ (by decide +kernel)) ggX0_tryOn_X0_readOrder
set_option maxRecDepth 20000 in
theorem ggX0_tryOn_X0_checkRanges : GoodIn wsX0_tryOn wsX0_checkRanges := goodIn_r _ [70, 35, 36, 37, 38, 54, 55, 56, 32, 57, 3, 58, 157, 158, 159, 160, 161, 162, 163, 164, 165, 166, 167, 168] (by decide +kernel) (by decide +kernel)
set_option maxRecDepth 20000 in
theorem gX0_tryOn_X0_checkRanges : GoodIn wsX0_tryOn (wsV RX0 44 RX0 yX0_checkRanges wsX0_checkRanges) := goodIn_app (goodIn_of _ (by decide +kernel)) ggX0_tryOn_X0_checkRanges
set_option maxRecDepth 20000 in
theorem ggX0_tryOn_X0_carryOut : GoodIn wsX0_tryOn wsX0_carryOut := goodIn_r _ [74, 3, 1, 39, 34, 35, 36, 37, 75, 76, 77, 10, 78, 12, 79, 80, 81, 32, 82, 83, 84, 85, 86, 87, 88, 89, 90, 91, 17, 47, 48, 49, 92, 93, 94, 95, 96, 97, 98, 99, 19, 100, 101, 102, 103, 104, 20, 54, 55, 56, 57, 58, 105, 106, 107, 108, 21, 109, 110, 111, 112, 113, 114, 115, 116, 18, 22, 117, 118, 119, 120, 121, 122, 123, 124, 125, 126, 127, 27, 23, 24, 25, 26, 13, 14, 15, 16, 28, 128, 129, 130, 131, 132, 133, 134, 135, 136, 137, 138, 139, 140, 141, 142, 143, 144, 145, 146, 147, 148, 149, 150, 151, 152, 153, 154, 155, 156, 157, 158, 159, 160, 161, 162, 163, 164, 165, 166, 167, 168, 171, 172, 173, 174, 175, 176, 177, 178, 179, 180, 181, 182, 183, 184, 185] (by decide +kernel) (by decide +kernel)
set_option maxRecDepth 20000 in
theorem gX0_tryOn_X0_carryOut : GoodIn wsX0_tryOn (wsV RX0 47 RX0 yX0_carryOut wsX0_carryOut) := goodIn_app (goodIn_of _ (by decide +kernel)) ggX0_tryOn_X0_carryOut
theorem dX0_tryOn_0 : decode cX0_tryOn 0 = .ok (.aload_n 0, 1) := by decide +kernel
theorem dX0_tryOn_1 : decode cX0_tryOn 1 = .ok (.getfield 12, 3) := by decide +kernel
theorem dX0_tryOn_4 : decode cX0_tryOn 4 = .ok (.aload_n 1, 1) := by decide +kernel
theorem dX0_tryOn_5 : decode cX0_tryOn 5 = .ok (.invokevirtual 18, 3) := by decide +kernel
theorem dX0_tryOn_8 : decode cX0_tryOn 8 = .ok (.aload_n 0, 1) := by decide +kernel
theorem dX0_tryOn_9 : decode cX0_tryOn 9 = .ok (.iconst 0, 1) := by decide +kernel
theorem dX0_tryOn_10 : decode cX0_tryOn 10 = .ok (.putfield 22, 3) := by decide +kernel
theorem dX0_tryOn_13 : decode cX0_tryOn 13 = .ok (.aload_n 0, 1) := by decide +kernel
theorem dX0_tryOn_14 : decode cX0_tryOn 14 = .ok (.iconst 0, 1) := by decide +kernel
theorem dX0_tryOn_15 : decode cX0_tryOn 15 = .ok (.putfield 26, 3) := by decide +kernel
theorem dX0_tryOn_18 : decode cX0_tryOn 18 = .ok (.aload_n 0, 1) := by decide +kernel
theorem dX0_tryOn_19 : decode cX0_tryOn 19 = .ok (.iconst 0, 1) := by decide +kernel
theorem dX0_tryOn_20 : decode cX0_tryOn 20 = .ok (.putfield 29, 3) := by decide +kernel
theorem dX0_tryOn_23 : decode cX0_tryOn 23 = .ok (.iconst 0, 1) := by decide +kernel
theorem dX0_tryOn_24 : decode cX0_tryOn 24 = .ok (.istore_n 3, 1) := by decide +kernel
theorem dX0_tryOn_25 : decode cX0_tryOn 25 = .ok (.iload_n 3, 1) := by decide +kernel
theorem dX0_tryOn_26 : decode cX0_tryOn 26 = .ok (.bipush 60, 2) := by decide +kernel
theorem dX0_tryOn_28 : decode cX0_tryOn 28 = .ok (.if_icmp .ge 59, 3) := by decide +kernel
theorem dX0_tryOn_31 : decode cX0_tryOn 31 = .ok (.aload_n 0, 1) := by decide +kernel
theorem dX0_tryOn_32 : decode cX0_tryOn 32 = .ok (.getfield 29, 3) := by decide +kernel
theorem dX0_tryOn_35 : decode cX0_tryOn 35 = .ok (.aload_n 2, 1) := by decide +kernel
theorem dX0_tryOn_36 : decode cX0_tryOn 36 = .ok (.getfield 32, 3) := by decide +kernel
theorem dX0_tryOn_39 : decode cX0_tryOn 39 = .ok (.if_icmp .ge 48, 3) := by decide +kernel
theorem dX0_tryOn_42 : decode cX0_tryOn 42 = .ok (.aload_n 0, 1) := by decide +kernel
theorem dX0_tryOn_43 : decode cX0_tryOn 43 = .ok (.aload_n 0, 1) := by decide +kernel
theorem dX0_tryOn_44 : decode cX0_tryOn 44 = .ok (.getfield 29, 3) := by decide +kernel
theorem dX0_tryOn_47 : decode cX0_tryOn 47 = .ok (.putfield 37, 3) := by decide +kernel
theorem dX0_tryOn_50 : decode cX0_tryOn 50 = .ok (.aload_n 0, 1) := by decide +kernel
theorem dX0_tryOn_51 : decode cX0_tryOn 51 = .ok (.aload_n 2, 1) := by decide +kernel
theorem dX0_tryOn_52 : decode cX0_tryOn 52 = .ok (.invokevirtual 40, 3) := by decide +kernel
theorem dX0_tryOn_55 : decode cX0_tryOn 55 = .ok (.aload_n 0, 1) := by decide +kernel
theorem dX0_tryOn_56 : decode cX0_tryOn 56 = .ok (.invokevirtual 44, 3) := by decide +kernel
theorem dX0_tryOn_59 : decode cX0_tryOn 59 = .ok (.aload_n 0, 1) := by decide +kernel
theorem dX0_tryOn_60 : decode cX0_tryOn 60 = .ok (.invokevirtual 47, 3) := by decide +kernel
theorem dX0_tryOn_63 : decode cX0_tryOn 63 = .ok (.aload_n 0, 1) := by decide +kernel
theorem dX0_tryOn_64 : decode cX0_tryOn 64 = .ok (.getfield 26, 3) := by decide +kernel
theorem dX0_tryOn_67 : decode cX0_tryOn 67 = .ok (.ifCond .eq 4, 3) := by decide +kernel
theorem dX0_tryOn_70 : decode cX0_tryOn 70 = .ok (.return_, 1) := by decide +kernel
theorem dX0_tryOn_71 : decode cX0_tryOn 71 = .ok (.aload_n 0, 1) := by decide +kernel
theorem dX0_tryOn_72 : decode cX0_tryOn 72 = .ok (.dup, 1) := by decide +kernel
theorem dX0_tryOn_73 : decode cX0_tryOn 73 = .ok (.getfield 22, 3) := by decide +kernel
theorem dX0_tryOn_76 : decode cX0_tryOn 76 = .ok (.iconst 1, 1) := by decide +kernel
theorem dX0_tryOn_77 : decode cX0_tryOn 77 = .ok (.iadd, 1) := by decide +kernel
theorem dX0_tryOn_78 : decode cX0_tryOn 78 = .ok (.putfield 22, 3) := by decide +kernel
theorem dX0_tryOn_81 : decode cX0_tryOn 81 = .ok (.iinc 3 1, 3) := by decide +kernel
theorem dX0_tryOn_84 : decode cX0_tryOn 84 = .ok (.goto (-59), 3) := by decide +kernel
theorem dX0_tryOn_87 : decode cX0_tryOn 87 = .ok (.return_, 1) := by decide +kernel
set_option maxRecDepth 20000 in
theorem ggX0_readOrder_X2_signAt : GoodIn wsX0_readOrder wsX2_signAt := goodIn_r _ [12, 13, 14, 15, 16, 17, 50, 51] (by decide +kernel) (by decide +kernel)
set_option maxRecDepth 20000 in
theorem gX0_readOrder_X2_signAt : GoodIn wsX0_readOrder (wsV RX0 50 RX2 yX2_signAt wsX2_signAt) := goodIn_app (goodIn_of _ (by decide +kernel)) ggX0_readOrder_X2_signAt
set_option maxRecDepth 20000 in
theorem ggX0_readOrder_X0_readLetters : GoodIn wsX0_readOrder wsX0_readLetters := goodIn_r _ [22, 1, 6, 7, 23, 8, 9, 10, 11, 12, 13, 14, 15, 16, 17, 24, 25, 26, 21, 27, 28, 29, 38, 39, 40, 41, 42, 43, 44, 45, 46, 47, 48, 49, 50, 51] (by decide +kernel) (by decide +kernel)
set_option maxRecDepth 20000 in
theorem gX0_readOrder_X0_readLetters : GoodIn wsX0_readOrder (wsV RX0 73 RX0 yX0_readLetters wsX0_readLetters) := goodIn_app (goodIn_of _ (by decide +kernel)) ggX0_readOrder_X0_readLetters
set_option maxRecDepth 20000 in
theorem ggX0_readOrder_X0_readDigit : GoodIn wsX0_readOrder wsX0_readDigit := goodIn_r _ [33, 1, 23, 8, 9, 10, 11, 12, 13, 14, 15, 16, 17, 24, 25, 26, 21, 27, 28, 29, 38, 39, 40, 41, 42, 43, 44, 45, 46, 47, 48, 49, 50, 51] (by decide +kernel) (by decide +kernel)
set_option maxRecDepth 20000 in
theorem gX0_readOrder_X0_readDigit : GoodIn wsX0_readOrder (wsV RX0 76 RX0 yX0_readDigit wsX0_readDigit) := goodIn_app (goodIn_of _ (by decide +kernel)) ggX0_readOrder_X0_readDigit
set_option maxRecDepth 20000 in
theorem ggX0_readOrder_X0_readSign : GoodIn wsX0_readOrder wsX0_readSign := goodIn_r _ [37, 1, 23, 8, 9, 10, 11, 12, 13, 14, 15, 16, 17, 24, 25, 26, 21, 27, 28, 29, 38, 39, 40, 41, 42, 43, 44, 45, 46, 47, 48, 49, 50, 51] (by decide +kernel) (by decide +kernel)
set_option maxRecDepth 20000 in
theorem gX0_readOrder_X0_readSign : GoodIn wsX0_readOrder (wsV RX0 80 RX0 yX0_readSign wsX0_readSign) := goodIn_app (goodIn_of _ (by decide +kernel)) ggX0_readOrder_X0_readSign
set_option maxRecDepth 20000 in
theorem ggX0_readOrder_X0_fail : GoodIn wsX0_readOrder wsX0_fail := goodIn_r _ [27, 28, 29, 38, 39, 40, 41, 42, 43, 44, 45, 46, 47, 48, 49] (by decide +kernel) (by decide +kernel)
set_option maxRecDepth 20000 in
theorem gX0_readOrder_X0_fail : GoodIn wsX0_readOrder (wsV RX0 84 RX0 yX0_fail wsX0_fail) := goodIn_app (goodIn_of _ (by decide +kernel)) ggX0_readOrder_X0_fail
theorem dX0_readOrder_0 : decode cX0_readOrder 0 = .ok (.aload_n 0, 1) := by decide +kernel
theorem dX0_readOrder_1 : decode cX0_readOrder 1 = .ok (.aload_n 1, 1) := by decide +kernel
theorem dX0_readOrder_2 : decode cX0_readOrder 2 = .ok (.aload_n 0, 1) := by decide +kernel
theorem dX0_readOrder_3 : decode cX0_readOrder 3 = .ok (.getfield 29, 3) := by decide +kernel
theorem dX0_readOrder_6 : decode cX0_readOrder 6 = .ok (.invokevirtual 50, 3) := by decide +kernel
theorem dX0_readOrder_9 : decode cX0_readOrder 9 = .ok (.putfield 54, 3) := by decide +kernel
theorem dX0_readOrder_12 : decode cX0_readOrder 12 = .ok (.aload_n 0, 1) := by decide +kernel
theorem dX0_readOrder_13 : decode cX0_readOrder 13 = .ok (.iconst 0, 1) := by decide +kernel
theorem dX0_readOrder_14 : decode cX0_readOrder 14 = .ok (.putfield 58, 3) := by decide +kernel
theorem dX0_readOrder_17 : decode cX0_readOrder 17 = .ok (.aload_n 0, 1) := by decide +kernel
theorem dX0_readOrder_18 : decode cX0_readOrder 18 = .ok (.iconst 0, 1) := by decide +kernel
theorem dX0_readOrder_19 : decode cX0_readOrder 19 = .ok (.putfield 61, 3) := by decide +kernel
theorem dX0_readOrder_22 : decode cX0_readOrder 22 = .ok (.aload_n 0, 1) := by decide +kernel
theorem dX0_readOrder_23 : decode cX0_readOrder 23 = .ok (.iconst 0, 1) := by decide +kernel
theorem dX0_readOrder_24 : decode cX0_readOrder 24 = .ok (.putfield 64, 3) := by decide +kernel
theorem dX0_readOrder_27 : decode cX0_readOrder 27 = .ok (.aload_n 0, 1) := by decide +kernel
theorem dX0_readOrder_28 : decode cX0_readOrder 28 = .ok (.iconst 0, 1) := by decide +kernel
theorem dX0_readOrder_29 : decode cX0_readOrder 29 = .ok (.putfield 67, 3) := by decide +kernel
theorem dX0_readOrder_32 : decode cX0_readOrder 32 = .ok (.aload_n 0, 1) := by decide +kernel
theorem dX0_readOrder_33 : decode cX0_readOrder 33 = .ok (.iconst 0, 1) := by decide +kernel
theorem dX0_readOrder_34 : decode cX0_readOrder 34 = .ok (.putfield 70, 3) := by decide +kernel
theorem dX0_readOrder_37 : decode cX0_readOrder 37 = .ok (.aload_n 0, 1) := by decide +kernel
theorem dX0_readOrder_38 : decode cX0_readOrder 38 = .ok (.getfield 54, 3) := by decide +kernel
theorem dX0_readOrder_41 : decode cX0_readOrder 41 = .ok (.lookupswitch 133 #[(33, 111), (43, 43), (45, 43), (61, 61)], 43) := by decide +kernel
theorem dX0_readOrder_84 : decode cX0_readOrder 84 = .ok (.aload_n 0, 1) := by decide +kernel
theorem dX0_readOrder_85 : decode cX0_readOrder 85 = .ok (.dup, 1) := by decide +kernel
theorem dX0_readOrder_86 : decode cX0_readOrder 86 = .ok (.getfield 29, 3) := by decide +kernel
theorem dX0_readOrder_89 : decode cX0_readOrder 89 = .ok (.iconst 1, 1) := by decide +kernel
theorem dX0_readOrder_90 : decode cX0_readOrder 90 = .ok (.iadd, 1) := by decide +kernel
theorem dX0_readOrder_91 : decode cX0_readOrder 91 = .ok (.putfield 29, 3) := by decide +kernel
theorem dX0_readOrder_94 : decode cX0_readOrder 94 = .ok (.aload_n 0, 1) := by decide +kernel
theorem dX0_readOrder_95 : decode cX0_readOrder 95 = .ok (.aload_n 1, 1) := by decide +kernel
theorem dX0_readOrder_96 : decode cX0_readOrder 96 = .ok (.invokevirtual 73, 3) := by decide +kernel
theorem dX0_readOrder_99 : decode cX0_readOrder 99 = .ok (.goto 81, 3) := by decide +kernel
theorem dX0_readOrder_102 : decode cX0_readOrder 102 = .ok (.aload_n 0, 1) := by decide +kernel
theorem dX0_readOrder_103 : decode cX0_readOrder 103 = .ok (.dup, 1) := by decide +kernel
theorem dX0_readOrder_104 : decode cX0_readOrder 104 = .ok (.getfield 29, 3) := by decide +kernel
theorem dX0_readOrder_107 : decode cX0_readOrder 107 = .ok (.iconst 1, 1) := by decide +kernel
theorem dX0_readOrder_108 : decode cX0_readOrder 108 = .ok (.iadd, 1) := by decide +kernel
theorem dX0_readOrder_109 : decode cX0_readOrder 109 = .ok (.putfield 29, 3) := by decide +kernel
theorem dX0_readOrder_112 : decode cX0_readOrder 112 = .ok (.aload_n 0, 1) := by decide +kernel
theorem dX0_readOrder_113 : decode cX0_readOrder 113 = .ok (.aload_n 0, 1) := by decide +kernel
theorem dX0_readOrder_114 : decode cX0_readOrder 114 = .ok (.aload_n 1, 1) := by decide +kernel
theorem dX0_readOrder_115 : decode cX0_readOrder 115 = .ok (.invokevirtual 76, 3) := by decide +kernel
theorem dX0_readOrder_118 : decode cX0_readOrder 118 = .ok (.putfield 58, 3) := by decide +kernel
theorem dX0_readOrder_121 : decode cX0_readOrder 121 = .ok (.aload_n 0, 1) := by decide +kernel
theorem dX0_readOrder_122 : decode cX0_readOrder 122 = .ok (.aload_n 1, 1) := by decide +kernel
theorem dX0_readOrder_123 : decode cX0_readOrder 123 = .ok (.bipush 44, 2) := by decide +kernel
theorem dX0_readOrder_125 : decode cX0_readOrder 125 = .ok (.invokevirtual 80, 3) := by decide +kernel
theorem dX0_readOrder_128 : decode cX0_readOrder 128 = .ok (.aload_n 0, 1) := by decide +kernel
theorem dX0_readOrder_129 : decode cX0_readOrder 129 = .ok (.aload_n 0, 1) := by decide +kernel
theorem dX0_readOrder_130 : decode cX0_readOrder 130 = .ok (.aload_n 1, 1) := by decide +kernel
theorem dX0_readOrder_131 : decode cX0_readOrder 131 = .ok (.invokevirtual 76, 3) := by decide +kernel
theorem dX0_readOrder_134 : decode cX0_readOrder 134 = .ok (.putfield 61, 3) := by decide +kernel
theorem dX0_readOrder_137 : decode cX0_readOrder 137 = .ok (.aload_n 0, 1) := by decide +kernel
theorem dX0_readOrder_138 : decode cX0_readOrder 138 = .ok (.aload_n 1, 1) := by decide +kernel
theorem dX0_readOrder_139 : decode cX0_readOrder 139 = .ok (.bipush 44, 2) := by decide +kernel
theorem dX0_readOrder_141 : decode cX0_readOrder 141 = .ok (.invokevirtual 80, 3) := by decide +kernel
theorem dX0_readOrder_144 : decode cX0_readOrder 144 = .ok (.aload_n 0, 1) := by decide +kernel
theorem dX0_readOrder_145 : decode cX0_readOrder 145 = .ok (.aload_n 1, 1) := by decide +kernel
theorem dX0_readOrder_146 : decode cX0_readOrder 146 = .ok (.invokevirtual 73, 3) := by decide +kernel
theorem dX0_readOrder_149 : decode cX0_readOrder 149 = .ok (.goto 31, 3) := by decide +kernel
theorem dX0_readOrder_152 : decode cX0_readOrder 152 = .ok (.aload_n 0, 1) := by decide +kernel
theorem dX0_readOrder_153 : decode cX0_readOrder 153 = .ok (.dup, 1) := by decide +kernel
theorem dX0_readOrder_154 : decode cX0_readOrder 154 = .ok (.getfield 29, 3) := by decide +kernel
theorem dX0_readOrder_157 : decode cX0_readOrder 157 = .ok (.iconst 1, 1) := by decide +kernel
theorem dX0_readOrder_158 : decode cX0_readOrder 158 = .ok (.iadd, 1) := by decide +kernel
theorem dX0_readOrder_159 : decode cX0_readOrder 159 = .ok (.putfield 29, 3) := by decide +kernel
theorem dX0_readOrder_162 : decode cX0_readOrder 162 = .ok (.aload_n 0, 1) := by decide +kernel
theorem dX0_readOrder_163 : decode cX0_readOrder 163 = .ok (.aload_n 0, 1) := by decide +kernel
theorem dX0_readOrder_164 : decode cX0_readOrder 164 = .ok (.aload_n 1, 1) := by decide +kernel
theorem dX0_readOrder_165 : decode cX0_readOrder 165 = .ok (.invokevirtual 76, 3) := by decide +kernel
theorem dX0_readOrder_168 : decode cX0_readOrder 168 = .ok (.putfield 64, 3) := by decide +kernel
theorem dX0_readOrder_171 : decode cX0_readOrder 171 = .ok (.goto 9, 3) := by decide +kernel
theorem dX0_readOrder_174 : decode cX0_readOrder 174 = .ok (.aload_n 0, 1) := by decide +kernel
theorem dX0_readOrder_175 : decode cX0_readOrder 175 = .ok (.iconst 1, 1) := by decide +kernel
theorem dX0_readOrder_176 : decode cX0_readOrder 176 = .ok (.iconst 0, 1) := by decide +kernel
theorem dX0_readOrder_177 : decode cX0_readOrder 177 = .ok (.invokevirtual 84, 3) := by decide +kernel
theorem dX0_readOrder_180 : decode cX0_readOrder 180 = .ok (.aload_n 0, 1) := by decide +kernel
theorem dX0_readOrder_181 : decode cX0_readOrder 181 = .ok (.aload_n 1, 1) := by decide +kernel
theorem dX0_readOrder_182 : decode cX0_readOrder 182 = .ok (.bipush 59, 2) := by decide +kernel
theorem dX0_readOrder_184 : decode cX0_readOrder 184 = .ok (.invokevirtual 80, 3) := by decide +kernel
theorem dX0_readOrder_187 : decode cX0_readOrder 187 = .ok (.return_, 1) := by decide +kernel
set_option maxRecDepth 20000 in
theorem ggX0_readDigit_X2_signAt : GoodIn wsX0_readDigit wsX2_signAt := goodIn_r _ [7, 8, 9, 10, 11, 12, 32, 33] (by decide +kernel) (by decide +kernel)
set_option maxRecDepth 20000 in
theorem gX0_readDigit_X2_signAt : GoodIn wsX0_readDigit (wsV RX0 50 RX2 yX2_signAt wsX2_signAt) := goodIn_app (goodIn_of _ (by decide +kernel)) ggX0_readDigit_X2_signAt
set_option maxRecDepth 20000 in
theorem ggX0_readDigit_X0_fail : GoodIn wsX0_readDigit wsX0_fail := goodIn_r _ [17, 18, 19, 20, 21, 22, 23, 24, 25, 26, 27, 28, 29, 30, 31] (by decide +kernel) (by decide +kernel)
set_option maxRecDepth 20000 in
theorem gX0_readDigit_X0_fail : GoodIn wsX0_readDigit (wsV RX0 84 RX0 yX0_fail wsX0_fail) := goodIn_app (goodIn_of _ (by decide +kernel)) ggX0_readDigit_X0_fail
theorem dX0_readDigit_0 : decode cX0_readDigit 0 = .ok (.aload_n 1, 1) := by decide +kernel
theorem dX0_readDigit_1 : decode cX0_readDigit 1 = .ok (.aload_n 0, 1) := by decide +kernel
theorem dX0_readDigit_2 : decode cX0_readDigit 2 = .ok (.getfield 29, 3) := by decide +kernel
theorem dX0_readDigit_5 : decode cX0_readDigit 5 = .ok (.invokevirtual 50, 3) := by decide +kernel
theorem dX0_readDigit_8 : decode cX0_readDigit 8 = .ok (.istore_n 2, 1) := by decide +kernel
theorem dX0_readDigit_9 : decode cX0_readDigit 9 = .ok (.iload_n 2, 1) := by decide +kernel
theorem dX0_readDigit_10 : decode cX0_readDigit 10 = .ok (.bipush 48, 2) := by decide +kernel
theorem dX0_readDigit_12 : decode cX0_readDigit 12 = .ok (.if_icmp .lt 9, 3) := by decide +kernel
theorem dX0_readDigit_15 : decode cX0_readDigit 15 = .ok (.iload_n 2, 1) := by decide +kernel
theorem dX0_readDigit_16 : decode cX0_readDigit 16 = .ok (.bipush 57, 2) := by decide +kernel
theorem dX0_readDigit_18 : decode cX0_readDigit 18 = .ok (.if_icmp .le 19, 3) := by decide +kernel
theorem dX0_readDigit_21 : decode cX0_readDigit 21 = .ok (.aload_n 0, 1) := by decide +kernel
theorem dX0_readDigit_22 : decode cX0_readDigit 22 = .ok (.iconst 1, 1) := by decide +kernel
theorem dX0_readDigit_23 : decode cX0_readDigit 23 = .ok (.aload_n 0, 1) := by decide +kernel
theorem dX0_readDigit_24 : decode cX0_readDigit 24 = .ok (.getfield 29, 3) := by decide +kernel
theorem dX0_readDigit_27 : decode cX0_readDigit 27 = .ok (.aload_n 0, 1) := by decide +kernel
theorem dX0_readDigit_28 : decode cX0_readDigit 28 = .ok (.getfield 37, 3) := by decide +kernel
theorem dX0_readDigit_31 : decode cX0_readDigit 31 = .ok (.isub, 1) := by decide +kernel
theorem dX0_readDigit_32 : decode cX0_readDigit 32 = .ok (.invokevirtual 84, 3) := by decide +kernel
theorem dX0_readDigit_35 : decode cX0_readDigit 35 = .ok (.iconst 0, 1) := by decide +kernel
theorem dX0_readDigit_36 : decode cX0_readDigit 36 = .ok (.ireturn, 1) := by decide +kernel
theorem dX0_readDigit_37 : decode cX0_readDigit 37 = .ok (.aload_n 0, 1) := by decide +kernel
theorem dX0_readDigit_38 : decode cX0_readDigit 38 = .ok (.dup, 1) := by decide +kernel
theorem dX0_readDigit_39 : decode cX0_readDigit 39 = .ok (.getfield 29, 3) := by decide +kernel
theorem dX0_readDigit_42 : decode cX0_readDigit 42 = .ok (.iconst 1, 1) := by decide +kernel
theorem dX0_readDigit_43 : decode cX0_readDigit 43 = .ok (.iadd, 1) := by decide +kernel
theorem dX0_readDigit_44 : decode cX0_readDigit 44 = .ok (.putfield 29, 3) := by decide +kernel
theorem dX0_readDigit_47 : decode cX0_readDigit 47 = .ok (.iload_n 2, 1) := by decide +kernel
theorem dX0_readDigit_48 : decode cX0_readDigit 48 = .ok (.bipush 48, 2) := by decide +kernel
theorem dX0_readDigit_50 : decode cX0_readDigit 50 = .ok (.isub, 1) := by decide +kernel
theorem dX0_readDigit_51 : decode cX0_readDigit 51 = .ok (.ireturn, 1) := by decide +kernel
set_option maxRecDepth 20000 in
theorem ggX0_readSign_X2_signAt : GoodIn wsX0_readSign wsX2_signAt := goodIn_r _ [7, 8, 9, 10, 11, 12, 32, 33] (by decide +kernel) (by decide +kernel)
set_option maxRecDepth 20000 in
theorem gX0_readSign_X2_signAt : GoodIn wsX0_readSign (wsV RX0 50 RX2 yX2_signAt wsX2_signAt) := goodIn_app (goodIn_of _ (by decide +kernel)) ggX0_readSign_X2_signAt
set_option maxRecDepth 20000 in
theorem ggX0_readSign_X0_fail : GoodIn wsX0_readSign wsX0_fail := goodIn_r _ [17, 18, 19, 20, 21, 22, 23, 24, 25, 26, 27, 28, 29, 30, 31] (by decide +kernel) (by decide +kernel)
set_option maxRecDepth 20000 in
theorem gX0_readSign_X0_fail : GoodIn wsX0_readSign (wsV RX0 84 RX0 yX0_fail wsX0_fail) := goodIn_app (goodIn_of _ (by decide +kernel)) ggX0_readSign_X0_fail
theorem dX0_readSign_0 : decode cX0_readSign 0 = .ok (.aload_n 1, 1) := by decide +kernel
theorem dX0_readSign_1 : decode cX0_readSign 1 = .ok (.aload_n 0, 1) := by decide +kernel
theorem dX0_readSign_2 : decode cX0_readSign 2 = .ok (.getfield 29, 3) := by decide +kernel
theorem dX0_readSign_5 : decode cX0_readSign 5 = .ok (.invokevirtual 50, 3) := by decide +kernel
theorem dX0_readSign_8 : decode cX0_readSign 8 = .ok (.iload_n 2, 1) := by decide +kernel
theorem dX0_readSign_9 : decode cX0_readSign 9 = .ok (.if_icmp .eq 18, 3) := by decide +kernel
theorem dX0_readSign_12 : decode cX0_readSign 12 = .ok (.aload_n 0, 1) := by decide +kernel
theorem dX0_readSign_13 : decode cX0_readSign 13 = .ok (.iconst 1, 1) := by decide +kernel
theorem dX0_readSign_14 : decode cX0_readSign 14 = .ok (.aload_n 0, 1) := by decide +kernel
theorem dX0_readSign_15 : decode cX0_readSign 15 = .ok (.getfield 29, 3) := by decide +kernel
theorem dX0_readSign_18 : decode cX0_readSign 18 = .ok (.aload_n 0, 1) := by decide +kernel
theorem dX0_readSign_19 : decode cX0_readSign 19 = .ok (.getfield 37, 3) := by decide +kernel
theorem dX0_readSign_22 : decode cX0_readSign 22 = .ok (.isub, 1) := by decide +kernel
theorem dX0_readSign_23 : decode cX0_readSign 23 = .ok (.invokevirtual 84, 3) := by decide +kernel
theorem dX0_readSign_26 : decode cX0_readSign 26 = .ok (.return_, 1) := by decide +kernel
theorem dX0_readSign_27 : decode cX0_readSign 27 = .ok (.aload_n 0, 1) := by decide +kernel
theorem dX0_readSign_28 : decode cX0_readSign 28 = .ok (.dup, 1) := by decide +kernel
theorem dX0_readSign_29 : decode cX0_readSign 29 = .ok (.getfield 29, 3) := by decide +kernel
theorem dX0_readSign_32 : decode cX0_readSign 32 = .ok (.iconst 1, 1) := by decide +kernel
theorem dX0_readSign_33 : decode cX0_readSign 33 = .ok (.iadd, 1) := by decide +kernel
theorem dX0_readSign_34 : decode cX0_readSign 34 = .ok (.putfield 29, 3) := by decide +kernel
theorem dX0_readSign_37 : decode cX0_readSign 37 = .ok (.return_, 1) := by decide +kernel
set_option maxRecDepth 20000 in
theorem ggX0_readLetters_X2_signAt : GoodIn wsX0_readLetters wsX2_signAt := goodIn_r _ [9, 10, 11, 12, 13, 14, 34, 35] (by decide +kernel) (by decide +kernel)
set_option maxRecDepth 20000 in
theorem gX0_readLetters_X2_signAt : GoodIn wsX0_readLetters (wsV RX0 50 RX2 yX2_signAt wsX2_signAt) := goodIn_app (goodIn_of _ (by decide +kernel)) ggX0_readLetters_X2_signAt
set_option maxRecDepth 20000 in
theorem ggX0_readLetters_X0_fail : GoodIn wsX0_readLetters wsX0_fail := goodIn_r _ [19, 20, 21, 22, 23, 24, 25, 26, 27, 28, 29, 30, 31, 32, 33] (by decide +kernel) (by decide +kernel)
set_option maxRecDepth 20000 in
theorem gX0_readLetters_X0_fail : GoodIn wsX0_readLetters (wsV RX0 84 RX0 yX0_fail wsX0_fail) := goodIn_app (goodIn_of _ (by decide +kernel)) ggX0_readLetters_X0_fail
theorem dX0_readLetters_0 : decode cX0_readLetters 0 = .ok (.iconst 0, 1) := by decide +kernel
theorem dX0_readLetters_1 : decode cX0_readLetters 1 = .ok (.istore_n 2, 1) := by decide +kernel
theorem dX0_readLetters_2 : decode cX0_readLetters 2 = .ok (.iload_n 2, 1) := by decide +kernel
theorem dX0_readLetters_3 : decode cX0_readLetters 3 = .ok (.bipush 60, 2) := by decide +kernel
theorem dX0_readLetters_5 : decode cX0_readLetters 5 = .ok (.if_icmp .ge 80, 3) := by decide +kernel
theorem dX0_readLetters_8 : decode cX0_readLetters 8 = .ok (.aload_n 1, 1) := by decide +kernel
theorem dX0_readLetters_9 : decode cX0_readLetters 9 = .ok (.aload_n 0, 1) := by decide +kernel
theorem dX0_readLetters_10 : decode cX0_readLetters 10 = .ok (.getfield 29, 3) := by decide +kernel
theorem dX0_readLetters_13 : decode cX0_readLetters 13 = .ok (.invokevirtual 50, 3) := by decide +kernel
theorem dX0_readLetters_16 : decode cX0_readLetters 16 = .ok (.istore_n 3, 1) := by decide +kernel
theorem dX0_readLetters_17 : decode cX0_readLetters 17 = .ok (.iload_n 3, 1) := by decide +kernel
theorem dX0_readLetters_18 : decode cX0_readLetters 18 = .ok (.bipush 97, 2) := by decide +kernel
theorem dX0_readLetters_20 : decode cX0_readLetters 20 = .ok (.if_icmp .lt 65, 3) := by decide +kernel
theorem dX0_readLetters_23 : decode cX0_readLetters 23 = .ok (.iload_n 3, 1) := by decide +kernel
theorem dX0_readLetters_24 : decode cX0_readLetters 24 = .ok (.bipush 122, 2) := by decide +kernel
theorem dX0_readLetters_26 : decode cX0_readLetters 26 = .ok (.if_icmp .le 6, 3) := by decide +kernel
theorem dX0_readLetters_29 : decode cX0_readLetters 29 = .ok (.goto 56, 3) := by decide +kernel
theorem dX0_readLetters_32 : decode cX0_readLetters 32 = .ok (.aload_n 0, 1) := by decide +kernel
theorem dX0_readLetters_33 : decode cX0_readLetters 33 = .ok (.dup, 1) := by decide +kernel
theorem dX0_readLetters_34 : decode cX0_readLetters 34 = .ok (.getfield 67, 3) := by decide +kernel
theorem dX0_readLetters_37 : decode cX0_readLetters 37 = .ok (.iconst 1, 1) := by decide +kernel
theorem dX0_readLetters_38 : decode cX0_readLetters 38 = .ok (.iadd, 1) := by decide +kernel
theorem dX0_readLetters_39 : decode cX0_readLetters 39 = .ok (.putfield 67, 3) := by decide +kernel
theorem dX0_readLetters_42 : decode cX0_readLetters 42 = .ok (.aload_n 0, 1) := by decide +kernel
theorem dX0_readLetters_43 : decode cX0_readLetters 43 = .ok (.getfield 67, 3) := by decide +kernel
theorem dX0_readLetters_46 : decode cX0_readLetters 46 = .ok (.bipush 6, 2) := by decide +kernel
theorem dX0_readLetters_48 : decode cX0_readLetters 48 = .ok (.if_icmp .gt 21, 3) := by decide +kernel
theorem dX0_readLetters_51 : decode cX0_readLetters 51 = .ok (.aload_n 0, 1) := by decide +kernel
theorem dX0_readLetters_52 : decode cX0_readLetters 52 = .ok (.aload_n 0, 1) := by decide +kernel
theorem dX0_readLetters_53 : decode cX0_readLetters 53 = .ok (.getfield 70, 3) := by decide +kernel
theorem dX0_readLetters_56 : decode cX0_readLetters 56 = .ok (.bipush 27, 2) := by decide +kernel
theorem dX0_readLetters_58 : decode cX0_readLetters 58 = .ok (.imul, 1) := by decide +kernel
theorem dX0_readLetters_59 : decode cX0_readLetters 59 = .ok (.iload_n 3, 1) := by decide +kernel
theorem dX0_readLetters_60 : decode cX0_readLetters 60 = .ok (.bipush 97, 2) := by decide +kernel
theorem dX0_readLetters_62 : decode cX0_readLetters 62 = .ok (.isub, 1) := by decide +kernel
theorem dX0_readLetters_63 : decode cX0_readLetters 63 = .ok (.iconst 1, 1) := by decide +kernel
theorem dX0_readLetters_64 : decode cX0_readLetters 64 = .ok (.iadd, 1) := by decide +kernel
theorem dX0_readLetters_65 : decode cX0_readLetters 65 = .ok (.iadd, 1) := by decide +kernel
theorem dX0_readLetters_66 : decode cX0_readLetters 66 = .ok (.putfield 70, 3) := by decide +kernel
theorem dX0_readLetters_69 : decode cX0_readLetters 69 = .ok (.aload_n 0, 1) := by decide +kernel
theorem dX0_readLetters_70 : decode cX0_readLetters 70 = .ok (.dup, 1) := by decide +kernel
theorem dX0_readLetters_71 : decode cX0_readLetters 71 = .ok (.getfield 29, 3) := by decide +kernel
theorem dX0_readLetters_74 : decode cX0_readLetters 74 = .ok (.iconst 1, 1) := by decide +kernel
theorem dX0_readLetters_75 : decode cX0_readLetters 75 = .ok (.iadd, 1) := by decide +kernel
theorem dX0_readLetters_76 : decode cX0_readLetters 76 = .ok (.putfield 29, 3) := by decide +kernel
theorem dX0_readLetters_79 : decode cX0_readLetters 79 = .ok (.iinc 2 1, 3) := by decide +kernel
theorem dX0_readLetters_82 : decode cX0_readLetters 82 = .ok (.goto (-80), 3) := by decide +kernel
theorem dX0_readLetters_85 : decode cX0_readLetters 85 = .ok (.aload_n 0, 1) := by decide +kernel
theorem dX0_readLetters_86 : decode cX0_readLetters 86 = .ok (.getfield 67, 3) := by decide +kernel
theorem dX0_readLetters_89 : decode cX0_readLetters 89 = .ok (.ifCond .ne 17, 3) := by decide +kernel
theorem dX0_readLetters_92 : decode cX0_readLetters 92 = .ok (.aload_n 0, 1) := by decide +kernel
theorem dX0_readLetters_93 : decode cX0_readLetters 93 = .ok (.iconst 1, 1) := by decide +kernel
theorem dX0_readLetters_94 : decode cX0_readLetters 94 = .ok (.aload_n 0, 1) := by decide +kernel
theorem dX0_readLetters_95 : decode cX0_readLetters 95 = .ok (.getfield 29, 3) := by decide +kernel
theorem dX0_readLetters_98 : decode cX0_readLetters 98 = .ok (.aload_n 0, 1) := by decide +kernel
theorem dX0_readLetters_99 : decode cX0_readLetters 99 = .ok (.getfield 37, 3) := by decide +kernel
theorem dX0_readLetters_102 : decode cX0_readLetters 102 = .ok (.isub, 1) := by decide +kernel
theorem dX0_readLetters_103 : decode cX0_readLetters 103 = .ok (.invokevirtual 84, 3) := by decide +kernel
theorem dX0_readLetters_106 : decode cX0_readLetters 106 = .ok (.return_, 1) := by decide +kernel
set_option maxRecDepth 20000 in
theorem ggX0_checkRanges_X0_fail : GoodIn wsX0_checkRanges wsX0_fail := goodIn_r _ [9, 10, 11, 12, 13, 14, 15, 16, 17, 18, 19, 20, 21, 22, 23] (by decide +kernel) (by decide +kernel)
set_option maxRecDepth 20000 in
theorem gX0_checkRanges_X0_fail : GoodIn wsX0_checkRanges (wsV RX0 84 RX0 yX0_fail wsX0_fail) := goodIn_app (goodIn_of _ (by decide +kernel)) ggX0_checkRanges_X0_fail
theorem dX0_checkRanges_0 : decode cX0_checkRanges 0 = .ok (.aload_n 0, 1) := by decide +kernel
theorem dX0_checkRanges_1 : decode cX0_checkRanges 1 = .ok (.getfield 58, 3) := by decide +kernel
theorem dX0_checkRanges_4 : decode cX0_checkRanges 4 = .ok (.iconst 3, 1) := by decide +kernel
theorem dX0_checkRanges_5 : decode cX0_checkRanges 5 = .ok (.if_icmp .lt 9, 3) := by decide +kernel
theorem dX0_checkRanges_8 : decode cX0_checkRanges 8 = .ok (.aload_n 0, 1) := by decide +kernel
theorem dX0_checkRanges_9 : decode cX0_checkRanges 9 = .ok (.iconst 2, 1) := by decide +kernel
theorem dX0_checkRanges_10 : decode cX0_checkRanges 10 = .ok (.iconst 0, 1) := by decide +kernel
theorem dX0_checkRanges_11 : decode cX0_checkRanges 11 = .ok (.invokevirtual 84, 3) := by decide +kernel
theorem dX0_checkRanges_14 : decode cX0_checkRanges 14 = .ok (.aload_n 0, 1) := by decide +kernel
theorem dX0_checkRanges_15 : decode cX0_checkRanges 15 = .ok (.getfield 61, 3) := by decide +kernel
theorem dX0_checkRanges_18 : decode cX0_checkRanges 18 = .ok (.bipush 6, 2) := by decide +kernel
theorem dX0_checkRanges_20 : decode cX0_checkRanges 20 = .ok (.if_icmp .lt 9, 3) := by decide +kernel
theorem dX0_checkRanges_23 : decode cX0_checkRanges 23 = .ok (.aload_n 0, 1) := by decide +kernel
theorem dX0_checkRanges_24 : decode cX0_checkRanges 24 = .ok (.iconst 2, 1) := by decide +kernel
theorem dX0_checkRanges_25 : decode cX0_checkRanges 25 = .ok (.iconst 1, 1) := by decide +kernel
theorem dX0_checkRanges_26 : decode cX0_checkRanges 26 = .ok (.invokevirtual 84, 3) := by decide +kernel
theorem dX0_checkRanges_29 : decode cX0_checkRanges 29 = .ok (.aload_n 0, 1) := by decide +kernel
theorem dX0_checkRanges_30 : decode cX0_checkRanges 30 = .ok (.getfield 64, 3) := by decide +kernel
theorem dX0_checkRanges_33 : decode cX0_checkRanges 33 = .ok (.iconst 3, 1) := by decide +kernel
theorem dX0_checkRanges_34 : decode cX0_checkRanges 34 = .ok (.if_icmp .lt 9, 3) := by decide +kernel
theorem dX0_checkRanges_37 : decode cX0_checkRanges 37 = .ok (.aload_n 0, 1) := by decide +kernel
theorem dX0_checkRanges_38 : decode cX0_checkRanges 38 = .ok (.iconst 2, 1) := by decide +kernel
theorem dX0_checkRanges_39 : decode cX0_checkRanges 39 = .ok (.iconst 2, 1) := by decide +kernel
theorem dX0_checkRanges_40 : decode cX0_checkRanges 40 = .ok (.invokevirtual 84, 3) := by decide +kernel
theorem dX0_checkRanges_43 : decode cX0_checkRanges 43 = .ok (.aload_n 0, 1) := by decide +kernel
theorem dX0_checkRanges_44 : decode cX0_checkRanges 44 = .ok (.getfield 67, 3) := by decide +kernel
theorem dX0_checkRanges_47 : decode cX0_checkRanges 47 = .ok (.bipush 6, 2) := by decide +kernel
theorem dX0_checkRanges_49 : decode cX0_checkRanges 49 = .ok (.if_icmp .le 9, 3) := by decide +kernel
theorem dX0_checkRanges_52 : decode cX0_checkRanges 52 = .ok (.aload_n 0, 1) := by decide +kernel
theorem dX0_checkRanges_53 : decode cX0_checkRanges 53 = .ok (.iconst 2, 1) := by decide +kernel
theorem dX0_checkRanges_54 : decode cX0_checkRanges 54 = .ok (.iconst 3, 1) := by decide +kernel
theorem dX0_checkRanges_55 : decode cX0_checkRanges 55 = .ok (.invokevirtual 84, 3) := by decide +kernel
theorem dX0_checkRanges_58 : decode cX0_checkRanges 58 = .ok (.return_, 1) := by decide +kernel
set_option maxRecDepth 20000 in
theorem ggX0_carryOut_X1_numberWith : GoodIn wsX0_carryOut wsX1_numberWith := goodIn_r _ [12, 13, 129, 130, 131, 132, 133, 134, 135, 136, 137, 138, 139, 140, 141, 142, 143] (by decide +kernel) (by decide +kernel)
set_option maxRecDepth 20000 in
theorem gX0_carryOut_X1_numberWith : GoodIn wsX0_carryOut (wsV RX0 88 RX1 yX1_numberWith wsX1_numberWith) := goodIn_app (goodIn_of _ (by decide +kernel)) ggX0_carryOut_X1_numberWith
set_option maxRecDepth 20000 in
theorem ggX0_carryOut_X0_canCarryOut : GoodIn wsX0_carryOut wsX0_canCarryOut := goodIn_r _ [18, 4, 2, 3, 19, 20, 21, 11, 22, 23, 9, 10, 12, 13, 24, 25, 26, 27, 28, 29, 30, 31, 32, 33, 34, 35, 36, 37, 38, 39, 40, 41, 42, 43, 44, 45, 46, 117, 118, 119, 120, 121, 122, 123, 124, 125, 126, 127, 128, 129, 130, 131, 132, 133, 134, 135, 136, 137, 138, 139, 140, 141, 142, 143] (by decide +kernel) (by decide +kernel)
set_option maxRecDepth 20000 in
theorem gX0_carryOut_X0_canCarryOut : GoodIn wsX0_carryOut (wsV RX0 92 RX0 yX0_canCarryOut wsX0_canCarryOut) := goodIn_app (goodIn_of _ (by decide +kernel)) ggX0_carryOut_X0_canCarryOut
set_option maxRecDepth 20000 in
theorem ggX0_carryOut_X0_fail : GoodIn wsX0_carryOut wsX0_fail := goodIn_r _ [50, 1, 51, 117, 118, 119, 120, 121, 122, 123, 124, 125, 126, 127, 128] (by decide +kernel) (by decide +kernel)
set_option maxRecDepth 20000 in
theorem gX0_carryOut_X0_fail : GoodIn wsX0_carryOut (wsV RX0 84 RX0 yX0_fail wsX0_fail) := goodIn_app (goodIn_of _ (by decide +kernel)) ggX0_carryOut_X0_fail
set_option maxRecDepth 20000 in
theorem ggX0_carryOut_X1_enter : GoodIn wsX0_carryOut wsX1_enter := goodIn_r _ [55, 13, 56, 23, 9, 10, 11, 12, 57, 58, 59, 60, 28, 29, 30, 31, 129, 130, 131, 132, 133, 134, 135, 136, 137, 138, 139, 140, 141, 142, 143] (by decide +kernel) (by decide +kernel)
set_option maxRecDepth 20000 in
theorem gX0_carryOut_X1_enter : GoodIn wsX0_carryOut (wsV RX0 96 RX1 yX1_enter wsX1_enter) := goodIn_app (goodIn_of _ (by decide +kernel)) ggX0_carryOut_X1_enter
set_option maxRecDepth 20000 in
theorem ggX0_carryOut_X1_giveBack : GoodIn wsX0_carryOut wsX1_giveBack := goodIn_r _ [64, 28, 13, 65, 66, 29, 30, 31, 129, 130, 131, 132, 133, 134, 135, 136, 137, 138, 139, 140, 141, 142, 143] (by decide +kernel) (by decide +kernel)
set_option maxRecDepth 20000 in
theorem gX0_carryOut_X1_giveBack : GoodIn wsX0_carryOut (wsV RX0 99 RX1 yX1_giveBack wsX1_giveBack) := goodIn_app (goodIn_of _ (by decide +kernel)) ggX0_carryOut_X1_giveBack
set_option maxRecDepth 20000 in
theorem ggX0_carryOut_X3_cellIndex : GoodIn wsX0_carryOut wsX3_cellIndex := goodIn_r _ [68] (by decide +kernel) (by decide +kernel)
set_option maxRecDepth 20000 in
theorem gX0_carryOut_X3_cellIndex_n102 : GoodIn wsX0_carryOut (wsX3_cellIndex) := ggX0_carryOut_X3_cellIndex
set_option maxRecDepth 20000 in
theorem ggX0_carryOut_X1_fillCell : GoodIn wsX0_carryOut wsX1_fillCell := goodIn_r _ [72, 40, 28, 29, 30, 31, 57, 58, 59, 11, 60, 73, 62, 63, 64, 13, 65, 66, 129, 130, 131, 132, 133, 134, 135, 136, 137, 138, 139, 140, 141, 142, 143] (by decide +kernel) (by decide +kernel)
set_option maxRecDepth 20000 in
theorem gX0_carryOut_X1_fillCell : GoodIn wsX0_carryOut (wsV RX0 106 RX1 yX1_fillCell wsX1_fillCell) := goodIn_app (goodIn_of _ (by decide +kernel)) ggX0_carryOut_X1_fillCell
set_option maxRecDepth 20000 in
theorem ggX0_carryOut_X1_giveAnew : GoodIn wsX0_carryOut wsX1_giveAnew := goodIn_r _ [77, 46, 13, 78, 79, 80, 81, 65, 82, 83, 84, 85, 86, 87, 88, 89, 90, 11, 91, 92, 93, 94, 95, 28, 29, 30, 31, 96, 97, 98, 99, 100, 101, 102, 103, 104, 105, 106, 107, 108, 109, 110, 111, 112, 113, 114, 115, 116, 40, 129, 130, 131, 132, 133, 134, 135, 136, 137, 138, 139, 140, 141, 142, 143] (by decide +kernel) (by decide +kernel)
set_option maxRecDepth 20000 in
theorem gX0_carryOut_X1_giveAnew : GoodIn wsX0_carryOut (wsV RX0 109 RX1 yX1_giveAnew wsX1_giveAnew) := goodIn_app (goodIn_of _ (by decide +kernel)) ggX0_carryOut_X1_giveAnew
theorem dX0_carryOut_0 : decode cX0_carryOut 0 = .ok (.aload_n 0, 1) := by decide +kernel
theorem dX0_carryOut_1 : decode cX0_carryOut 1 = .ok (.getfield 26, 3) := by decide +kernel
theorem dX0_carryOut_4 : decode cX0_carryOut 4 = .ok (.ifCond .eq 4, 3) := by decide +kernel
theorem dX0_carryOut_7 : decode cX0_carryOut 7 = .ok (.return_, 1) := by decide +kernel
theorem dX0_carryOut_8 : decode cX0_carryOut 8 = .ok (.aload_n 0, 1) := by decide +kernel
theorem dX0_carryOut_9 : decode cX0_carryOut 9 = .ok (.getfield 12, 3) := by decide +kernel
theorem dX0_carryOut_12 : decode cX0_carryOut 12 = .ok (.aload_n 0, 1) := by decide +kernel
theorem dX0_carryOut_13 : decode cX0_carryOut 13 = .ok (.getfield 70, 3) := by decide +kernel
theorem dX0_carryOut_16 : decode cX0_carryOut 16 = .ok (.invokevirtual 88, 3) := by decide +kernel
theorem dX0_carryOut_19 : decode cX0_carryOut 19 = .ok (.istore_n 1, 1) := by decide +kernel
theorem dX0_carryOut_20 : decode cX0_carryOut 20 = .ok (.aload_n 0, 1) := by decide +kernel
theorem dX0_carryOut_21 : decode cX0_carryOut 21 = .ok (.iload_n 1, 1) := by decide +kernel
theorem dX0_carryOut_22 : decode cX0_carryOut 22 = .ok (.invokevirtual 92, 3) := by decide +kernel
theorem dX0_carryOut_25 : decode cX0_carryOut 25 = .ok (.ifCond .ne 10, 3) := by decide +kernel
theorem dX0_carryOut_28 : decode cX0_carryOut 28 = .ok (.aload_n 0, 1) := by decide +kernel
theorem dX0_carryOut_29 : decode cX0_carryOut 29 = .ok (.iconst 3, 1) := by decide +kernel
theorem dX0_carryOut_30 : decode cX0_carryOut 30 = .ok (.iconst 0, 1) := by decide +kernel
theorem dX0_carryOut_31 : decode cX0_carryOut 31 = .ok (.invokevirtual 84, 3) := by decide +kernel
theorem dX0_carryOut_34 : decode cX0_carryOut 34 = .ok (.return_, 1) := by decide +kernel
theorem dX0_carryOut_35 : decode cX0_carryOut 35 = .ok (.aload_n 0, 1) := by decide +kernel
theorem dX0_carryOut_36 : decode cX0_carryOut 36 = .ok (.getfield 54, 3) := by decide +kernel
theorem dX0_carryOut_39 : decode cX0_carryOut 39 = .ok (.lookupswitch 83 #[(43, 33), (45, 48), (61, 60)], 33) := by decide +kernel
theorem dX0_carryOut_72 : decode cX0_carryOut 72 = .ok (.aload_n 0, 1) := by decide +kernel
theorem dX0_carryOut_73 : decode cX0_carryOut 73 = .ok (.getfield 12, 3) := by decide +kernel
theorem dX0_carryOut_76 : decode cX0_carryOut 76 = .ok (.aload_n 0, 1) := by decide +kernel
theorem dX0_carryOut_77 : decode cX0_carryOut 77 = .ok (.getfield 70, 3) := by decide +kernel
theorem dX0_carryOut_80 : decode cX0_carryOut 80 = .ok (.invokevirtual 96, 3) := by decide +kernel
theorem dX0_carryOut_83 : decode cX0_carryOut 83 = .ok (.pop, 1) := by decide +kernel
theorem dX0_carryOut_84 : decode cX0_carryOut 84 = .ok (.goto 50, 3) := by decide +kernel
theorem dX0_carryOut_87 : decode cX0_carryOut 87 = .ok (.aload_n 0, 1) := by decide +kernel
theorem dX0_carryOut_88 : decode cX0_carryOut 88 = .ok (.getfield 12, 3) := by decide +kernel
theorem dX0_carryOut_91 : decode cX0_carryOut 91 = .ok (.iload_n 1, 1) := by decide +kernel
theorem dX0_carryOut_92 : decode cX0_carryOut 92 = .ok (.invokevirtual 99, 3) := by decide +kernel
theorem dX0_carryOut_95 : decode cX0_carryOut 95 = .ok (.pop, 1) := by decide +kernel
theorem dX0_carryOut_96 : decode cX0_carryOut 96 = .ok (.goto 38, 3) := by decide +kernel
theorem dX0_carryOut_99 : decode cX0_carryOut 99 = .ok (.aload_n 0, 1) := by decide +kernel
theorem dX0_carryOut_100 : decode cX0_carryOut 100 = .ok (.getfield 12, 3) := by decide +kernel
theorem dX0_carryOut_103 : decode cX0_carryOut 103 = .ok (.aload_n 0, 1) := by decide +kernel
theorem dX0_carryOut_104 : decode cX0_carryOut 104 = .ok (.getfield 58, 3) := by decide +kernel
theorem dX0_carryOut_107 : decode cX0_carryOut 107 = .ok (.aload_n 0, 1) := by decide +kernel
theorem dX0_carryOut_108 : decode cX0_carryOut 108 = .ok (.getfield 61, 3) := by decide +kernel
theorem dX0_carryOut_111 : decode cX0_carryOut 111 = .ok (.invokestatic 102, 3) := by decide +kernel
theorem dX0_carryOut_114 : decode cX0_carryOut 114 = .ok (.iload_n 1, 1) := by decide +kernel
theorem dX0_carryOut_115 : decode cX0_carryOut 115 = .ok (.invokevirtual 106, 3) := by decide +kernel
theorem dX0_carryOut_118 : decode cX0_carryOut 118 = .ok (.pop, 1) := by decide +kernel
theorem dX0_carryOut_119 : decode cX0_carryOut 119 = .ok (.goto 15, 3) := by decide +kernel
theorem dX0_carryOut_122 : decode cX0_carryOut 122 = .ok (.aload_n 0, 1) := by decide +kernel
theorem dX0_carryOut_123 : decode cX0_carryOut 123 = .ok (.getfield 12, 3) := by decide +kernel
theorem dX0_carryOut_126 : decode cX0_carryOut 126 = .ok (.aload_n 0, 1) := by decide +kernel
theorem dX0_carryOut_127 : decode cX0_carryOut 127 = .ok (.getfield 64, 3) := by decide +kernel
theorem dX0_carryOut_130 : decode cX0_carryOut 130 = .ok (.invokevirtual 109, 3) := by decide +kernel
theorem dX0_carryOut_133 : decode cX0_carryOut 133 = .ok (.pop, 1) := by decide +kernel
theorem dX0_carryOut_134 : decode cX0_carryOut 134 = .ok (.return_, 1) := by decide +kernel
set_option maxRecDepth 20000 in
theorem ggX0_canCarryOut_X1_hasRoomFor : GoodIn wsX0_canCarryOut wsX1_hasRoomFor := goodIn_r _ [8, 9, 10, 11, 7, 12, 13, 14, 15, 16, 17, 18, 19, 20, 21, 49, 50, 51, 52, 53, 54, 55, 56, 57, 58, 59, 60, 61, 62, 63] (by decide +kernel) (by decide +kernel)
set_option maxRecDepth 20000 in
theorem gX0_canCarryOut_X1_hasRoomFor : GoodIn wsX0_canCarryOut (wsV RX0 112 RX1 yX1_hasRoomFor wsX1_hasRoomFor) := goodIn_app (goodIn_of _ (by decide +kernel)) ggX0_canCarryOut_X1_hasRoomFor
set_option maxRecDepth 20000 in
theorem ggX0_canCarryOut_X1_hasFreeUser : GoodIn wsX0_canCarryOut wsX1_hasFreeUser := goodIn_r _ [25, 18, 19, 20, 21, 26, 27, 28, 7, 29, 30, 49, 50, 51, 52, 53, 54, 55, 56, 57, 58, 59, 60, 61, 62, 63] (by decide +kernel) (by decide +kernel)
set_option maxRecDepth 20000 in
theorem gX0_canCarryOut_X1_hasFreeUser : GoodIn wsX0_canCarryOut (wsV RX0 115 RX1 yX1_hasFreeUser wsX1_hasFreeUser) := goodIn_app (goodIn_of _ (by decide +kernel)) ggX0_canCarryOut_X1_hasFreeUser
set_option maxRecDepth 20000 in
theorem ggX0_canCarryOut_X1_hasRoomForUser : GoodIn wsX0_canCarryOut wsX1_hasRoomForUser := goodIn_r _ [17, 18, 19, 20, 21, 49, 50, 51, 52, 53, 54, 55, 56, 57, 58, 59, 60, 61, 62, 63] (by decide +kernel) (by decide +kernel)
set_option maxRecDepth 20000 in
theorem gX0_canCarryOut_X1_hasRoomForUser : GoodIn wsX0_canCarryOut (wsV RX0 118 RX1 yX1_hasRoomForUser wsX1_hasRoomForUser) := goodIn_app (goodIn_of _ (by decide +kernel)) ggX0_canCarryOut_X1_hasRoomForUser
set_option maxRecDepth 20000 in
theorem ggX0_canCarryOut_X1_hasNextEpoch : GoodIn wsX0_canCarryOut wsX1_hasNextEpoch := goodIn_r _ [35, 36, 49, 50, 51, 52, 53, 54, 55, 56, 57, 58, 59, 60, 61, 62, 63] (by decide +kernel) (by decide +kernel)
set_option maxRecDepth 20000 in
theorem gX0_canCarryOut_X1_hasNextEpoch : GoodIn wsX0_canCarryOut (wsV RX0 121 RX1 yX1_hasNextEpoch wsX1_hasNextEpoch) := goodIn_app (goodIn_of _ (by decide +kernel)) ggX0_canCarryOut_X1_hasNextEpoch
theorem dX0_canCarryOut_0 : decode cX0_canCarryOut 0 = .ok (.aload_n 0, 1) := by decide +kernel
theorem dX0_canCarryOut_1 : decode cX0_canCarryOut 1 = .ok (.getfield 54, 3) := by decide +kernel
theorem dX0_canCarryOut_4 : decode cX0_canCarryOut 4 = .ok (.lookupswitch 66 #[(43, 36), (45, 48), (61, 57)], 36) := by decide +kernel
theorem dX0_canCarryOut_40 : decode cX0_canCarryOut 40 = .ok (.aload_n 0, 1) := by decide +kernel
theorem dX0_canCarryOut_41 : decode cX0_canCarryOut 41 = .ok (.getfield 12, 3) := by decide +kernel
theorem dX0_canCarryOut_44 : decode cX0_canCarryOut 44 = .ok (.aload_n 0, 1) := by decide +kernel
theorem dX0_canCarryOut_45 : decode cX0_canCarryOut 45 = .ok (.getfield 70, 3) := by decide +kernel
theorem dX0_canCarryOut_48 : decode cX0_canCarryOut 48 = .ok (.invokevirtual 112, 3) := by decide +kernel
theorem dX0_canCarryOut_51 : decode cX0_canCarryOut 51 = .ok (.ireturn, 1) := by decide +kernel
theorem dX0_canCarryOut_52 : decode cX0_canCarryOut 52 = .ok (.aload_n 0, 1) := by decide +kernel
theorem dX0_canCarryOut_53 : decode cX0_canCarryOut 53 = .ok (.getfield 12, 3) := by decide +kernel
theorem dX0_canCarryOut_56 : decode cX0_canCarryOut 56 = .ok (.iload_n 1, 1) := by decide +kernel
theorem dX0_canCarryOut_57 : decode cX0_canCarryOut 57 = .ok (.invokevirtual 115, 3) := by decide +kernel
theorem dX0_canCarryOut_60 : decode cX0_canCarryOut 60 = .ok (.ireturn, 1) := by decide +kernel
theorem dX0_canCarryOut_61 : decode cX0_canCarryOut 61 = .ok (.aload_n 0, 1) := by decide +kernel
theorem dX0_canCarryOut_62 : decode cX0_canCarryOut 62 = .ok (.getfield 12, 3) := by decide +kernel
theorem dX0_canCarryOut_65 : decode cX0_canCarryOut 65 = .ok (.iload_n 1, 1) := by decide +kernel
theorem dX0_canCarryOut_66 : decode cX0_canCarryOut 66 = .ok (.invokevirtual 118, 3) := by decide +kernel
theorem dX0_canCarryOut_69 : decode cX0_canCarryOut 69 = .ok (.ireturn, 1) := by decide +kernel
theorem dX0_canCarryOut_70 : decode cX0_canCarryOut 70 = .ok (.aload_n 0, 1) := by decide +kernel
theorem dX0_canCarryOut_71 : decode cX0_canCarryOut 71 = .ok (.getfield 12, 3) := by decide +kernel
theorem dX0_canCarryOut_74 : decode cX0_canCarryOut 74 = .ok (.invokevirtual 121, 3) := by decide +kernel
theorem dX0_canCarryOut_77 : decode cX0_canCarryOut 77 = .ok (.ireturn, 1) := by decide +kernel
theorem dX0_fail_0 : decode cX0_fail 0 = .ok (.aload_n 0, 1) := by decide +kernel
theorem dX0_fail_1 : decode cX0_fail 1 = .ok (.getfield 26, 3) := by decide +kernel
theorem dX0_fail_4 : decode cX0_fail 4 = .ok (.ifCond .ne 13, 3) := by decide +kernel
theorem dX0_fail_7 : decode cX0_fail 7 = .ok (.aload_n 0, 1) := by decide +kernel
theorem dX0_fail_8 : decode cX0_fail 8 = .ok (.iload_n 1, 1) := by decide +kernel
theorem dX0_fail_9 : decode cX0_fail 9 = .ok (.putfield 26, 3) := by decide +kernel
theorem dX0_fail_12 : decode cX0_fail 12 = .ok (.aload_n 0, 1) := by decide +kernel
theorem dX0_fail_13 : decode cX0_fail 13 = .ok (.iload_n 2, 1) := by decide +kernel
theorem dX0_fail_14 : decode cX0_fail 14 = .ok (.putfield 125, 3) := by decide +kernel
theorem dX0_fail_17 : decode cX0_fail 17 = .ok (.return_, 1) := by decide +kernel
set_option maxRecDepth 20000 in
theorem ggX1_init_J7_fill_53178 : GoodIn wsX1_init wsJ7_fill_53178 := goodIn_r _ [20] (by decide +kernel) (by decide +kernel)
set_option maxRecDepth 20000 in
theorem gX1_init_J7_fill_53178 : GoodIn wsX1_init (va_wsS RX1 48 yJ7_fill_53178 wsJ7_fill_53178) := goodIn_app (goodIn_of _ (by decide +kernel)) ggX1_init_J7_fill_53178
theorem dX1_init_0 : decode cX1_init 0 = .ok (.aload_n 0, 1) := by decide +kernel
theorem dX1_init_1 : decode cX1_init 1 = .ok (.invokespecial 3, 3) := by decide +kernel
theorem dX1_init_4 : decode cX1_init 4 = .ok (.aload_n 0, 1) := by decide +kernel
theorem dX1_init_5 : decode cX1_init 5 = .ok (.bipush 40, 2) := by decide +kernel
theorem dX1_init_7 : decode cX1_init 7 = .ok (.newarray .int, 2) := by decide +kernel
theorem dX1_init_9 : decode cX1_init 9 = .ok (.putfield 9, 3) := by decide +kernel
theorem dX1_init_12 : decode cX1_init 12 = .ok (.aload_n 0, 1) := by decide +kernel
theorem dX1_init_13 : decode cX1_init 13 = .ok (.bipush 40, 2) := by decide +kernel
theorem dX1_init_15 : decode cX1_init 15 = .ok (.newarray .int, 2) := by decide +kernel
theorem dX1_init_17 : decode cX1_init 17 = .ok (.putfield 15, 3) := by decide +kernel
theorem dX1_init_20 : decode cX1_init 20 = .ok (.aload_n 0, 1) := by decide +kernel
theorem dX1_init_21 : decode cX1_init 21 = .ok (.bipush 40, 2) := by decide +kernel
theorem dX1_init_23 : decode cX1_init 23 = .ok (.newarray .int, 2) := by decide +kernel
theorem dX1_init_25 : decode cX1_init 25 = .ok (.putfield 18, 3) := by decide +kernel
theorem dX1_init_28 : decode cX1_init 28 = .ok (.aload_n 0, 1) := by decide +kernel
theorem dX1_init_29 : decode cX1_init 29 = .ok (.bipush 18, 2) := by decide +kernel
theorem dX1_init_31 : decode cX1_init 31 = .ok (.newarray .int, 2) := by decide +kernel
theorem dX1_init_33 : decode cX1_init 33 = .ok (.putfield 21, 3) := by decide +kernel
theorem dX1_init_36 : decode cX1_init 36 = .ok (.aload_n 0, 1) := by decide +kernel
theorem dX1_init_37 : decode cX1_init 37 = .ok (.iconst 3, 1) := by decide +kernel
theorem dX1_init_38 : decode cX1_init 38 = .ok (.newarray .int, 2) := by decide +kernel
theorem dX1_init_40 : decode cX1_init 40 = .ok (.putfield 24, 3) := by decide +kernel
theorem dX1_init_43 : decode cX1_init 43 = .ok (.aload_n 0, 1) := by decide +kernel
theorem dX1_init_44 : decode cX1_init 44 = .ok (.iconst 3, 1) := by decide +kernel
theorem dX1_init_45 : decode cX1_init 45 = .ok (.newarray .int, 2) := by decide +kernel
theorem dX1_init_47 : decode cX1_init 47 = .ok (.putfield 27, 3) := by decide +kernel
theorem dX1_init_50 : decode cX1_init 50 = .ok (.aload_n 0, 1) := by decide +kernel
theorem dX1_init_51 : decode cX1_init 51 = .ok (.iconst 3, 1) := by decide +kernel
theorem dX1_init_52 : decode cX1_init 52 = .ok (.newarray .int, 2) := by decide +kernel
theorem dX1_init_54 : decode cX1_init 54 = .ok (.putfield 30, 3) := by decide +kernel
theorem dX1_init_57 : decode cX1_init 57 = .ok (.aload_n 0, 1) := by decide +kernel
theorem dX1_init_58 : decode cX1_init 58 = .ok (.bipush 120, 2) := by decide +kernel
theorem dX1_init_60 : decode cX1_init 60 = .ok (.newarray .int, 2) := by decide +kernel
theorem dX1_init_62 : decode cX1_init 62 = .ok (.putfield 33, 3) := by decide +kernel
theorem dX1_init_65 : decode cX1_init 65 = .ok (.aload_n 0, 1) := by decide +kernel
theorem dX1_init_66 : decode cX1_init 66 = .ok (.bipush 120, 2) := by decide +kernel
theorem dX1_init_68 : decode cX1_init 68 = .ok (.newarray .int, 2) := by decide +kernel
theorem dX1_init_70 : decode cX1_init 70 = .ok (.putfield 36, 3) := by decide +kernel
theorem dX1_init_73 : decode cX1_init 73 = .ok (.aload_n 0, 1) := by decide +kernel
theorem dX1_init_74 : decode cX1_init 74 = .ok (.bipush 120, 2) := by decide +kernel
theorem dX1_init_76 : decode cX1_init 76 = .ok (.newarray .int, 2) := by decide +kernel
theorem dX1_init_78 : decode cX1_init 78 = .ok (.putfield 39, 3) := by decide +kernel
theorem dX1_init_81 : decode cX1_init 81 = .ok (.aload_n 0, 1) := by decide +kernel
theorem dX1_init_82 : decode cX1_init 82 = .ok (.bipush 40, 2) := by decide +kernel
theorem dX1_init_84 : decode cX1_init 84 = .ok (.newarray .int, 2) := by decide +kernel
theorem dX1_init_86 : decode cX1_init 86 = .ok (.putfield 42, 3) := by decide +kernel
theorem dX1_init_89 : decode cX1_init 89 = .ok (.aload_n 0, 1) := by decide +kernel
theorem dX1_init_90 : decode cX1_init 90 = .ok (.bipush 40, 2) := by decide +kernel
theorem dX1_init_92 : decode cX1_init 92 = .ok (.newarray .int, 2) := by decide +kernel
theorem dX1_init_94 : decode cX1_init 94 = .ok (.putfield 45, 3) := by decide +kernel
theorem dX1_init_97 : decode cX1_init 97 = .ok (.aload_n 0, 1) := by decide +kernel
theorem dX1_init_98 : decode cX1_init 98 = .ok (.getfield 21, 3) := by decide +kernel
theorem dX1_init_101 : decode cX1_init 101 = .ok (.iconst (-1), 1) := by decide +kernel
theorem dX1_init_102 : decode cX1_init 102 = .ok (.invokestatic 48, 3) := by decide +kernel
theorem dX1_init_105 : decode cX1_init 105 = .ok (.return_, 1) := by decide +kernel
theorem dX1_copyFrom_0 : decode cX1_copyFrom 0 = .ok (.aload_n 1, 1) := by decide +kernel
theorem dX1_copyFrom_1 : decode cX1_copyFrom 1 = .ok (.getfield 9, 3) := by decide +kernel
theorem dX1_copyFrom_4 : decode cX1_copyFrom 4 = .ok (.iconst 0, 1) := by decide +kernel
theorem dX1_copyFrom_5 : decode cX1_copyFrom 5 = .ok (.aload_n 0, 1) := by decide +kernel
theorem dX1_copyFrom_6 : decode cX1_copyFrom 6 = .ok (.getfield 9, 3) := by decide +kernel
theorem dX1_copyFrom_9 : decode cX1_copyFrom 9 = .ok (.iconst 0, 1) := by decide +kernel
theorem dX1_copyFrom_10 : decode cX1_copyFrom 10 = .ok (.aload_n 0, 1) := by decide +kernel
theorem dX1_copyFrom_11 : decode cX1_copyFrom 11 = .ok (.getfield 9, 3) := by decide +kernel
theorem dX1_copyFrom_14 : decode cX1_copyFrom 14 = .ok (.arraylength, 1) := by decide +kernel
theorem dX1_copyFrom_15 : decode cX1_copyFrom 15 = .ok (.invokestatic 54, 3) := by decide +kernel
theorem dX1_copyFrom_18 : decode cX1_copyFrom 18 = .ok (.aload_n 1, 1) := by decide +kernel
theorem dX1_copyFrom_19 : decode cX1_copyFrom 19 = .ok (.getfield 15, 3) := by decide +kernel
theorem dX1_copyFrom_22 : decode cX1_copyFrom 22 = .ok (.iconst 0, 1) := by decide +kernel
theorem dX1_copyFrom_23 : decode cX1_copyFrom 23 = .ok (.aload_n 0, 1) := by decide +kernel
theorem dX1_copyFrom_24 : decode cX1_copyFrom 24 = .ok (.getfield 15, 3) := by decide +kernel
theorem dX1_copyFrom_27 : decode cX1_copyFrom 27 = .ok (.iconst 0, 1) := by decide +kernel
theorem dX1_copyFrom_28 : decode cX1_copyFrom 28 = .ok (.aload_n 0, 1) := by decide +kernel
theorem dX1_copyFrom_29 : decode cX1_copyFrom 29 = .ok (.getfield 15, 3) := by decide +kernel
theorem dX1_copyFrom_32 : decode cX1_copyFrom 32 = .ok (.arraylength, 1) := by decide +kernel
theorem dX1_copyFrom_33 : decode cX1_copyFrom 33 = .ok (.invokestatic 54, 3) := by decide +kernel
theorem dX1_copyFrom_36 : decode cX1_copyFrom 36 = .ok (.aload_n 1, 1) := by decide +kernel
theorem dX1_copyFrom_37 : decode cX1_copyFrom 37 = .ok (.getfield 18, 3) := by decide +kernel
theorem dX1_copyFrom_40 : decode cX1_copyFrom 40 = .ok (.iconst 0, 1) := by decide +kernel
theorem dX1_copyFrom_41 : decode cX1_copyFrom 41 = .ok (.aload_n 0, 1) := by decide +kernel
theorem dX1_copyFrom_42 : decode cX1_copyFrom 42 = .ok (.getfield 18, 3) := by decide +kernel
theorem dX1_copyFrom_45 : decode cX1_copyFrom 45 = .ok (.iconst 0, 1) := by decide +kernel
theorem dX1_copyFrom_46 : decode cX1_copyFrom 46 = .ok (.aload_n 0, 1) := by decide +kernel
theorem dX1_copyFrom_47 : decode cX1_copyFrom 47 = .ok (.getfield 18, 3) := by decide +kernel
theorem dX1_copyFrom_50 : decode cX1_copyFrom 50 = .ok (.arraylength, 1) := by decide +kernel
theorem dX1_copyFrom_51 : decode cX1_copyFrom 51 = .ok (.invokestatic 54, 3) := by decide +kernel
theorem dX1_copyFrom_54 : decode cX1_copyFrom 54 = .ok (.aload_n 1, 1) := by decide +kernel
theorem dX1_copyFrom_55 : decode cX1_copyFrom 55 = .ok (.getfield 21, 3) := by decide +kernel
theorem dX1_copyFrom_58 : decode cX1_copyFrom 58 = .ok (.iconst 0, 1) := by decide +kernel
theorem dX1_copyFrom_59 : decode cX1_copyFrom 59 = .ok (.aload_n 0, 1) := by decide +kernel
theorem dX1_copyFrom_60 : decode cX1_copyFrom 60 = .ok (.getfield 21, 3) := by decide +kernel
theorem dX1_copyFrom_63 : decode cX1_copyFrom 63 = .ok (.iconst 0, 1) := by decide +kernel
theorem dX1_copyFrom_64 : decode cX1_copyFrom 64 = .ok (.aload_n 0, 1) := by decide +kernel
theorem dX1_copyFrom_65 : decode cX1_copyFrom 65 = .ok (.getfield 21, 3) := by decide +kernel
theorem dX1_copyFrom_68 : decode cX1_copyFrom 68 = .ok (.arraylength, 1) := by decide +kernel
theorem dX1_copyFrom_69 : decode cX1_copyFrom 69 = .ok (.invokestatic 54, 3) := by decide +kernel
theorem dX1_copyFrom_72 : decode cX1_copyFrom 72 = .ok (.aload_n 0, 1) := by decide +kernel
theorem dX1_copyFrom_73 : decode cX1_copyFrom 73 = .ok (.aload_n 1, 1) := by decide +kernel
theorem dX1_copyFrom_74 : decode cX1_copyFrom 74 = .ok (.getfield 60, 3) := by decide +kernel
theorem dX1_copyFrom_77 : decode cX1_copyFrom 77 = .ok (.putfield 60, 3) := by decide +kernel
theorem dX1_copyFrom_80 : decode cX1_copyFrom 80 = .ok (.aload_n 0, 1) := by decide +kernel
theorem dX1_copyFrom_81 : decode cX1_copyFrom 81 = .ok (.aload_n 1, 1) := by decide +kernel
theorem dX1_copyFrom_82 : decode cX1_copyFrom 82 = .ok (.getfield 64, 3) := by decide +kernel
theorem dX1_copyFrom_85 : decode cX1_copyFrom 85 = .ok (.putfield 64, 3) := by decide +kernel
theorem dX1_copyFrom_88 : decode cX1_copyFrom 88 = .ok (.aload_n 0, 1) := by decide +kernel
theorem dX1_copyFrom_89 : decode cX1_copyFrom 89 = .ok (.aload_n 1, 1) := by decide +kernel
theorem dX1_copyFrom_90 : decode cX1_copyFrom 90 = .ok (.getfield 67, 3) := by decide +kernel
theorem dX1_copyFrom_93 : decode cX1_copyFrom 93 = .ok (.putfield 67, 3) := by decide +kernel
theorem dX1_copyFrom_96 : decode cX1_copyFrom 96 = .ok (.aload_n 1, 1) := by decide +kernel
theorem dX1_copyFrom_97 : decode cX1_copyFrom 97 = .ok (.getfield 24, 3) := by decide +kernel
theorem dX1_copyFrom_100 : decode cX1_copyFrom 100 = .ok (.iconst 0, 1) := by decide +kernel
theorem dX1_copyFrom_101 : decode cX1_copyFrom 101 = .ok (.aload_n 0, 1) := by decide +kernel
theorem dX1_copyFrom_102 : decode cX1_copyFrom 102 = .ok (.getfield 24, 3) := by decide +kernel
theorem dX1_copyFrom_105 : decode cX1_copyFrom 105 = .ok (.iconst 0, 1) := by decide +kernel
theorem dX1_copyFrom_106 : decode cX1_copyFrom 106 = .ok (.aload_n 0, 1) := by decide +kernel
theorem dX1_copyFrom_107 : decode cX1_copyFrom 107 = .ok (.getfield 24, 3) := by decide +kernel
theorem dX1_copyFrom_110 : decode cX1_copyFrom 110 = .ok (.arraylength, 1) := by decide +kernel
theorem dX1_copyFrom_111 : decode cX1_copyFrom 111 = .ok (.invokestatic 54, 3) := by decide +kernel
theorem dX1_copyFrom_114 : decode cX1_copyFrom 114 = .ok (.aload_n 1, 1) := by decide +kernel
theorem dX1_copyFrom_115 : decode cX1_copyFrom 115 = .ok (.getfield 27, 3) := by decide +kernel
theorem dX1_copyFrom_118 : decode cX1_copyFrom 118 = .ok (.iconst 0, 1) := by decide +kernel
theorem dX1_copyFrom_119 : decode cX1_copyFrom 119 = .ok (.aload_n 0, 1) := by decide +kernel
theorem dX1_copyFrom_120 : decode cX1_copyFrom 120 = .ok (.getfield 27, 3) := by decide +kernel
theorem dX1_copyFrom_123 : decode cX1_copyFrom 123 = .ok (.iconst 0, 1) := by decide +kernel
theorem dX1_copyFrom_124 : decode cX1_copyFrom 124 = .ok (.aload_n 0, 1) := by decide +kernel
theorem dX1_copyFrom_125 : decode cX1_copyFrom 125 = .ok (.getfield 27, 3) := by decide +kernel
theorem dX1_copyFrom_128 : decode cX1_copyFrom 128 = .ok (.arraylength, 1) := by decide +kernel
theorem dX1_copyFrom_129 : decode cX1_copyFrom 129 = .ok (.invokestatic 54, 3) := by decide +kernel
theorem dX1_copyFrom_132 : decode cX1_copyFrom 132 = .ok (.aload_n 1, 1) := by decide +kernel
theorem dX1_copyFrom_133 : decode cX1_copyFrom 133 = .ok (.getfield 30, 3) := by decide +kernel
theorem dX1_copyFrom_136 : decode cX1_copyFrom 136 = .ok (.iconst 0, 1) := by decide +kernel
theorem dX1_copyFrom_137 : decode cX1_copyFrom 137 = .ok (.aload_n 0, 1) := by decide +kernel
theorem dX1_copyFrom_138 : decode cX1_copyFrom 138 = .ok (.getfield 30, 3) := by decide +kernel
theorem dX1_copyFrom_141 : decode cX1_copyFrom 141 = .ok (.iconst 0, 1) := by decide +kernel
theorem dX1_copyFrom_142 : decode cX1_copyFrom 142 = .ok (.aload_n 0, 1) := by decide +kernel
theorem dX1_copyFrom_143 : decode cX1_copyFrom 143 = .ok (.getfield 30, 3) := by decide +kernel
theorem dX1_copyFrom_146 : decode cX1_copyFrom 146 = .ok (.arraylength, 1) := by decide +kernel
theorem dX1_copyFrom_147 : decode cX1_copyFrom 147 = .ok (.invokestatic 54, 3) := by decide +kernel
theorem dX1_copyFrom_150 : decode cX1_copyFrom 150 = .ok (.aload_n 1, 1) := by decide +kernel
theorem dX1_copyFrom_151 : decode cX1_copyFrom 151 = .ok (.getfield 33, 3) := by decide +kernel
theorem dX1_copyFrom_154 : decode cX1_copyFrom 154 = .ok (.iconst 0, 1) := by decide +kernel
theorem dX1_copyFrom_155 : decode cX1_copyFrom 155 = .ok (.aload_n 0, 1) := by decide +kernel
theorem dX1_copyFrom_156 : decode cX1_copyFrom 156 = .ok (.getfield 33, 3) := by decide +kernel
theorem dX1_copyFrom_159 : decode cX1_copyFrom 159 = .ok (.iconst 0, 1) := by decide +kernel
theorem dX1_copyFrom_160 : decode cX1_copyFrom 160 = .ok (.aload_n 0, 1) := by decide +kernel
theorem dX1_copyFrom_161 : decode cX1_copyFrom 161 = .ok (.getfield 33, 3) := by decide +kernel
theorem dX1_copyFrom_164 : decode cX1_copyFrom 164 = .ok (.arraylength, 1) := by decide +kernel
theorem dX1_copyFrom_165 : decode cX1_copyFrom 165 = .ok (.invokestatic 54, 3) := by decide +kernel
theorem dX1_copyFrom_168 : decode cX1_copyFrom 168 = .ok (.aload_n 1, 1) := by decide +kernel
theorem dX1_copyFrom_169 : decode cX1_copyFrom 169 = .ok (.getfield 36, 3) := by decide +kernel
theorem dX1_copyFrom_172 : decode cX1_copyFrom 172 = .ok (.iconst 0, 1) := by decide +kernel
theorem dX1_copyFrom_173 : decode cX1_copyFrom 173 = .ok (.aload_n 0, 1) := by decide +kernel
theorem dX1_copyFrom_174 : decode cX1_copyFrom 174 = .ok (.getfield 36, 3) := by decide +kernel
theorem dX1_copyFrom_177 : decode cX1_copyFrom 177 = .ok (.iconst 0, 1) := by decide +kernel
theorem dX1_copyFrom_178 : decode cX1_copyFrom 178 = .ok (.aload_n 0, 1) := by decide +kernel
theorem dX1_copyFrom_179 : decode cX1_copyFrom 179 = .ok (.getfield 36, 3) := by decide +kernel
theorem dX1_copyFrom_182 : decode cX1_copyFrom 182 = .ok (.arraylength, 1) := by decide +kernel
theorem dX1_copyFrom_183 : decode cX1_copyFrom 183 = .ok (.invokestatic 54, 3) := by decide +kernel
theorem dX1_copyFrom_186 : decode cX1_copyFrom 186 = .ok (.aload_n 1, 1) := by decide +kernel
theorem dX1_copyFrom_187 : decode cX1_copyFrom 187 = .ok (.getfield 39, 3) := by decide +kernel
theorem dX1_copyFrom_190 : decode cX1_copyFrom 190 = .ok (.iconst 0, 1) := by decide +kernel
theorem dX1_copyFrom_191 : decode cX1_copyFrom 191 = .ok (.aload_n 0, 1) := by decide +kernel
theorem dX1_copyFrom_192 : decode cX1_copyFrom 192 = .ok (.getfield 39, 3) := by decide +kernel
theorem dX1_copyFrom_195 : decode cX1_copyFrom 195 = .ok (.iconst 0, 1) := by decide +kernel
theorem dX1_copyFrom_196 : decode cX1_copyFrom 196 = .ok (.aload_n 0, 1) := by decide +kernel
theorem dX1_copyFrom_197 : decode cX1_copyFrom 197 = .ok (.getfield 39, 3) := by decide +kernel
theorem dX1_copyFrom_200 : decode cX1_copyFrom 200 = .ok (.arraylength, 1) := by decide +kernel
theorem dX1_copyFrom_201 : decode cX1_copyFrom 201 = .ok (.invokestatic 54, 3) := by decide +kernel
theorem dX1_copyFrom_204 : decode cX1_copyFrom 204 = .ok (.return_, 1) := by decide +kernel
set_option maxRecDepth 20000 in
theorem ggX1_tagOf_X3_isBelow : GoodIn wsX1_tagOf wsX3_isBelow := goodIn_r _ [6] (by decide +kernel) (by decide +kernel)
set_option maxRecDepth 20000 in
theorem gX1_tagOf_X3_isBelow_n70 : GoodIn wsX1_tagOf (wsX3_isBelow) := ggX1_tagOf_X3_isBelow
set_option maxRecDepth 20000 in
theorem ggX1_tagOf_X1_tagIn : GoodIn wsX1_tagOf wsX1_tagIn := goodIn_r _ [10, 11] (by decide +kernel) (by decide +kernel)
set_option maxRecDepth 20000 in
theorem gX1_tagOf_X1_tagIn : GoodIn wsX1_tagOf (va_wsS RX1 74 yX1_tagIn wsX1_tagIn) := goodIn_app (goodIn_of _ (by decide +kernel)) ggX1_tagOf_X1_tagIn
