section
/-! ===== BEGIN words of one list among another's, by their places ===== -/
theorem goodIn_r {big : List Cond} (ws : List Cond) (ps : List Nat) (hp : ws = ps.filterMap (fun i => big[i]?)) (h : ws.all goodWord = true) : GoodIn big ws := by
  intro w hw
  have h1 := List.all_eq_true.mp h w hw
  rw [hp] at hw
  obtain ⟨i, -, hi⟩ := List.mem_filterMap.mp hw
  have hm : w ∈ big := by first | exact List.mem_of_getElem? hi | exact List.getElem?_mem hi
  exact ⟨hm, good_of_word h1⟩
theorem goodIn_app {big a b : List Cond} (ha : GoodIn big a) (hb : GoodIn big b) : GoodIn big (a ++ b) := fun w h => (List.mem_append.mp h).elim (ha w) (hb w)
theorem goodIn_ca {big a b : List Cond} {c : Cond} (ha : GoodIn big (c :: a)) (hb : GoodIn big b) : GoodIn big (c :: (a ++ b)) := fun w h => (List.mem_cons.mp h).elim (fun e => ha w (List.mem_cons.mpr (Or.inl e))) (fun h => (List.mem_append.mp h).elim (fun h => ha w (List.mem_cons.mpr (Or.inr h))) (hb w))
theorem goodIn_sub {big ws : List Cond} (hm : ∀ w ∈ ws, w ∈ big) (h : ws.all goodWord = true) : GoodIn big ws := fun w hw => ⟨hm w hw, good_of_word (List.all_eq_true.mp h w hw)⟩
/-! ===== END ===== -/


/-! ===== BEGIN printed: names, fields, word lists, decode rows ===== -/
def RX0 : String := "NoonWells$Field"
def TX0 : u_T := fun k => match k with
  | 0 => ("NoonWells$Field", "wells", "[[I", true)
  | 1 => ("NoonWells$Field", "droughts", "[[I", true)
  | 2 => ("NoonWells$Field", "requests", "[[I", true)
  | 3 => ("NoonWells$Field", "settings", "[I", true)
  | 4 => ("NoonWells$Field", "shares", "[I", true)
  | 5 => ("NoonWells$Field", "wellCount", "I", false)
  | 6 => ("NoonWells$Field", "droughtCount", "I", false)
  | 7 => ("NoonWells$Field", "waiting", "I", false)
  | 8 => ("NoonWells$Field", "time", "I", false)
  | _ => ("NoonWells$Field", "drawnBehindWaiting", "I", false)
def tyX0 : Nat → FieldType := fun k => match k with
  | 0 => .array (.array .int)
  | 1 => .array (.array .int)
  | 2 => .array (.array .int)
  | 3 => .array .int
  | 4 => .array .int
  | 5 => .int
  | 6 => .int
  | 7 => .int
  | 8 => .int
  | _ => .int
abbrev wsX00 : List Cond := u_ws RX0 TX0 10
theorem nmX0 : ∀ a, a < 10 → ∀ b, b < 10 → a ≠ b → (TX0 a).2.1 ≠ (TX0 b).2.1 := by decide +kernel
theorem tyX0_ok : ∀ k, k < 10 → parseFieldDescriptor (TX0 k).2.2.1 = some (tyX0 k) := by decide +kernel
abbrev cX0_init : ByteArray := prog_2_method_1_code
def yX0_init : MethodName := ⟨RX0, "<init>", "()V"⟩
abbrev cX0_copyFrom : ByteArray := prog_2_method_2_code
def yX0_copyFrom : MethodName := ⟨RX0, "copyFrom", "(LNoonWells$Field;)V"⟩
abbrev cX0_copyRows : ByteArray := prog_2_method_3_code
def yX0_copyRows : MethodName := ⟨RX0, "copyRows", "([[I[[I)V"⟩
abbrev cX0_isWell : ByteArray := prog_2_method_4_code
def yX0_isWell : MethodName := ⟨RX0, "isWell", "(I)Z"⟩
abbrev cX0_isPlace : ByteArray := prog_2_method_5_code
def yX0_isPlace : MethodName := ⟨RX0, "isPlace", "(I)Z"⟩
abbrev cX0_sumOf : ByteArray := prog_2_method_6_code
def yX0_sumOf : MethodName := ⟨RX0, "sumOf", "(I)I"⟩
abbrev cX0_timeOfDay : ByteArray := prog_2_method_7_code
def yX0_timeOfDay : MethodName := ⟨RX0, "timeOfDay", "()I"⟩
abbrev cX0_addWell : ByteArray := prog_2_method_8_code
def yX0_addWell : MethodName := ⟨RX0, "addWell", "(IIII)I"⟩
abbrev cX0_wellAbove : ByteArray := prog_2_method_9_code
def yX0_wellAbove : MethodName := ⟨RX0, "wellAbove", "(II)I"⟩
abbrev cX0_addDrought : ByteArray := prog_2_method_10_code
def yX0_addDrought : MethodName := ⟨RX0, "addDrought", "(III)I"⟩
abbrev cX0_isDry : ByteArray := prog_2_method_11_code
def yX0_isDry : MethodName := ⟨RX0, "isDry", "(II)Z"⟩
abbrev cX0_dryWells : ByteArray := prog_2_method_12_code
def yX0_dryWells : MethodName := ⟨RX0, "dryWells", "(I)I"⟩
abbrev cX0_shareOut : ByteArray := prog_2_method_13_code
def yX0_shareOut : MethodName := ⟨RX0, "shareOut", "(II)I"⟩
abbrev cX0_pourShares : ByteArray := prog_2_method_14_code
def yX0_pourShares : MethodName := ⟨RX0, "pourShares", "(I)I"⟩
abbrev cX0_takeDraw : ByteArray := prog_2_method_15_code
def yX0_takeDraw : MethodName := ⟨RX0, "takeDraw", "(II)I"⟩
abbrev cX0_takeRequest : ByteArray := prog_2_method_16_code
def yX0_takeRequest : MethodName := ⟨RX0, "takeRequest", "(II)I"⟩
abbrev cX0_dropRequest : ByteArray := prog_2_method_17_code
def yX0_dropRequest : MethodName := ⟨RX0, "dropRequest", "(I)I"⟩
abbrev cX0_moveRequest : ByteArray := prog_2_method_18_code
def yX0_moveRequest : MethodName := ⟨RX0, "moveRequest", "(II)V"⟩
abbrev cX0_changeSetting : ByteArray := prog_2_method_19_code
def yX0_changeSetting : MethodName := ⟨RX0, "changeSetting", "(II)I"⟩
abbrev cX0_passTicks : ByteArray := prog_2_method_20_code
def yX0_passTicks : MethodName := ⟨RX0, "passTicks", "(I)I"⟩
abbrev cX0_passTick : ByteArray := prog_2_method_21_code
def yX0_passTick : MethodName := ⟨RX0, "passTick", "()I"⟩
abbrev cX0_flowIn : ByteArray := prog_2_method_22_code
def yX0_flowIn : MethodName := ⟨RX0, "flowIn", "()V"⟩
abbrev cX0_roomIn : ByteArray := prog_2_method_23_code
def yX0_roomIn : MethodName := ⟨RX0, "roomIn", "(I)I"⟩
abbrev cX0_lendAtNoon : ByteArray := prog_2_method_24_code
def yX0_lendAtNoon : MethodName := ⟨RX0, "lendAtNoon", "()I"⟩
abbrev cX0_payBackInEvening : ByteArray := prog_2_method_25_code
def yX0_payBackInEvening : MethodName := ⟨RX0, "payBackInEvening", "()V"⟩
abbrev cX0_payBack : ByteArray := prog_2_method_26_code
def yX0_payBack : MethodName := ⟨RX0, "payBack", "(II)V"⟩
abbrev cX0_serveWaiting : ByteArray := prog_2_method_27_code
def yX0_serveWaiting : MethodName := ⟨RX0, "serveWaiting", "()I"⟩
def RX1 : String := "NoonWells$History"
def TX1 : u_T := fun k => match k with
  | 0 => ("NoonWells$History", "states", "[LNoonWells$Field;", true)
  | 1 => ("NoonWells$History", "oldest", "I", false)
  | _ => ("NoonWells$History", "size", "I", false)
def tyX1 : Nat → FieldType := fun k => match k with
  | 0 => .array (.object "NoonWells$Field")
  | 1 => .int
  | _ => .int
abbrev wsX10 : List Cond := u_ws RX1 TX1 3
theorem nmX1 : ∀ a, a < 3 → ∀ b, b < 3 → a ≠ b → (TX1 a).2.1 ≠ (TX1 b).2.1 := by decide +kernel
theorem tyX1_ok : ∀ k, k < 3 → parseFieldDescriptor (TX1 k).2.2.1 = some (tyX1 k) := by decide +kernel
abbrev cX1_init : ByteArray := prog_3_method_1_code
def yX1_init : MethodName := ⟨RX1, "<init>", "()V"⟩
abbrev cX1_note : ByteArray := prog_3_method_2_code
def yX1_note : MethodName := ⟨RX1, "note", "(LNoonWells$Field;)V"⟩
abbrev cX1_keep : ByteArray := prog_3_method_3_code
def yX1_keep : MethodName := ⟨RX1, "keep", "()V"⟩
abbrev cX1_giveBack : ByteArray := prog_3_method_4_code
def yX1_giveBack : MethodName := ⟨RX1, "giveBack", "(LNoonWells$Field;)V"⟩
def RX2 : String := "NoonWells$Script"
def TX2 : u_T := fun k => match k with
  | 0 => ("NoonWells$Script", "signs", "[C", true)
  | 1 => ("NoonWells$Script", "numbers", "[I", true)
  | 2 => ("NoonWells$Script", "length", "I", false)
  | 3 => ("NoonWells$Script", "next", "I", false)
  | 4 => ("NoonWells$Script", "orders", "I", false)
  | 5 => ("NoonWells$Script", "faultAt", "I", false)
  | _ => ("NoonWells$Script", "reason", "I", false)
def tyX2 : Nat → FieldType := fun k => match k with
  | 0 => .array .char
  | 1 => .array .int
  | 2 => .int
  | 3 => .int
  | 4 => .int
  | 5 => .int
  | _ => .int
abbrev wsX20 : List Cond := u_ws RX2 TX2 7
theorem nmX2 : ∀ a, a < 7 → ∀ b, b < 7 → a ≠ b → (TX2 a).2.1 ≠ (TX2 b).2.1 := by decide +kernel
theorem tyX2_ok : ∀ k, k < 7 → parseFieldDescriptor (TX2 k).2.2.1 = some (tyX2 k) := by decide +kernel
abbrev cX2_init : ByteArray := prog_4_method_1_code
def yX2_init : MethodName := ⟨RX2, "<init>", "()V"⟩
abbrev cX2_append : ByteArray := prog_4_method_2_code
def yX2_append : MethodName := ⟨RX2, "append", "(C)Z"⟩
abbrev cX2_runOn : ByteArray := prog_4_method_3_code
def yX2_runOn : MethodName := ⟨RX2, "runOn", "(LNoonWells$Field;)V"⟩
abbrev cX2_numbersOf : ByteArray := prog_4_method_4_code
def yX2_numbersOf : MethodName := ⟨RX2, "numbersOf", "(C)I"⟩
abbrev cX2_readOrder : ByteArray := prog_4_method_5_code
def yX2_readOrder : MethodName := ⟨RX2, "readOrder", "(C)Z"⟩
abbrev cX2_readNumber : ByteArray := prog_4_method_6_code
def yX2_readNumber : MethodName := ⟨RX2, "readNumber", "(I)Z"⟩
abbrev cX2_isDigit : ByteArray := prog_4_method_7_code
def yX2_isDigit : MethodName := ⟨RX2, "isDigit", "(C)Z"⟩
abbrev cX2_doOrder : ByteArray := prog_4_method_8_code
def yX2_doOrder : MethodName := ⟨RX2, "doOrder", "(LNoonWells$Field;C)I"⟩
def RX3 : String := "NoonWells"
def TX3 : u_T := fun k => match k with
  | 0 => ("NoonWells", "now", "LNoonWells$Field;", true)
  | 1 => ("NoonWells", "trial", "LNoonWells$Field;", true)
  | 2 => ("NoonWells", "history", "LNoonWells$History;", true)
  | _ => ("NoonWells", "script", "LNoonWells$Script;", true)
def tyX3 : Nat → FieldType := fun k => match k with
  | 0 => .object "NoonWells$Field"
  | 1 => .object "NoonWells$Field"
  | 2 => .object "NoonWells$History"
  | _ => .object "NoonWells$Script"
abbrev wsX30 : List Cond := u_ws RX3 TX3 4
theorem nmX3 : ∀ a, a < 4 → ∀ b, b < 4 → a ≠ b → (TX3 a).2.1 ≠ (TX3 b).2.1 := by decide +kernel
theorem tyX3_ok : ∀ k, k < 4 → parseFieldDescriptor (TX3 k).2.2.1 = some (tyX3 k) := by decide +kernel
abbrev cX3_init : ByteArray := prog_1_method_1_code
def yX3_init : MethodName := ⟨RX3, "<init>", "()V"⟩
abbrev cX3_well : ByteArray := prog_1_method_2_code
def yX3_well : MethodName := ⟨RX3, "well", "(IIII)I"⟩
abbrev cX3_drought : ByteArray := prog_1_method_3_code
def yX3_drought : MethodName := ⟨RX3, "drought", "(III)I"⟩
abbrev cX3_droughtOf : ByteArray := prog_1_method_4_code
def yX3_droughtOf : MethodName := ⟨RX3, "droughtOf", "(II)I"⟩
abbrev cX3_wellOf : ByteArray := prog_1_method_5_code
def yX3_wellOf : MethodName := ⟨RX3, "wellOf", "(II)I"⟩
abbrev cX3_aboveAt : ByteArray := prog_1_method_6_code
def yX3_aboveAt : MethodName := ⟨RX3, "aboveAt", "(II)I"⟩
abbrev cX3_draw : ByteArray := prog_1_method_7_code
def yX3_draw : MethodName := ⟨RX3, "draw", "(II)I"⟩
abbrev cX3_request : ByteArray := prog_1_method_8_code
def yX3_request : MethodName := ⟨RX3, "request", "(II)I"⟩
abbrev cX3_cancel : ByteArray := prog_1_method_9_code
def yX3_cancel : MethodName := ⟨RX3, "cancel", "(I)I"⟩
abbrev cX3_requestAt : ByteArray := prog_1_method_10_code
def yX3_requestAt : MethodName := ⟨RX3, "requestAt", "(II)I"⟩
abbrev cX3_tick : ByteArray := prog_1_method_11_code
def yX3_tick : MethodName := ⟨RX3, "tick", "(I)I"⟩
abbrev cX3_set : ByteArray := prog_1_method_12_code
def yX3_set : MethodName := ⟨RX3, "set", "(II)I"⟩
abbrev cX3_able : ByteArray := prog_1_method_13_code
def yX3_able : MethodName := ⟨RX3, "able", "(I)I"⟩
abbrev cX3_gives : ByteArray := prog_1_method_14_code
def yX3_gives : MethodName := ⟨RX3, "gives", "(III)I"⟩
abbrev cX3_possibleIn : ByteArray := prog_1_method_15_code
def yX3_possibleIn : MethodName := ⟨RX3, "possibleIn", "(II)I"⟩
abbrev cX3_waterIn : ByteArray := prog_1_method_16_code
def yX3_waterIn : MethodName := ⟨RX3, "waterIn", "(II)I"⟩
abbrev cX3_lenders : ByteArray := prog_1_method_17_code
def yX3_lenders : MethodName := ⟨RX3, "lenders", "()I"⟩
abbrev cX3_count : ByteArray := prog_1_method_18_code
def yX3_count : MethodName := ⟨RX3, "count", "(I)I"⟩
abbrev cX3_undo : ByteArray := prog_1_method_19_code
def yX3_undo : MethodName := ⟨RX3, "undo", "()I"⟩
abbrev cX3_type : ByteArray := prog_1_method_20_code
def yX3_type : MethodName := ⟨RX3, "type", "(I)I"⟩
abbrev cX3_clearText : ByteArray := prog_1_method_21_code
def yX3_clearText : MethodName := ⟨RX3, "clearText", "()I"⟩
abbrev cX3_fault : ByteArray := prog_1_method_22_code
def yX3_fault : MethodName := ⟨RX3, "fault", "(I)I"⟩
abbrev cX3_play : ByteArray := prog_1_method_23_code
def yX3_play : MethodName := ⟨RX3, "play", "()I"⟩
abbrev cX3_keepIfDone : ByteArray := prog_1_method_24_code
def yX3_keepIfDone : MethodName := ⟨RX3, "keepIfDone", "(I)I"⟩
abbrev cX3_areBuckets : ByteArray := prog_1_method_25_code
def yX3_areBuckets : MethodName := ⟨RX3, "areBuckets", "(I)Z"⟩
def RX4 : String := "NoonWellsModel"
def TX4 : u_T := fun k => match k with
  | 0 => ("NoonWellsModel", "now", "[I", true)
  | 1 => ("NoonWellsModel", "before", "[I", true)
  | 2 => ("NoonWellsModel", "states", "[I", true)
  | 3 => ("NoonWellsModel", "text", "[I", true)
  | 4 => ("NoonWellsModel", "stateMany", "I", false)
  | 5 => ("NoonWellsModel", "stateAt", "I", false)
  | 6 => ("NoonWellsModel", "letters", "I", false)
  | 7 => ("NoonWellsModel", "readAt", "I", false)
  | 8 => ("NoonWellsModel", "reason", "I", false)
  | 9 => ("NoonWellsModel", "numbers", "[I", true)
  | 10 => ("NoonWellsModel", "faultAt", "I", false)
  | _ => ("NoonWellsModel", "orders", "I", false)
def tyX4 : Nat → FieldType := fun k => match k with
  | 0 => .array .int
  | 1 => .array .int
  | 2 => .array .int
  | 3 => .array .int
  | 4 => .int
  | 5 => .int
  | 6 => .int
  | 7 => .int
  | 8 => .int
  | 9 => .array .int
  | 10 => .int
  | _ => .int
abbrev wsX40 : List Cond := u_ws RX4 TX4 12
theorem nmX4 : ∀ a, a < 12 → ∀ b, b < 12 → a ≠ b → (TX4 a).2.1 ≠ (TX4 b).2.1 := by decide +kernel
theorem tyX4_ok : ∀ k, k < 12 → parseFieldDescriptor (TX4 k).2.2.1 = some (tyX4 k) := by decide +kernel
abbrev cX4_init : ByteArray := prog_6_method_1_code
def yX4_init : MethodName := ⟨RX4, "<init>", "()V"⟩
abbrev cX4_in : ByteArray := prog_6_method_2_code
def yX4_in : MethodName := ⟨RX4, "in", "(III)Z"⟩
abbrev cX4_least : ByteArray := prog_6_method_3_code
def yX4_least : MethodName := ⟨RX4, "least", "(II)I"⟩
abbrev cX4_copy : ByteArray := prog_6_method_4_code
def yX4_copy : MethodName := ⟨RX4, "copy", "()V"⟩
abbrev cX4_back : ByteArray := prog_6_method_5_code
def yX4_back : MethodName := ⟨RX4, "back", "()V"⟩
abbrev cX4_recorded : ByteArray := prog_6_method_6_code
def yX4_recorded : MethodName := ⟨RX4, "recorded", "(I)I"⟩
abbrev cX4_undo : ByteArray := prog_6_method_7_code
def yX4_undo : MethodName := ⟨RX4, "undo", "()I"⟩
abbrev cX4_isWell : ByteArray := prog_6_method_8_code
def yX4_isWell : MethodName := ⟨RX4, "isWell", "(I)Z"⟩
abbrev cX4_of : ByteArray := prog_6_method_9_code
def yX4_of : MethodName := ⟨RX4, "of", "(II)I"⟩
abbrev cX4_adds : ByteArray := prog_6_method_10_code
def yX4_adds : MethodName := ⟨RX4, "adds", "(III)V"⟩
abbrev cX4_half : ByteArray := prog_6_method_11_code
def yX4_half : MethodName := ⟨RX4, "half", "(I)I"⟩
abbrev cX4_room : ByteArray := prog_6_method_12_code
def yX4_room : MethodName := ⟨RX4, "room", "(I)I"⟩
abbrev cX4_addsWell : ByteArray := prog_6_method_13_code
def yX4_addsWell : MethodName := ⟨RX4, "addsWell", "(IIII)I"⟩
abbrev cX4_well : ByteArray := prog_6_method_14_code
def yX4_well : MethodName := ⟨RX4, "well", "(IIII)I"⟩
abbrev cX4_addsDrought : ByteArray := prog_6_method_15_code
def yX4_addsDrought : MethodName := ⟨RX4, "addsDrought", "(III)I"⟩
abbrev cX4_drought : ByteArray := prog_6_method_16_code
def yX4_drought : MethodName := ⟨RX4, "drought", "(III)I"⟩
abbrev cX4_droughtOf : ByteArray := prog_6_method_17_code
def yX4_droughtOf : MethodName := ⟨RX4, "droughtOf", "(II)I"⟩
abbrev cX4_isDry : ByteArray := prog_6_method_18_code
def yX4_isDry : MethodName := ⟨RX4, "isDry", "(II)Z"⟩
abbrev cX4_belowMany : ByteArray := prog_6_method_19_code
def yX4_belowMany : MethodName := ⟨RX4, "belowMany", "(I)I"⟩
abbrev cX4_wellOf : ByteArray := prog_6_method_20_code
def yX4_wellOf : MethodName := ⟨RX4, "wellOf", "(II)I"⟩
abbrev cX4_aboveAt : ByteArray := prog_6_method_21_code
def yX4_aboveAt : MethodName := ⟨RX4, "aboveAt", "(II)I"⟩
abbrev cX4_ableOf : ByteArray := prog_6_method_22_code
def yX4_ableOf : MethodName := ⟨RX4, "ableOf", "(I)I"⟩
abbrev cX4_isDraw : ByteArray := prog_6_method_23_code
def yX4_isDraw : MethodName := ⟨RX4, "isDraw", "(I)Z"⟩
abbrev cX4_part : ByteArray := prog_6_method_24_code
def yX4_part : MethodName := ⟨RX4, "part", "(III)I"⟩
abbrev cX4_takes : ByteArray := prog_6_method_25_code
def yX4_takes : MethodName := ⟨RX4, "takes", "(II)I"⟩
abbrev cX4_draws : ByteArray := prog_6_method_26_code
def yX4_draws : MethodName := ⟨RX4, "draws", "(II)I"⟩
abbrev cX4_draw : ByteArray := prog_6_method_27_code
def yX4_draw : MethodName := ⟨RX4, "draw", "(II)I"⟩
abbrev cX4_requests : ByteArray := prog_6_method_28_code
def yX4_requests : MethodName := ⟨RX4, "requests", "(II)I"⟩
abbrev cX4_request : ByteArray := prog_6_method_29_code
def yX4_request : MethodName := ⟨RX4, "request", "(II)I"⟩
abbrev cX4_isPlace : ByteArray := prog_6_method_30_code
def yX4_isPlace : MethodName := ⟨RX4, "isPlace", "(I)Z"⟩
abbrev cX4_leaves : ByteArray := prog_6_method_31_code
def yX4_leaves : MethodName := ⟨RX4, "leaves", "(I)V"⟩
abbrev cX4_cancel : ByteArray := prog_6_method_32_code
def yX4_cancel : MethodName := ⟨RX4, "cancel", "(I)I"⟩
abbrev cX4_requestAt : ByteArray := prog_6_method_33_code
def yX4_requestAt : MethodName := ⟨RX4, "requestAt", "(II)I"⟩
abbrev cX4_looks : ByteArray := prog_6_method_34_code
def yX4_looks : MethodName := ⟨RX4, "looks", "()V"⟩
abbrev cX4_flows : ByteArray := prog_6_method_35_code
def yX4_flows : MethodName := ⟨RX4, "flows", "()V"⟩
abbrev cX4_lends : ByteArray := prog_6_method_36_code
def yX4_lends : MethodName := ⟨RX4, "lends", "()I"⟩
abbrev cX4_paysBack : ByteArray := prog_6_method_37_code
def yX4_paysBack : MethodName := ⟨RX4, "paysBack", "()V"⟩
abbrev cX4_ticks : ByteArray := prog_6_method_38_code
def yX4_ticks : MethodName := ⟨RX4, "ticks", "()V"⟩
abbrev cX4_passes : ByteArray := prog_6_method_39_code
def yX4_passes : MethodName := ⟨RX4, "passes", "(I)I"⟩
abbrev cX4_tick : ByteArray := prog_6_method_40_code
def yX4_tick : MethodName := ⟨RX4, "tick", "(I)I"⟩
abbrev cX4_set : ByteArray := prog_6_method_41_code
def yX4_set : MethodName := ⟨RX4, "set", "(II)I"⟩
abbrev cX4_able : ByteArray := prog_6_method_42_code
def yX4_able : MethodName := ⟨RX4, "able", "(I)I"⟩
abbrev cX4_gives : ByteArray := prog_6_method_43_code
def yX4_gives : MethodName := ⟨RX4, "gives", "(III)I"⟩
abbrev cX4_possibleIn : ByteArray := prog_6_method_44_code
def yX4_possibleIn : MethodName := ⟨RX4, "possibleIn", "(II)I"⟩
abbrev cX4_waterIn : ByteArray := prog_6_method_45_code
def yX4_waterIn : MethodName := ⟨RX4, "waterIn", "(II)I"⟩
abbrev cX4_lenders : ByteArray := prog_6_method_46_code
def yX4_lenders : MethodName := ⟨RX4, "lenders", "()I"⟩
abbrev cX4_sum : ByteArray := prog_6_method_47_code
def yX4_sum : MethodName := ⟨RX4, "sum", "(I)I"⟩
abbrev cX4_count : ByteArray := prog_6_method_48_code
def yX4_count : MethodName := ⟨RX4, "count", "(I)I"⟩
abbrev cX4_type : ByteArray := prog_6_method_49_code
def yX4_type : MethodName := ⟨RX4, "type", "(I)I"⟩
abbrev cX4_clearText : ByteArray := prog_6_method_50_code
def yX4_clearText : MethodName := ⟨RX4, "clearText", "()I"⟩
abbrev cX4_here : ByteArray := prog_6_method_51_code
def yX4_here : MethodName := ⟨RX4, "here", "()I"⟩
abbrev cX4_reads : ByteArray := prog_6_method_52_code
def yX4_reads : MethodName := ⟨RX4, "reads", "(I)Z"⟩
abbrev cX4_does : ByteArray := prog_6_method_53_code
def yX4_does : MethodName := ⟨RX4, "does", "(I)I"⟩
abbrev cX4_order : ByteArray := prog_6_method_54_code
def yX4_order : MethodName := ⟨RX4, "order", "()V"⟩
abbrev cX4_tries : ByteArray := prog_6_method_55_code
def yX4_tries : MethodName := ⟨RX4, "tries", "()V"⟩
abbrev cX4_fault : ByteArray := prog_6_method_56_code
def yX4_fault : MethodName := ⟨RX4, "fault", "(I)I"⟩
abbrev cX4_play : ByteArray := prog_6_method_57_code
def yX4_play : MethodName := ⟨RX4, "play", "()I"⟩
def RJ9 : String := "java/lang/Math"
def TJ9 : u_T := fun k => match k with
  | _ => ("", "", "", false)
def tyJ9 : Nat → FieldType := fun k => match k with
  | _ => .int
abbrev wsJ90 : List Cond := u_ws RJ9 TJ9 0
theorem nmJ9 : ∀ a, a < 0 → ∀ b, b < 0 → a ≠ b → (TJ9 a).2.1 ≠ (TJ9 b).2.1 := by decide +kernel
theorem tyJ9_ok : ∀ k, k < 0 → parseFieldDescriptor (TJ9 k).2.2.1 = some (tyJ9 k) := by decide +kernel
abbrev cJ9_min_7cf53 : ByteArray := prog_7_method_69_code
def yJ9_min_7cf53 : MethodName := ⟨RJ9, "min", "(II)I"⟩
def RJ10 : String := "java/lang/System"
def TJ10 : u_T := fun k => match k with
  | _ => ("", "", "", false)
def tyJ10 : Nat → FieldType := fun k => match k with
  | _ => .int
abbrev wsJ100 : List Cond := u_ws RJ10 TJ10 0
theorem nmJ10 : ∀ a, a < 0 → ∀ b, b < 0 → a ≠ b → (TJ10 a).2.1 ≠ (TJ10 b).2.1 := by decide +kernel
theorem tyJ10_ok : ∀ k, k < 0 → parseFieldDescriptor (TJ10 k).2.2.1 = some (tyJ10 k) := by decide +kernel
def RJ7 : String := "java/util/Arrays"
def TJ7 : u_T := fun k => match k with
  | _ => ("", "", "", false)
def tyJ7 : Nat → FieldType := fun k => match k with
  | _ => .int
abbrev wsJ70 : List Cond := u_ws RJ7 TJ7 0
theorem nmJ7 : ∀ a, a < 0 → ∀ b, b < 0 → a ≠ b → (TJ7 a).2.1 ≠ (TJ7 b).2.1 := by decide +kernel
theorem tyJ7_ok : ∀ k, k < 0 → parseFieldDescriptor (TJ7 k).2.2.1 = some (tyJ7 k) := by decide +kernel
abbrev cJ7_fill_53178 : ByteArray := prog_9_method_103_code
def yJ7_fill_53178 : MethodName := ⟨RJ7, "fill", "([II)V"⟩
def RL : String := "NoonWellsLaw"
abbrev cL_law : ByteArray := code
def yL_law : MethodName := ⟨RL, "law", "([I)Z"⟩
def wsX0_init : List Cond := .code yX0_init cX0_init 1 none :: ([.methodLink RX0 3 objectInit, .instanceMethod objectInit, .code objectInit ⟨#[0xb1]⟩ 1 none, .classLink RX0 9 "[[I", .arrayClass .int, .fieldLink RX0 11 "NoonWells$Field" "wells" "[[I", .fieldLink RX0 16 "NoonWells$Field" "droughts" "[[I", .fieldLink RX0 19 "NoonWells$Field" "requests" "[[I", .fieldLink RX0 22 "NoonWells$Field" "settings" "[I", .fieldLink RX0 26 "NoonWells$Field" "shares" "[I"] ++ wsX00)
def wsX0_copyRows : List Cond := .code yX0_copyRows cX0_copyRows 4 none :: ([.methodLink RX0 49 Lib.Math.min.name, .static Lib.Math.min.name, .initialized "java/lang/Math", .code Lib.Math.min.name Lib.Math.min.code 2 (some .int), .methodLink RX0 55 arraycopyName, .native arraycopyName, .static arraycopyName, .initialized "java/lang/System"])
def wsX0_copyFrom : List Cond := .code yX0_copyFrom cX0_copyFrom 2 none :: ([.fieldLink RX0 11 "NoonWells$Field" "wells" "[[I", .fieldLink RX0 16 "NoonWells$Field" "droughts" "[[I", .fieldLink RX0 19 "NoonWells$Field" "requests" "[[I", .fieldLink RX0 22 "NoonWells$Field" "settings" "[I", .fieldLink RX0 33 "NoonWells$Field" "wellCount" "I", .fieldLink RX0 37 "NoonWells$Field" "droughtCount" "I", .fieldLink RX0 40 "NoonWells$Field" "waiting" "I", .fieldLink RX0 43 "NoonWells$Field" "time" "I", .fieldLink RX0 46 "NoonWells$Field" "drawnBehindWaiting" "I", .methodLink RX0 29 yX0_copyRows, .static yX0_copyRows, .initialized RX0, .code yX0_copyRows cX0_copyRows 4 none, .methodLink RX0 49 Lib.Math.min.name, .static Lib.Math.min.name, .initialized "java/lang/Math", .code Lib.Math.min.name Lib.Math.min.code 2 (some .int), .methodLink RX0 55 arraycopyName, .native arraycopyName, .static arraycopyName, .initialized "java/lang/System"] ++ wsX00)
def wsX0_isWell : List Cond := .code yX0_isWell cX0_isWell 2 (some .boolean) :: ([.fieldLink RX0 33 "NoonWells$Field" "wellCount" "I"] ++ wsX00)
def wsX0_isPlace : List Cond := .code yX0_isPlace cX0_isPlace 2 (some .boolean) :: ([.fieldLink RX0 40 "NoonWells$Field" "waiting" "I"] ++ wsX00)
def wsX0_sumOf : List Cond := .code yX0_sumOf cX0_sumOf 4 (some .int) :: ([.fieldLink RX0 33 "NoonWells$Field" "wellCount" "I", .fieldLink RX0 11 "NoonWells$Field" "wells" "[[I"] ++ wsX00)
def wsX0_timeOfDay : List Cond := .code yX0_timeOfDay cX0_timeOfDay 2 (some .int) :: ([.fieldLink RX0 22 "NoonWells$Field" "settings" "[I", .fieldLink RX0 43 "NoonWells$Field" "time" "I"] ++ wsX00)
def wsX0_addWell : List Cond := .code yX0_addWell cX0_addWell 6 (some .int) :: ([.fieldLink RX0 33 "NoonWells$Field" "wellCount" "I", .fieldLink RX0 11 "NoonWells$Field" "wells" "[[I", .methodLink RX0 61 yX0_isWell, .instanceMethod yX0_isWell, .selects RX0 yX0_isWell yX0_isWell, .initialized RX0, .code yX0_isWell cX0_isWell 2 (some .boolean)] ++ wsX00)
def wsX0_wellAbove : List Cond := .code yX0_wellAbove cX0_wellAbove 6 (some .int) :: ([.methodLink RX0 49 Lib.Math.min.name, .static Lib.Math.min.name, .initialized "java/lang/Math", .code Lib.Math.min.name Lib.Math.min.code 2 (some .int), .fieldLink RX0 11 "NoonWells$Field" "wells" "[[I", .methodLink RX0 61 yX0_isWell, .instanceMethod yX0_isWell, .selects RX0 yX0_isWell yX0_isWell, .initialized RX0, .code yX0_isWell cX0_isWell 2 (some .boolean), .fieldLink RX0 33 "NoonWells$Field" "wellCount" "I"] ++ wsX00)
def wsX0_addDrought : List Cond := .code yX0_addDrought cX0_addDrought 4 (some .int) :: ([.fieldLink RX0 43 "NoonWells$Field" "time" "I", .constant RX0 65 (60000), .fieldLink RX0 37 "NoonWells$Field" "droughtCount" "I", .fieldLink RX0 16 "NoonWells$Field" "droughts" "[[I", .methodLink RX0 61 yX0_isWell, .instanceMethod yX0_isWell, .selects RX0 yX0_isWell yX0_isWell, .initialized RX0, .code yX0_isWell cX0_isWell 2 (some .boolean), .fieldLink RX0 33 "NoonWells$Field" "wellCount" "I"] ++ wsX00)
def wsX0_dryWells : List Cond := .code yX0_dryWells cX0_dryWells 4 (some .int) :: ([.fieldLink RX0 37 "NoonWells$Field" "droughtCount" "I", .fieldLink RX0 16 "NoonWells$Field" "droughts" "[[I"] ++ wsX00)
def wsX0_isDry : List Cond := .code yX0_isDry cX0_isDry 3 (some .boolean) :: ([.methodLink RX0 66 yX0_dryWells, .instanceMethod yX0_dryWells, .selects RX0 yX0_dryWells yX0_dryWells, .initialized RX0, .code yX0_dryWells cX0_dryWells 4 (some .int), .fieldLink RX0 37 "NoonWells$Field" "droughtCount" "I", .fieldLink RX0 16 "NoonWells$Field" "droughts" "[[I"] ++ wsX00)
def wsJ7_fill_53178 : List Cond := .code yJ7_fill_53178 cJ7_fill_53178 4 none :: ([])
def wsX0_shareOut : List Cond := .code yX0_shareOut cX0_shareOut 8 (some .int) :: ([.fieldLink RX0 26 "NoonWells$Field" "shares" "[I", .fieldLink RX0 11 "NoonWells$Field" "wells" "[[I", .methodLink RX0 49 Lib.Math.min.name, .static Lib.Math.min.name, .initialized "java/lang/Math", .code Lib.Math.min.name Lib.Math.min.code 2 (some .int), .methodLink RX0 70 yJ7_fill_53178, .static yJ7_fill_53178, .initialized RJ7, .code yJ7_fill_53178 cJ7_fill_53178 4 none, .methodLink RX0 61 yX0_isWell, .instanceMethod yX0_isWell, .selects RX0 yX0_isWell yX0_isWell, .initialized RX0, .code yX0_isWell cX0_isWell 2 (some .boolean), .fieldLink RX0 33 "NoonWells$Field" "wellCount" "I"] ++ wsX00)
def wsX0_pourShares : List Cond := .code yX0_pourShares cX0_pourShares 5 (some .int) :: ([.fieldLink RX0 33 "NoonWells$Field" "wellCount" "I", .fieldLink RX0 26 "NoonWells$Field" "shares" "[I", .fieldLink RX0 11 "NoonWells$Field" "wells" "[[I"] ++ wsX00)
def wsX3_areBuckets : List Cond := .code yX3_areBuckets cX3_areBuckets 1 (some .boolean) :: ([])
def wsX0_takeDraw_r1 : List Cond := [Cond.methodLink RX0 61 yX0_isWell, Cond.instanceMethod yX0_isWell, Cond.selects RX0 yX0_isWell yX0_isWell, Cond.initialized RX0, Cond.code yX0_isWell cX0_isWell 2 (some .boolean), Cond.fieldLink RX0 33 "NoonWells$Field" "wellCount" "I", Cond.static yX3_areBuckets, Cond.initialized RX3, Cond.code yX3_areBuckets cX3_areBuckets 1 (some .boolean), Cond.methodLink RX0 79 yX0_shareOut, Cond.instanceMethod yX0_shareOut, Cond.selects RX0 yX0_shareOut yX0_shareOut, Cond.code yX0_shareOut cX0_shareOut 8 (some .int), Cond.fieldLink RX0 26 "NoonWells$Field" "shares" "[I", Cond.fieldLink RX0 11 "NoonWells$Field" "wells" "[[I", Cond.methodLink RX0 49 Lib.Math.min.name, Cond.static Lib.Math.min.name, Cond.initialized "java/lang/Math", Cond.code Lib.Math.min.name Lib.Math.min.code 2 (some .int), Cond.methodLink RX0 70 yJ7_fill_53178, Cond.static yJ7_fill_53178, Cond.initialized RJ7, Cond.code yJ7_fill_53178 cJ7_fill_53178 4 none, Cond.methodLink RX0 82 yX0_pourShares]
def wsX0_takeDraw_r2 : List Cond := [Cond.instanceMethod yX0_pourShares, Cond.selects RX0 yX0_pourShares yX0_pourShares, Cond.code yX0_pourShares cX0_pourShares 5 (some .int)]
def wsX0_takeDraw : List Cond := .code yX0_takeDraw cX0_takeDraw 3 (some .int) :: ((wsX0_takeDraw_r1 ++ wsX0_takeDraw_r2) ++ wsX00)
def wsX0_takeRequest_r1 : List Cond := [Cond.fieldLink RX0 40 "NoonWells$Field" "waiting" "I", Cond.fieldLink RX0 19 "NoonWells$Field" "requests" "[[I", Cond.fieldLink RX0 43 "NoonWells$Field" "time" "I", Cond.methodLink RX0 61 yX0_isWell, Cond.instanceMethod yX0_isWell, Cond.selects RX0 yX0_isWell yX0_isWell, Cond.initialized RX0, Cond.code yX0_isWell cX0_isWell 2 (some .boolean), Cond.fieldLink RX0 33 "NoonWells$Field" "wellCount" "I", Cond.static yX3_areBuckets, Cond.initialized RX3, Cond.code yX3_areBuckets cX3_areBuckets 1 (some .boolean), Cond.methodLink RX0 79 yX0_shareOut, Cond.instanceMethod yX0_shareOut, Cond.selects RX0 yX0_shareOut yX0_shareOut, Cond.code yX0_shareOut cX0_shareOut 8 (some .int), Cond.fieldLink RX0 26 "NoonWells$Field" "shares" "[I", Cond.fieldLink RX0 11 "NoonWells$Field" "wells" "[[I", Cond.methodLink RX0 49 Lib.Math.min.name, Cond.static Lib.Math.min.name, Cond.initialized "java/lang/Math", Cond.code Lib.Math.min.name Lib.Math.min.code 2 (some .int), Cond.methodLink RX0 70 yJ7_fill_53178, Cond.static yJ7_fill_53178]
def wsX0_takeRequest_r2 : List Cond := [Cond.initialized RJ7, Cond.code yJ7_fill_53178 cJ7_fill_53178 4 none, Cond.methodLink RX0 82 yX0_pourShares, Cond.instanceMethod yX0_pourShares, Cond.selects RX0 yX0_pourShares yX0_pourShares, Cond.code yX0_pourShares cX0_pourShares 5 (some .int)]
def wsX0_takeRequest : List Cond := .code yX0_takeRequest cX0_takeRequest 3 (some .int) :: ((wsX0_takeRequest_r1 ++ wsX0_takeRequest_r2) ++ wsX00)
def wsX0_moveRequest : List Cond := .code yX0_moveRequest cX0_moveRequest 4 none :: ([.fieldLink RX0 19 "NoonWells$Field" "requests" "[[I"] ++ wsX00)
def wsX0_dropRequest : List Cond := .code yX0_dropRequest cX0_dropRequest 4 (some .int) :: ([.fieldLink RX0 19 "NoonWells$Field" "requests" "[[I", .fieldLink RX0 40 "NoonWells$Field" "waiting" "I", .methodLink RX0 85 yX0_isPlace, .instanceMethod yX0_isPlace, .selects RX0 yX0_isPlace yX0_isPlace, .initialized RX0, .code yX0_isPlace cX0_isPlace 2 (some .boolean), .methodLink RX0 88 yX0_moveRequest, .instanceMethod yX0_moveRequest, .selects RX0 yX0_moveRequest yX0_moveRequest, .code yX0_moveRequest cX0_moveRequest 4 none] ++ wsX00)
def wsX0_changeSetting : List Cond := .code yX0_changeSetting cX0_changeSetting 5 (some .int) :: ([.fieldLink RX0 22 "NoonWells$Field" "settings" "[I"] ++ wsX00)
def wsX0_roomIn : List Cond := .code yX0_roomIn cX0_roomIn 2 (some .int) :: ([.fieldLink RX0 11 "NoonWells$Field" "wells" "[[I"] ++ wsX00)
def wsX0_flowIn : List Cond := .code yX0_flowIn cX0_flowIn 5 none :: ([.fieldLink RX0 43 "NoonWells$Field" "time" "I", .fieldLink RX0 33 "NoonWells$Field" "wellCount" "I", .fieldLink RX0 11 "NoonWells$Field" "wells" "[[I", .methodLink RX0 49 Lib.Math.min.name, .static Lib.Math.min.name, .initialized "java/lang/Math", .code Lib.Math.min.name Lib.Math.min.code 2 (some .int), .methodLink RX0 66 yX0_dryWells, .instanceMethod yX0_dryWells, .selects RX0 yX0_dryWells yX0_dryWells, .initialized RX0, .code yX0_dryWells cX0_dryWells 4 (some .int), .fieldLink RX0 37 "NoonWells$Field" "droughtCount" "I", .fieldLink RX0 16 "NoonWells$Field" "droughts" "[[I", .methodLink RX0 112 yX0_roomIn, .instanceMethod yX0_roomIn, .selects RX0 yX0_roomIn yX0_roomIn, .code yX0_roomIn cX0_roomIn 2 (some .int)] ++ wsX00)
def wsX0_lendAtNoon : List Cond := .code yX0_lendAtNoon cX0_lendAtNoon 6 (some .int) :: ([.fieldLink RX0 33 "NoonWells$Field" "wellCount" "I", .fieldLink RX0 11 "NoonWells$Field" "wells" "[[I", .methodLink RX0 49 Lib.Math.min.name, .static Lib.Math.min.name, .initialized "java/lang/Math", .code Lib.Math.min.name Lib.Math.min.code 2 (some .int), .methodLink RX0 61 yX0_isWell, .instanceMethod yX0_isWell, .selects RX0 yX0_isWell yX0_isWell, .initialized RX0, .code yX0_isWell cX0_isWell 2 (some .boolean), .methodLink RX0 112 yX0_roomIn, .instanceMethod yX0_roomIn, .selects RX0 yX0_roomIn yX0_roomIn, .code yX0_roomIn cX0_roomIn 2 (some .int)] ++ wsX00)
def wsX0_payBack : List Cond := .code yX0_payBack cX0_payBack 4 none :: ([.fieldLink RX0 11 "NoonWells$Field" "wells" "[[I", .methodLink RX0 49 Lib.Math.min.name, .static Lib.Math.min.name, .initialized "java/lang/Math", .code Lib.Math.min.name Lib.Math.min.code 2 (some .int), .methodLink RX0 112 yX0_roomIn, .instanceMethod yX0_roomIn, .selects RX0 yX0_roomIn yX0_roomIn, .initialized RX0, .code yX0_roomIn cX0_roomIn 2 (some .int)] ++ wsX00)
def wsX0_payBackInEvening : List Cond := .code yX0_payBackInEvening cX0_payBackInEvening 3 none :: ([.fieldLink RX0 33 "NoonWells$Field" "wellCount" "I", .fieldLink RX0 11 "NoonWells$Field" "wells" "[[I", .methodLink RX0 115 yX0_payBack, .instanceMethod yX0_payBack, .selects RX0 yX0_payBack yX0_payBack, .initialized RX0, .code yX0_payBack cX0_payBack 4 none, .methodLink RX0 49 Lib.Math.min.name, .static Lib.Math.min.name, .initialized "java/lang/Math", .code Lib.Math.min.name Lib.Math.min.code 2 (some .int), .methodLink RX0 112 yX0_roomIn, .instanceMethod yX0_roomIn, .selects RX0 yX0_roomIn yX0_roomIn, .code yX0_roomIn cX0_roomIn 2 (some .int)] ++ wsX00)
def wsX0_serveWaiting_r1 : List Cond := [Cond.fieldLink RX0 40 "NoonWells$Field" "waiting" "I", Cond.fieldLink RX0 19 "NoonWells$Field" "requests" "[[I", Cond.fieldLink RX0 22 "NoonWells$Field" "settings" "[I", Cond.fieldLink RX0 46 "NoonWells$Field" "drawnBehindWaiting" "I", Cond.methodLink RX0 79 yX0_shareOut, Cond.instanceMethod yX0_shareOut, Cond.selects RX0 yX0_shareOut yX0_shareOut, Cond.initialized RX0, Cond.code yX0_shareOut cX0_shareOut 8 (some .int), Cond.fieldLink RX0 26 "NoonWells$Field" "shares" "[I", Cond.fieldLink RX0 11 "NoonWells$Field" "wells" "[[I", Cond.methodLink RX0 49 Lib.Math.min.name, Cond.static Lib.Math.min.name, Cond.initialized "java/lang/Math", Cond.code Lib.Math.min.name Lib.Math.min.code 2 (some .int), Cond.methodLink RX0 70 yJ7_fill_53178, Cond.static yJ7_fill_53178, Cond.initialized RJ7, Cond.code yJ7_fill_53178 cJ7_fill_53178 4 none, Cond.methodLink RX0 61 yX0_isWell, Cond.instanceMethod yX0_isWell, Cond.selects RX0 yX0_isWell yX0_isWell, Cond.code yX0_isWell cX0_isWell 2 (some .boolean), Cond.fieldLink RX0 33 "NoonWells$Field" "wellCount" "I"]
def wsX0_serveWaiting_r2 : List Cond := [Cond.methodLink RX0 82 yX0_pourShares, Cond.instanceMethod yX0_pourShares, Cond.selects RX0 yX0_pourShares yX0_pourShares, Cond.code yX0_pourShares cX0_pourShares 5 (some .int), Cond.methodLink RX0 88 yX0_moveRequest, Cond.instanceMethod yX0_moveRequest, Cond.selects RX0 yX0_moveRequest yX0_moveRequest, Cond.code yX0_moveRequest cX0_moveRequest 4 none]
def wsX0_serveWaiting : List Cond := .code yX0_serveWaiting cX0_serveWaiting 7 (some .int) :: ((wsX0_serveWaiting_r1 ++ wsX0_serveWaiting_r2) ++ wsX00)
def wsX0_passTick_r1 : List Cond := [Cond.fieldLink RX0 43 "NoonWells$Field" "time" "I", Cond.fieldLink RX0 22 "NoonWells$Field" "settings" "[I", Cond.methodLink RX0 97 yX0_flowIn, Cond.instanceMethod yX0_flowIn, Cond.selects RX0 yX0_flowIn yX0_flowIn, Cond.initialized RX0, Cond.code yX0_flowIn cX0_flowIn 5 none, Cond.fieldLink RX0 33 "NoonWells$Field" "wellCount" "I", Cond.fieldLink RX0 11 "NoonWells$Field" "wells" "[[I", Cond.methodLink RX0 49 Lib.Math.min.name, Cond.static Lib.Math.min.name, Cond.initialized "java/lang/Math", Cond.code Lib.Math.min.name Lib.Math.min.code 2 (some .int), Cond.methodLink RX0 66 yX0_dryWells, Cond.instanceMethod yX0_dryWells, Cond.selects RX0 yX0_dryWells yX0_dryWells, Cond.code yX0_dryWells cX0_dryWells 4 (some .int), Cond.fieldLink RX0 37 "NoonWells$Field" "droughtCount" "I", Cond.fieldLink RX0 16 "NoonWells$Field" "droughts" "[[I", Cond.methodLink RX0 112 yX0_roomIn, Cond.instanceMethod yX0_roomIn, Cond.selects RX0 yX0_roomIn yX0_roomIn, Cond.code yX0_roomIn cX0_roomIn 2 (some .int), Cond.methodLink RX0 100 yX0_timeOfDay]
def wsX0_passTick_r2 : List Cond := [Cond.instanceMethod yX0_timeOfDay, Cond.selects RX0 yX0_timeOfDay yX0_timeOfDay, Cond.code yX0_timeOfDay cX0_timeOfDay 2 (some .int), Cond.methodLink RX0 103 yX0_lendAtNoon, Cond.instanceMethod yX0_lendAtNoon, Cond.selects RX0 yX0_lendAtNoon yX0_lendAtNoon, Cond.code yX0_lendAtNoon cX0_lendAtNoon 6 (some .int), Cond.methodLink RX0 61 yX0_isWell, Cond.instanceMethod yX0_isWell, Cond.selects RX0 yX0_isWell yX0_isWell, Cond.code yX0_isWell cX0_isWell 2 (some .boolean), Cond.methodLink RX0 106 yX0_payBackInEvening, Cond.instanceMethod yX0_payBackInEvening, Cond.selects RX0 yX0_payBackInEvening yX0_payBackInEvening, Cond.code yX0_payBackInEvening cX0_payBackInEvening 3 none, Cond.methodLink RX0 115 yX0_payBack, Cond.instanceMethod yX0_payBack, Cond.selects RX0 yX0_payBack yX0_payBack, Cond.code yX0_payBack cX0_payBack 4 none, Cond.methodLink RX0 109 yX0_serveWaiting, Cond.instanceMethod yX0_serveWaiting, Cond.selects RX0 yX0_serveWaiting yX0_serveWaiting, Cond.code yX0_serveWaiting cX0_serveWaiting 7 (some .int), Cond.fieldLink RX0 40 "NoonWells$Field" "waiting" "I"]
def wsX0_passTick_r3 : List Cond := [Cond.fieldLink RX0 19 "NoonWells$Field" "requests" "[[I", Cond.fieldLink RX0 46 "NoonWells$Field" "drawnBehindWaiting" "I", Cond.methodLink RX0 79 yX0_shareOut, Cond.instanceMethod yX0_shareOut, Cond.selects RX0 yX0_shareOut yX0_shareOut, Cond.code yX0_shareOut cX0_shareOut 8 (some .int), Cond.fieldLink RX0 26 "NoonWells$Field" "shares" "[I", Cond.methodLink RX0 70 yJ7_fill_53178, Cond.static yJ7_fill_53178, Cond.initialized RJ7, Cond.code yJ7_fill_53178 cJ7_fill_53178 4 none, Cond.methodLink RX0 82 yX0_pourShares, Cond.instanceMethod yX0_pourShares, Cond.selects RX0 yX0_pourShares yX0_pourShares, Cond.code yX0_pourShares cX0_pourShares 5 (some .int), Cond.methodLink RX0 88 yX0_moveRequest, Cond.instanceMethod yX0_moveRequest, Cond.selects RX0 yX0_moveRequest yX0_moveRequest, Cond.code yX0_moveRequest cX0_moveRequest 4 none]
def wsX0_passTick : List Cond := .code yX0_passTick cX0_passTick 1 (some .int) :: ((wsX0_passTick_r1 ++ (wsX0_passTick_r2 ++ wsX0_passTick_r3)) ++ wsX00)
def wsX0_passTicks_r1 : List Cond := [Cond.fieldLink RX0 43 "NoonWells$Field" "time" "I", Cond.constant RX0 92 (50000), Cond.methodLink RX0 93 yX0_passTick, Cond.instanceMethod yX0_passTick, Cond.selects RX0 yX0_passTick yX0_passTick, Cond.initialized RX0, Cond.code yX0_passTick cX0_passTick 1 (some .int), Cond.fieldLink RX0 22 "NoonWells$Field" "settings" "[I", Cond.methodLink RX0 97 yX0_flowIn, Cond.instanceMethod yX0_flowIn, Cond.selects RX0 yX0_flowIn yX0_flowIn, Cond.code yX0_flowIn cX0_flowIn 5 none, Cond.fieldLink RX0 33 "NoonWells$Field" "wellCount" "I", Cond.fieldLink RX0 11 "NoonWells$Field" "wells" "[[I", Cond.methodLink RX0 49 Lib.Math.min.name, Cond.static Lib.Math.min.name, Cond.initialized "java/lang/Math", Cond.code Lib.Math.min.name Lib.Math.min.code 2 (some .int), Cond.methodLink RX0 66 yX0_dryWells, Cond.instanceMethod yX0_dryWells, Cond.selects RX0 yX0_dryWells yX0_dryWells, Cond.code yX0_dryWells cX0_dryWells 4 (some .int), Cond.fieldLink RX0 37 "NoonWells$Field" "droughtCount" "I", Cond.fieldLink RX0 16 "NoonWells$Field" "droughts" "[[I"]
def wsX0_passTicks_r2 : List Cond := [Cond.methodLink RX0 112 yX0_roomIn, Cond.instanceMethod yX0_roomIn, Cond.selects RX0 yX0_roomIn yX0_roomIn, Cond.code yX0_roomIn cX0_roomIn 2 (some .int), Cond.methodLink RX0 100 yX0_timeOfDay, Cond.instanceMethod yX0_timeOfDay, Cond.selects RX0 yX0_timeOfDay yX0_timeOfDay, Cond.code yX0_timeOfDay cX0_timeOfDay 2 (some .int), Cond.methodLink RX0 103 yX0_lendAtNoon, Cond.instanceMethod yX0_lendAtNoon, Cond.selects RX0 yX0_lendAtNoon yX0_lendAtNoon, Cond.code yX0_lendAtNoon cX0_lendAtNoon 6 (some .int), Cond.methodLink RX0 61 yX0_isWell, Cond.instanceMethod yX0_isWell, Cond.selects RX0 yX0_isWell yX0_isWell, Cond.code yX0_isWell cX0_isWell 2 (some .boolean), Cond.methodLink RX0 106 yX0_payBackInEvening, Cond.instanceMethod yX0_payBackInEvening, Cond.selects RX0 yX0_payBackInEvening yX0_payBackInEvening, Cond.code yX0_payBackInEvening cX0_payBackInEvening 3 none, Cond.methodLink RX0 115 yX0_payBack, Cond.instanceMethod yX0_payBack, Cond.selects RX0 yX0_payBack yX0_payBack, Cond.code yX0_payBack cX0_payBack 4 none]
def wsX0_passTicks_r3 : List Cond := [Cond.methodLink RX0 109 yX0_serveWaiting, Cond.instanceMethod yX0_serveWaiting, Cond.selects RX0 yX0_serveWaiting yX0_serveWaiting, Cond.code yX0_serveWaiting cX0_serveWaiting 7 (some .int), Cond.fieldLink RX0 40 "NoonWells$Field" "waiting" "I", Cond.fieldLink RX0 19 "NoonWells$Field" "requests" "[[I", Cond.fieldLink RX0 46 "NoonWells$Field" "drawnBehindWaiting" "I", Cond.methodLink RX0 79 yX0_shareOut, Cond.instanceMethod yX0_shareOut, Cond.selects RX0 yX0_shareOut yX0_shareOut, Cond.code yX0_shareOut cX0_shareOut 8 (some .int), Cond.fieldLink RX0 26 "NoonWells$Field" "shares" "[I", Cond.methodLink RX0 70 yJ7_fill_53178, Cond.static yJ7_fill_53178, Cond.initialized RJ7, Cond.code yJ7_fill_53178 cJ7_fill_53178 4 none, Cond.methodLink RX0 82 yX0_pourShares, Cond.instanceMethod yX0_pourShares, Cond.selects RX0 yX0_pourShares yX0_pourShares, Cond.code yX0_pourShares cX0_pourShares 5 (some .int), Cond.methodLink RX0 88 yX0_moveRequest, Cond.instanceMethod yX0_moveRequest, Cond.selects RX0 yX0_moveRequest yX0_moveRequest, Cond.code yX0_moveRequest cX0_moveRequest 4 none]
def wsX0_passTicks : List Cond := .code yX0_passTicks cX0_passTicks 4 (some .int) :: ((wsX0_passTicks_r1 ++ (wsX0_passTicks_r2 ++ wsX0_passTicks_r3)) ++ wsX00)
def wsX1_init : List Cond := .code yX1_init cX1_init 2 none :: ([.methodLink RX1 3 objectInit, .instanceMethod objectInit, .code objectInit ⟨#[0xb1]⟩ 1 none, .classLink RX1 11 RX0, .fieldLink RX1 13 "NoonWells$History" "states" "[LNoonWells$Field;", .instantiable RX0 10, .initialized RX0, .methodLink RX1 17 yX0_init, .instanceMethod yX0_init, .code yX0_init cX0_init 1 none, .methodLink RX0 3 objectInit, .classLink RX0 9 "[[I", .arrayClass .int, .fieldLink RX0 11 "NoonWells$Field" "wells" "[[I", .fieldLink RX0 16 "NoonWells$Field" "droughts" "[[I", .fieldLink RX0 19 "NoonWells$Field" "requests" "[[I", .fieldLink RX0 22 "NoonWells$Field" "settings" "[I", .fieldLink RX0 26 "NoonWells$Field" "shares" "[I"] ++ wsX10 ++ wsX00)
def wsX1_note_r1 : List Cond := [Cond.fieldLink RX1 13 "NoonWells$History" "states" "[LNoonWells$Field;", Cond.fieldLink RX1 18 "NoonWells$History" "oldest" "I", Cond.fieldLink RX1 22 "NoonWells$History" "size" "I", Cond.methodLink RX1 25 yX0_copyFrom, Cond.instanceMethod yX0_copyFrom, Cond.selects RX0 yX0_copyFrom yX0_copyFrom, Cond.initialized RX0, Cond.code yX0_copyFrom cX0_copyFrom 2 none, Cond.fieldLink RX0 11 "NoonWells$Field" "wells" "[[I", Cond.fieldLink RX0 16 "NoonWells$Field" "droughts" "[[I", Cond.fieldLink RX0 19 "NoonWells$Field" "requests" "[[I", Cond.fieldLink RX0 22 "NoonWells$Field" "settings" "[I", Cond.fieldLink RX0 33 "NoonWells$Field" "wellCount" "I", Cond.fieldLink RX0 37 "NoonWells$Field" "droughtCount" "I", Cond.fieldLink RX0 40 "NoonWells$Field" "waiting" "I", Cond.fieldLink RX0 43 "NoonWells$Field" "time" "I", Cond.fieldLink RX0 46 "NoonWells$Field" "drawnBehindWaiting" "I", Cond.methodLink RX0 29 yX0_copyRows, Cond.static yX0_copyRows, Cond.code yX0_copyRows cX0_copyRows 4 none, Cond.methodLink RX0 49 Lib.Math.min.name, Cond.static Lib.Math.min.name, Cond.initialized "java/lang/Math", Cond.code Lib.Math.min.name Lib.Math.min.code 2 (some .int)]
def wsX1_note_r2 : List Cond := [Cond.methodLink RX0 55 arraycopyName, Cond.native arraycopyName, Cond.static arraycopyName, Cond.initialized "java/lang/System"]
def wsX1_note : List Cond := .code yX1_note cX1_note 2 none :: ((wsX1_note_r1 ++ wsX1_note_r2) ++ wsX10 ++ wsX00)
def wsX1_keep : List Cond := .code yX1_keep cX1_keep 1 none :: ([.fieldLink RX1 22 "NoonWells$History" "size" "I", .fieldLink RX1 18 "NoonWells$History" "oldest" "I"] ++ wsX10)
def wsX1_giveBack_r1 : List Cond := [Cond.fieldLink RX1 22 "NoonWells$History" "size" "I", Cond.fieldLink RX1 13 "NoonWells$History" "states" "[LNoonWells$Field;", Cond.fieldLink RX1 18 "NoonWells$History" "oldest" "I", Cond.methodLink RX1 25 yX0_copyFrom, Cond.instanceMethod yX0_copyFrom, Cond.selects RX0 yX0_copyFrom yX0_copyFrom, Cond.initialized RX0, Cond.code yX0_copyFrom cX0_copyFrom 2 none, Cond.fieldLink RX0 11 "NoonWells$Field" "wells" "[[I", Cond.fieldLink RX0 16 "NoonWells$Field" "droughts" "[[I", Cond.fieldLink RX0 19 "NoonWells$Field" "requests" "[[I", Cond.fieldLink RX0 22 "NoonWells$Field" "settings" "[I", Cond.fieldLink RX0 33 "NoonWells$Field" "wellCount" "I", Cond.fieldLink RX0 37 "NoonWells$Field" "droughtCount" "I", Cond.fieldLink RX0 40 "NoonWells$Field" "waiting" "I", Cond.fieldLink RX0 43 "NoonWells$Field" "time" "I", Cond.fieldLink RX0 46 "NoonWells$Field" "drawnBehindWaiting" "I", Cond.methodLink RX0 29 yX0_copyRows, Cond.static yX0_copyRows, Cond.code yX0_copyRows cX0_copyRows 4 none, Cond.methodLink RX0 49 Lib.Math.min.name, Cond.static Lib.Math.min.name, Cond.initialized "java/lang/Math", Cond.code Lib.Math.min.name Lib.Math.min.code 2 (some .int)]
def wsX1_giveBack_r2 : List Cond := [Cond.methodLink RX0 55 arraycopyName, Cond.native arraycopyName, Cond.static arraycopyName, Cond.initialized "java/lang/System"]
def wsX1_giveBack : List Cond := .code yX1_giveBack cX1_giveBack 2 none :: ((wsX1_giveBack_r1 ++ wsX1_giveBack_r2) ++ wsX10 ++ wsX00)
def wsX2_init : List Cond := .code yX2_init cX2_init 1 none :: ([.methodLink RX2 3 objectInit, .instanceMethod objectInit, .code objectInit ⟨#[0xb1]⟩ 1 none, .arrayClass .char, .fieldLink RX2 9 "NoonWells$Script" "signs" "[C", .arrayClass .int, .fieldLink RX2 15 "NoonWells$Script" "numbers" "[I"] ++ wsX20)
def wsX2_append : List Cond := .code yX2_append cX2_append 2 (some .boolean) :: ([.fieldLink RX2 19 "NoonWells$Script" "length" "I", .fieldLink RX2 9 "NoonWells$Script" "signs" "[C"] ++ wsX20)
def wsX2_numbersOf : List Cond := .code yX2_numbersOf cX2_numbersOf 1 (some .int) :: ([])
def wsX2_isDigit : List Cond := .code yX2_isDigit cX2_isDigit 1 (some .boolean) :: ([])
def wsX2_readNumber : List Cond := .code yX2_readNumber cX2_readNumber 4 (some .boolean) :: ([.fieldLink RX2 32 "NoonWells$Script" "next" "I", .fieldLink RX2 19 "NoonWells$Script" "length" "I", .fieldLink RX2 9 "NoonWells$Script" "signs" "[C", .fieldLink RX2 15 "NoonWells$Script" "numbers" "[I", .methodLink RX2 51 yX2_isDigit, .static yX2_isDigit, .initialized RX2, .code yX2_isDigit cX2_isDigit 1 (some .boolean)] ++ wsX20)
def wsX2_readOrder : List Cond := .code yX2_readOrder cX2_readOrder 5 (some .boolean) :: ([.fieldLink RX2 32 "NoonWells$Script" "next" "I", .fieldLink RX2 19 "NoonWells$Script" "length" "I", .fieldLink RX2 9 "NoonWells$Script" "signs" "[C", .methodLink RX2 43 yX2_numbersOf, .static yX2_numbersOf, .initialized RX2, .code yX2_numbersOf cX2_numbersOf 1 (some .int), .methodLink RX2 47 yX2_readNumber, .instanceMethod yX2_readNumber, .selects RX2 yX2_readNumber yX2_readNumber, .code yX2_readNumber cX2_readNumber 4 (some .boolean), .fieldLink RX2 15 "NoonWells$Script" "numbers" "[I", .methodLink RX2 51 yX2_isDigit, .static yX2_isDigit, .code yX2_isDigit cX2_isDigit 1 (some .boolean)] ++ wsX20)
def wsX2_doOrder_r1 : List Cond := [Cond.fieldLink RX2 15 "NoonWells$Script" "numbers" "[I", Cond.methodLink RX2 54 yX0_takeDraw, Cond.instanceMethod yX0_takeDraw, Cond.selects RX0 yX0_takeDraw yX0_takeDraw, Cond.initialized RX0, Cond.code yX0_takeDraw cX0_takeDraw 3 (some .int), Cond.methodLink RX0 61 yX0_isWell, Cond.instanceMethod yX0_isWell, Cond.selects RX0 yX0_isWell yX0_isWell, Cond.code yX0_isWell cX0_isWell 2 (some .boolean), Cond.fieldLink RX0 33 "NoonWells$Field" "wellCount" "I", Cond.static yX3_areBuckets, Cond.initialized RX3, Cond.code yX3_areBuckets cX3_areBuckets 1 (some .boolean), Cond.methodLink RX0 79 yX0_shareOut, Cond.instanceMethod yX0_shareOut, Cond.selects RX0 yX0_shareOut yX0_shareOut, Cond.code yX0_shareOut cX0_shareOut 8 (some .int), Cond.fieldLink RX0 26 "NoonWells$Field" "shares" "[I", Cond.fieldLink RX0 11 "NoonWells$Field" "wells" "[[I", Cond.methodLink RX0 49 Lib.Math.min.name, Cond.static Lib.Math.min.name, Cond.initialized "java/lang/Math", Cond.code Lib.Math.min.name Lib.Math.min.code 2 (some .int)]
def wsX2_doOrder_r2 : List Cond := [Cond.methodLink RX0 70 yJ7_fill_53178, Cond.static yJ7_fill_53178, Cond.initialized RJ7, Cond.code yJ7_fill_53178 cJ7_fill_53178 4 none, Cond.methodLink RX0 82 yX0_pourShares, Cond.instanceMethod yX0_pourShares, Cond.selects RX0 yX0_pourShares yX0_pourShares, Cond.code yX0_pourShares cX0_pourShares 5 (some .int), Cond.methodLink RX2 60 yX0_takeRequest, Cond.instanceMethod yX0_takeRequest, Cond.selects RX0 yX0_takeRequest yX0_takeRequest, Cond.code yX0_takeRequest cX0_takeRequest 3 (some .int), Cond.fieldLink RX0 40 "NoonWells$Field" "waiting" "I", Cond.fieldLink RX0 19 "NoonWells$Field" "requests" "[[I", Cond.fieldLink RX0 43 "NoonWells$Field" "time" "I", Cond.methodLink RX2 63 yX0_passTicks, Cond.instanceMethod yX0_passTicks, Cond.selects RX0 yX0_passTicks yX0_passTicks, Cond.code yX0_passTicks cX0_passTicks 4 (some .int), Cond.constant RX0 92 (50000), Cond.methodLink RX0 93 yX0_passTick, Cond.instanceMethod yX0_passTick, Cond.selects RX0 yX0_passTick yX0_passTick, Cond.code yX0_passTick cX0_passTick 1 (some .int)]
def wsX2_doOrder_r3 : List Cond := [Cond.fieldLink RX0 22 "NoonWells$Field" "settings" "[I", Cond.methodLink RX0 97 yX0_flowIn, Cond.instanceMethod yX0_flowIn, Cond.selects RX0 yX0_flowIn yX0_flowIn, Cond.code yX0_flowIn cX0_flowIn 5 none, Cond.methodLink RX0 66 yX0_dryWells, Cond.instanceMethod yX0_dryWells, Cond.selects RX0 yX0_dryWells yX0_dryWells, Cond.code yX0_dryWells cX0_dryWells 4 (some .int), Cond.fieldLink RX0 37 "NoonWells$Field" "droughtCount" "I", Cond.fieldLink RX0 16 "NoonWells$Field" "droughts" "[[I", Cond.methodLink RX0 112 yX0_roomIn, Cond.instanceMethod yX0_roomIn, Cond.selects RX0 yX0_roomIn yX0_roomIn, Cond.code yX0_roomIn cX0_roomIn 2 (some .int), Cond.methodLink RX0 100 yX0_timeOfDay, Cond.instanceMethod yX0_timeOfDay, Cond.selects RX0 yX0_timeOfDay yX0_timeOfDay, Cond.code yX0_timeOfDay cX0_timeOfDay 2 (some .int), Cond.methodLink RX0 103 yX0_lendAtNoon, Cond.instanceMethod yX0_lendAtNoon, Cond.selects RX0 yX0_lendAtNoon yX0_lendAtNoon, Cond.code yX0_lendAtNoon cX0_lendAtNoon 6 (some .int), Cond.methodLink RX0 106 yX0_payBackInEvening]
def wsX2_doOrder_r4 : List Cond := [Cond.instanceMethod yX0_payBackInEvening, Cond.selects RX0 yX0_payBackInEvening yX0_payBackInEvening, Cond.code yX0_payBackInEvening cX0_payBackInEvening 3 none, Cond.methodLink RX0 115 yX0_payBack, Cond.instanceMethod yX0_payBack, Cond.selects RX0 yX0_payBack yX0_payBack, Cond.code yX0_payBack cX0_payBack 4 none, Cond.methodLink RX0 109 yX0_serveWaiting, Cond.instanceMethod yX0_serveWaiting, Cond.selects RX0 yX0_serveWaiting yX0_serveWaiting, Cond.code yX0_serveWaiting cX0_serveWaiting 7 (some .int), Cond.fieldLink RX0 46 "NoonWells$Field" "drawnBehindWaiting" "I", Cond.methodLink RX0 88 yX0_moveRequest, Cond.instanceMethod yX0_moveRequest, Cond.selects RX0 yX0_moveRequest yX0_moveRequest, Cond.code yX0_moveRequest cX0_moveRequest 4 none, Cond.methodLink RX2 70 yX0_addDrought, Cond.instanceMethod yX0_addDrought, Cond.selects RX0 yX0_addDrought yX0_addDrought, Cond.code yX0_addDrought cX0_addDrought 4 (some .int), Cond.constant RX0 65 (60000)]
def wsX2_doOrder : List Cond := .code yX2_doOrder cX2_doOrder 3 (some .int) :: ((wsX2_doOrder_r1 ++ (wsX2_doOrder_r2 ++ (wsX2_doOrder_r3 ++ wsX2_doOrder_r4))) ++ wsX20 ++ wsX00)
def wsX2_runOn_r1 : List Cond := [Cond.fieldLink RX2 23 "NoonWells$Script" "orders" "I", Cond.fieldLink RX2 26 "NoonWells$Script" "faultAt" "I", Cond.fieldLink RX2 29 "NoonWells$Script" "reason" "I", Cond.fieldLink RX2 32 "NoonWells$Script" "next" "I", Cond.fieldLink RX2 19 "NoonWells$Script" "length" "I", Cond.fieldLink RX2 9 "NoonWells$Script" "signs" "[C", Cond.methodLink RX2 35 yX2_readOrder, Cond.instanceMethod yX2_readOrder, Cond.selects RX2 yX2_readOrder yX2_readOrder, Cond.initialized RX2, Cond.code yX2_readOrder cX2_readOrder 5 (some .boolean), Cond.methodLink RX2 43 yX2_numbersOf, Cond.static yX2_numbersOf, Cond.code yX2_numbersOf cX2_numbersOf 1 (some .int), Cond.methodLink RX2 47 yX2_readNumber, Cond.instanceMethod yX2_readNumber, Cond.selects RX2 yX2_readNumber yX2_readNumber, Cond.code yX2_readNumber cX2_readNumber 4 (some .boolean), Cond.fieldLink RX2 15 "NoonWells$Script" "numbers" "[I", Cond.methodLink RX2 51 yX2_isDigit, Cond.static yX2_isDigit, Cond.code yX2_isDigit cX2_isDigit 1 (some .boolean), Cond.methodLink RX2 39 yX2_doOrder, Cond.instanceMethod yX2_doOrder]
def wsX2_runOn_r2 : List Cond := [Cond.selects RX2 yX2_doOrder yX2_doOrder, Cond.code yX2_doOrder cX2_doOrder 3 (some .int), Cond.methodLink RX2 54 yX0_takeDraw, Cond.instanceMethod yX0_takeDraw, Cond.selects RX0 yX0_takeDraw yX0_takeDraw, Cond.initialized RX0, Cond.code yX0_takeDraw cX0_takeDraw 3 (some .int), Cond.methodLink RX0 61 yX0_isWell, Cond.instanceMethod yX0_isWell, Cond.selects RX0 yX0_isWell yX0_isWell, Cond.code yX0_isWell cX0_isWell 2 (some .boolean), Cond.fieldLink RX0 33 "NoonWells$Field" "wellCount" "I", Cond.static yX3_areBuckets, Cond.initialized RX3, Cond.code yX3_areBuckets cX3_areBuckets 1 (some .boolean), Cond.methodLink RX0 79 yX0_shareOut, Cond.instanceMethod yX0_shareOut, Cond.selects RX0 yX0_shareOut yX0_shareOut, Cond.code yX0_shareOut cX0_shareOut 8 (some .int), Cond.fieldLink RX0 26 "NoonWells$Field" "shares" "[I", Cond.fieldLink RX0 11 "NoonWells$Field" "wells" "[[I", Cond.methodLink RX0 49 Lib.Math.min.name, Cond.static Lib.Math.min.name, Cond.initialized "java/lang/Math"]
def wsX2_runOn_r3 : List Cond := [Cond.code Lib.Math.min.name Lib.Math.min.code 2 (some .int), Cond.methodLink RX0 70 yJ7_fill_53178, Cond.static yJ7_fill_53178, Cond.initialized RJ7, Cond.code yJ7_fill_53178 cJ7_fill_53178 4 none, Cond.methodLink RX0 82 yX0_pourShares, Cond.instanceMethod yX0_pourShares, Cond.selects RX0 yX0_pourShares yX0_pourShares, Cond.code yX0_pourShares cX0_pourShares 5 (some .int), Cond.methodLink RX2 60 yX0_takeRequest, Cond.instanceMethod yX0_takeRequest, Cond.selects RX0 yX0_takeRequest yX0_takeRequest, Cond.code yX0_takeRequest cX0_takeRequest 3 (some .int), Cond.fieldLink RX0 40 "NoonWells$Field" "waiting" "I", Cond.fieldLink RX0 19 "NoonWells$Field" "requests" "[[I", Cond.fieldLink RX0 43 "NoonWells$Field" "time" "I", Cond.methodLink RX2 63 yX0_passTicks, Cond.instanceMethod yX0_passTicks, Cond.selects RX0 yX0_passTicks yX0_passTicks, Cond.code yX0_passTicks cX0_passTicks 4 (some .int), Cond.constant RX0 92 (50000), Cond.methodLink RX0 93 yX0_passTick, Cond.instanceMethod yX0_passTick, Cond.selects RX0 yX0_passTick yX0_passTick]
def wsX2_runOn_r4 : List Cond := [Cond.code yX0_passTick cX0_passTick 1 (some .int), Cond.fieldLink RX0 22 "NoonWells$Field" "settings" "[I", Cond.methodLink RX0 97 yX0_flowIn, Cond.instanceMethod yX0_flowIn, Cond.selects RX0 yX0_flowIn yX0_flowIn, Cond.code yX0_flowIn cX0_flowIn 5 none, Cond.methodLink RX0 66 yX0_dryWells, Cond.instanceMethod yX0_dryWells, Cond.selects RX0 yX0_dryWells yX0_dryWells, Cond.code yX0_dryWells cX0_dryWells 4 (some .int), Cond.fieldLink RX0 37 "NoonWells$Field" "droughtCount" "I", Cond.fieldLink RX0 16 "NoonWells$Field" "droughts" "[[I", Cond.methodLink RX0 112 yX0_roomIn, Cond.instanceMethod yX0_roomIn, Cond.selects RX0 yX0_roomIn yX0_roomIn, Cond.code yX0_roomIn cX0_roomIn 2 (some .int), Cond.methodLink RX0 100 yX0_timeOfDay, Cond.instanceMethod yX0_timeOfDay, Cond.selects RX0 yX0_timeOfDay yX0_timeOfDay, Cond.code yX0_timeOfDay cX0_timeOfDay 2 (some .int), Cond.methodLink RX0 103 yX0_lendAtNoon, Cond.instanceMethod yX0_lendAtNoon, Cond.selects RX0 yX0_lendAtNoon yX0_lendAtNoon, Cond.code yX0_lendAtNoon cX0_lendAtNoon 6 (some .int)]
def wsX2_runOn_r5 : List Cond := [Cond.methodLink RX0 106 yX0_payBackInEvening, Cond.instanceMethod yX0_payBackInEvening, Cond.selects RX0 yX0_payBackInEvening yX0_payBackInEvening, Cond.code yX0_payBackInEvening cX0_payBackInEvening 3 none, Cond.methodLink RX0 115 yX0_payBack, Cond.instanceMethod yX0_payBack, Cond.selects RX0 yX0_payBack yX0_payBack, Cond.code yX0_payBack cX0_payBack 4 none, Cond.methodLink RX0 109 yX0_serveWaiting, Cond.instanceMethod yX0_serveWaiting, Cond.selects RX0 yX0_serveWaiting yX0_serveWaiting, Cond.code yX0_serveWaiting cX0_serveWaiting 7 (some .int), Cond.fieldLink RX0 46 "NoonWells$Field" "drawnBehindWaiting" "I", Cond.methodLink RX0 88 yX0_moveRequest, Cond.instanceMethod yX0_moveRequest, Cond.selects RX0 yX0_moveRequest yX0_moveRequest, Cond.code yX0_moveRequest cX0_moveRequest 4 none, Cond.methodLink RX2 70 yX0_addDrought, Cond.instanceMethod yX0_addDrought, Cond.selects RX0 yX0_addDrought yX0_addDrought, Cond.code yX0_addDrought cX0_addDrought 4 (some .int), Cond.constant RX0 65 (60000)]
def wsX2_runOn : List Cond := .code yX2_runOn cX2_runOn 5 none :: ((wsX2_runOn_r1 ++ (wsX2_runOn_r2 ++ (wsX2_runOn_r3 ++ (wsX2_runOn_r4 ++ wsX2_runOn_r5)))) ++ wsX20 ++ wsX00)
def wsX3_init_r1 : List Cond := [Cond.methodLink RX3 3 objectInit, Cond.instanceMethod objectInit, Cond.code objectInit ⟨#[0xb1]⟩ 1 none, Cond.classLink RX3 9 RX0, Cond.instantiable RX0 10, Cond.initialized RX0, Cond.fieldLink RX3 12 "NoonWells" "now" "LNoonWells$Field;", Cond.fieldLink RX3 16 "NoonWells" "trial" "LNoonWells$Field;", Cond.classLink RX3 19 RX1, Cond.instantiable RX1 3, Cond.initialized RX1, Cond.fieldLink RX3 22 "NoonWells" "history" "LNoonWells$History;", Cond.classLink RX3 26 RX2, Cond.instantiable RX2 7, Cond.initialized RX2, Cond.fieldLink RX3 29 "NoonWells" "script" "LNoonWells$Script;", Cond.methodLink RX3 11 yX0_init, Cond.instanceMethod yX0_init, Cond.code yX0_init cX0_init 1 none, Cond.methodLink RX0 3 objectInit, Cond.classLink RX0 9 "[[I", Cond.arrayClass .int, Cond.fieldLink RX0 11 "NoonWells$Field" "wells" "[[I", Cond.fieldLink RX0 16 "NoonWells$Field" "droughts" "[[I"]
def wsX3_init_r2 : List Cond := [Cond.fieldLink RX0 19 "NoonWells$Field" "requests" "[[I", Cond.fieldLink RX0 22 "NoonWells$Field" "settings" "[I", Cond.fieldLink RX0 26 "NoonWells$Field" "shares" "[I", Cond.methodLink RX3 21 yX1_init, Cond.instanceMethod yX1_init, Cond.code yX1_init cX1_init 2 none, Cond.methodLink RX1 3 objectInit, Cond.classLink RX1 11 RX0, Cond.fieldLink RX1 13 "NoonWells$History" "states" "[LNoonWells$Field;", Cond.methodLink RX1 17 yX0_init, Cond.instanceMethod yX2_init, Cond.code yX2_init cX2_init 1 none, Cond.methodLink RX2 3 objectInit, Cond.arrayClass .char, Cond.fieldLink RX2 9 "NoonWells$Script" "signs" "[C", Cond.fieldLink RX2 15 "NoonWells$Script" "numbers" "[I"]
def wsX3_init : List Cond := .code yX3_init cX3_init 1 none :: ((wsX3_init_r1 ++ wsX3_init_r2) ++ wsX00 ++ wsX30 ++ wsX10 ++ wsX20)
def wsX3_keepIfDone : List Cond := .code yX3_keepIfDone cX3_keepIfDone 2 (some .int) :: ([.fieldLink RX3 22 "NoonWells" "history" "LNoonWells$History;", .methodLink RX3 159 yX1_keep, .instanceMethod yX1_keep, .selects RX1 yX1_keep yX1_keep, .initialized RX1, .code yX1_keep cX1_keep 1 none, .fieldLink RX1 22 "NoonWells$History" "size" "I", .fieldLink RX1 18 "NoonWells$History" "oldest" "I"] ++ wsX30 ++ wsX10)
def wsX3_well_r1 : List Cond := [Cond.fieldLink RX3 22 "NoonWells" "history" "LNoonWells$History;", Cond.fieldLink RX3 12 "NoonWells" "now" "LNoonWells$Field;", Cond.methodLink RX3 33 yX1_note, Cond.instanceMethod yX1_note, Cond.selects RX1 yX1_note yX1_note, Cond.initialized RX1, Cond.code yX1_note cX1_note 2 none, Cond.fieldLink RX1 13 "NoonWells$History" "states" "[LNoonWells$Field;", Cond.fieldLink RX1 18 "NoonWells$History" "oldest" "I", Cond.fieldLink RX1 22 "NoonWells$History" "size" "I", Cond.methodLink RX1 25 yX0_copyFrom, Cond.instanceMethod yX0_copyFrom, Cond.selects RX0 yX0_copyFrom yX0_copyFrom, Cond.initialized RX0, Cond.code yX0_copyFrom cX0_copyFrom 2 none, Cond.fieldLink RX0 11 "NoonWells$Field" "wells" "[[I", Cond.fieldLink RX0 16 "NoonWells$Field" "droughts" "[[I", Cond.fieldLink RX0 19 "NoonWells$Field" "requests" "[[I", Cond.fieldLink RX0 22 "NoonWells$Field" "settings" "[I", Cond.fieldLink RX0 33 "NoonWells$Field" "wellCount" "I", Cond.fieldLink RX0 37 "NoonWells$Field" "droughtCount" "I", Cond.fieldLink RX0 40 "NoonWells$Field" "waiting" "I", Cond.fieldLink RX0 43 "NoonWells$Field" "time" "I", Cond.fieldLink RX0 46 "NoonWells$Field" "drawnBehindWaiting" "I"]
def wsX3_well_r2 : List Cond := [Cond.methodLink RX0 29 yX0_copyRows, Cond.static yX0_copyRows, Cond.code yX0_copyRows cX0_copyRows 4 none, Cond.methodLink RX0 49 Lib.Math.min.name, Cond.static Lib.Math.min.name, Cond.initialized "java/lang/Math", Cond.code Lib.Math.min.name Lib.Math.min.code 2 (some .int), Cond.methodLink RX0 55 arraycopyName, Cond.native arraycopyName, Cond.static arraycopyName, Cond.initialized "java/lang/System", Cond.methodLink RX3 37 yX0_addWell, Cond.instanceMethod yX0_addWell, Cond.selects RX0 yX0_addWell yX0_addWell, Cond.code yX0_addWell cX0_addWell 6 (some .int), Cond.methodLink RX0 61 yX0_isWell, Cond.instanceMethod yX0_isWell, Cond.selects RX0 yX0_isWell yX0_isWell, Cond.code yX0_isWell cX0_isWell 2 (some .boolean), Cond.methodLink RX3 41 yX3_keepIfDone, Cond.instanceMethod yX3_keepIfDone, Cond.selects RX3 yX3_keepIfDone yX3_keepIfDone, Cond.initialized RX3, Cond.code yX3_keepIfDone cX3_keepIfDone 2 (some .int)]
def wsX3_well_r3 : List Cond := [Cond.methodLink RX3 159 yX1_keep, Cond.instanceMethod yX1_keep, Cond.selects RX1 yX1_keep yX1_keep, Cond.code yX1_keep cX1_keep 1 none]
def wsX3_well : List Cond := .code yX3_well cX3_well 5 (some .int) :: ((wsX3_well_r1 ++ (wsX3_well_r2 ++ wsX3_well_r3)) ++ wsX30 ++ wsX10 ++ wsX00)
def wsX3_drought_r1 : List Cond := [Cond.fieldLink RX3 22 "NoonWells" "history" "LNoonWells$History;", Cond.fieldLink RX3 12 "NoonWells" "now" "LNoonWells$Field;", Cond.methodLink RX3 33 yX1_note, Cond.instanceMethod yX1_note, Cond.selects RX1 yX1_note yX1_note, Cond.initialized RX1, Cond.code yX1_note cX1_note 2 none, Cond.fieldLink RX1 13 "NoonWells$History" "states" "[LNoonWells$Field;", Cond.fieldLink RX1 18 "NoonWells$History" "oldest" "I", Cond.fieldLink RX1 22 "NoonWells$History" "size" "I", Cond.methodLink RX1 25 yX0_copyFrom, Cond.instanceMethod yX0_copyFrom, Cond.selects RX0 yX0_copyFrom yX0_copyFrom, Cond.initialized RX0, Cond.code yX0_copyFrom cX0_copyFrom 2 none, Cond.fieldLink RX0 11 "NoonWells$Field" "wells" "[[I", Cond.fieldLink RX0 16 "NoonWells$Field" "droughts" "[[I", Cond.fieldLink RX0 19 "NoonWells$Field" "requests" "[[I", Cond.fieldLink RX0 22 "NoonWells$Field" "settings" "[I", Cond.fieldLink RX0 33 "NoonWells$Field" "wellCount" "I", Cond.fieldLink RX0 37 "NoonWells$Field" "droughtCount" "I", Cond.fieldLink RX0 40 "NoonWells$Field" "waiting" "I", Cond.fieldLink RX0 43 "NoonWells$Field" "time" "I", Cond.fieldLink RX0 46 "NoonWells$Field" "drawnBehindWaiting" "I"]
def wsX3_drought_r2 : List Cond := [Cond.methodLink RX0 29 yX0_copyRows, Cond.static yX0_copyRows, Cond.code yX0_copyRows cX0_copyRows 4 none, Cond.methodLink RX0 49 Lib.Math.min.name, Cond.static Lib.Math.min.name, Cond.initialized "java/lang/Math", Cond.code Lib.Math.min.name Lib.Math.min.code 2 (some .int), Cond.methodLink RX0 55 arraycopyName, Cond.native arraycopyName, Cond.static arraycopyName, Cond.initialized "java/lang/System", Cond.methodLink RX3 45 yX0_addDrought, Cond.instanceMethod yX0_addDrought, Cond.selects RX0 yX0_addDrought yX0_addDrought, Cond.code yX0_addDrought cX0_addDrought 4 (some .int), Cond.constant RX0 65 (60000), Cond.methodLink RX0 61 yX0_isWell, Cond.instanceMethod yX0_isWell, Cond.selects RX0 yX0_isWell yX0_isWell, Cond.code yX0_isWell cX0_isWell 2 (some .boolean), Cond.methodLink RX3 41 yX3_keepIfDone, Cond.instanceMethod yX3_keepIfDone, Cond.selects RX3 yX3_keepIfDone yX3_keepIfDone, Cond.initialized RX3]
def wsX3_drought_r3 : List Cond := [Cond.code yX3_keepIfDone cX3_keepIfDone 2 (some .int), Cond.methodLink RX3 159 yX1_keep, Cond.instanceMethod yX1_keep, Cond.selects RX1 yX1_keep yX1_keep, Cond.code yX1_keep cX1_keep 1 none]
def wsX3_drought : List Cond := .code yX3_drought cX3_drought 4 (some .int) :: ((wsX3_drought_r1 ++ (wsX3_drought_r2 ++ wsX3_drought_r3)) ++ wsX30 ++ wsX10 ++ wsX00)
def wsX3_droughtOf : List Cond := .code yX3_droughtOf cX3_droughtOf 3 (some .int) :: ([.fieldLink RX3 12 "NoonWells" "now" "LNoonWells$Field;"] ++ wsX30 ++ wsX00)
def wsX3_wellOf : List Cond := .code yX3_wellOf cX3_wellOf 3 (some .int) :: ([.fieldLink RX3 12 "NoonWells" "now" "LNoonWells$Field;", .methodLink RX3 57 yX0_isWell, .instanceMethod yX0_isWell, .selects RX0 yX0_isWell yX0_isWell, .initialized RX0, .code yX0_isWell cX0_isWell 2 (some .boolean), .fieldLink RX0 33 "NoonWells$Field" "wellCount" "I", .methodLink RX3 64 yX0_isDry, .instanceMethod yX0_isDry, .selects RX0 yX0_isDry yX0_isDry, .code yX0_isDry cX0_isDry 3 (some .boolean), .methodLink RX0 66 yX0_dryWells, .instanceMethod yX0_dryWells, .selects RX0 yX0_dryWells yX0_dryWells, .code yX0_dryWells cX0_dryWells 4 (some .int), .fieldLink RX0 37 "NoonWells$Field" "droughtCount" "I", .fieldLink RX0 16 "NoonWells$Field" "droughts" "[[I"] ++ wsX30 ++ wsX00)
def wsX3_aboveAt : List Cond := .code yX3_aboveAt cX3_aboveAt 4 (some .int) :: ([.fieldLink RX3 12 "NoonWells" "now" "LNoonWells$Field;", .methodLink RX3 57 yX0_isWell, .instanceMethod yX0_isWell, .selects RX0 yX0_isWell yX0_isWell, .initialized RX0, .code yX0_isWell cX0_isWell 2 (some .boolean), .fieldLink RX0 33 "NoonWells$Field" "wellCount" "I", .methodLink RX3 71 yX0_wellAbove, .instanceMethod yX0_wellAbove, .selects RX0 yX0_wellAbove yX0_wellAbove, .code yX0_wellAbove cX0_wellAbove 6 (some .int), .methodLink RX0 49 Lib.Math.min.name, .static Lib.Math.min.name, .initialized "java/lang/Math", .code Lib.Math.min.name Lib.Math.min.code 2 (some .int), .fieldLink RX0 11 "NoonWells$Field" "wells" "[[I", .methodLink RX0 61 yX0_isWell] ++ wsX30 ++ wsX00)
def wsX3_draw_r1 : List Cond := [Cond.fieldLink RX3 22 "NoonWells" "history" "LNoonWells$History;", Cond.fieldLink RX3 12 "NoonWells" "now" "LNoonWells$Field;", Cond.methodLink RX3 33 yX1_note, Cond.instanceMethod yX1_note, Cond.selects RX1 yX1_note yX1_note, Cond.initialized RX1, Cond.code yX1_note cX1_note 2 none, Cond.fieldLink RX1 13 "NoonWells$History" "states" "[LNoonWells$Field;", Cond.fieldLink RX1 18 "NoonWells$History" "oldest" "I", Cond.fieldLink RX1 22 "NoonWells$History" "size" "I", Cond.methodLink RX1 25 yX0_copyFrom, Cond.instanceMethod yX0_copyFrom, Cond.selects RX0 yX0_copyFrom yX0_copyFrom, Cond.initialized RX0, Cond.code yX0_copyFrom cX0_copyFrom 2 none, Cond.fieldLink RX0 11 "NoonWells$Field" "wells" "[[I", Cond.fieldLink RX0 16 "NoonWells$Field" "droughts" "[[I", Cond.fieldLink RX0 19 "NoonWells$Field" "requests" "[[I", Cond.fieldLink RX0 22 "NoonWells$Field" "settings" "[I", Cond.fieldLink RX0 33 "NoonWells$Field" "wellCount" "I", Cond.fieldLink RX0 37 "NoonWells$Field" "droughtCount" "I", Cond.fieldLink RX0 40 "NoonWells$Field" "waiting" "I", Cond.fieldLink RX0 43 "NoonWells$Field" "time" "I", Cond.fieldLink RX0 46 "NoonWells$Field" "drawnBehindWaiting" "I"]
def wsX3_draw_r2 : List Cond := [Cond.methodLink RX0 29 yX0_copyRows, Cond.static yX0_copyRows, Cond.code yX0_copyRows cX0_copyRows 4 none, Cond.methodLink RX0 49 Lib.Math.min.name, Cond.static Lib.Math.min.name, Cond.initialized "java/lang/Math", Cond.code Lib.Math.min.name Lib.Math.min.code 2 (some .int), Cond.methodLink RX0 55 arraycopyName, Cond.native arraycopyName, Cond.static arraycopyName, Cond.initialized "java/lang/System", Cond.methodLink RX3 75 yX0_takeDraw, Cond.instanceMethod yX0_takeDraw, Cond.selects RX0 yX0_takeDraw yX0_takeDraw, Cond.code yX0_takeDraw cX0_takeDraw 3 (some .int), Cond.methodLink RX0 61 yX0_isWell, Cond.instanceMethod yX0_isWell, Cond.selects RX0 yX0_isWell yX0_isWell, Cond.code yX0_isWell cX0_isWell 2 (some .boolean), Cond.static yX3_areBuckets, Cond.initialized RX3, Cond.code yX3_areBuckets cX3_areBuckets 1 (some .boolean), Cond.methodLink RX0 79 yX0_shareOut, Cond.instanceMethod yX0_shareOut]
def wsX3_draw_r3 : List Cond := [Cond.selects RX0 yX0_shareOut yX0_shareOut, Cond.code yX0_shareOut cX0_shareOut 8 (some .int), Cond.fieldLink RX0 26 "NoonWells$Field" "shares" "[I", Cond.methodLink RX0 70 yJ7_fill_53178, Cond.static yJ7_fill_53178, Cond.initialized RJ7, Cond.code yJ7_fill_53178 cJ7_fill_53178 4 none, Cond.methodLink RX0 82 yX0_pourShares, Cond.instanceMethod yX0_pourShares, Cond.selects RX0 yX0_pourShares yX0_pourShares, Cond.code yX0_pourShares cX0_pourShares 5 (some .int), Cond.methodLink RX3 41 yX3_keepIfDone, Cond.instanceMethod yX3_keepIfDone, Cond.selects RX3 yX3_keepIfDone yX3_keepIfDone, Cond.code yX3_keepIfDone cX3_keepIfDone 2 (some .int), Cond.methodLink RX3 159 yX1_keep, Cond.instanceMethod yX1_keep, Cond.selects RX1 yX1_keep yX1_keep, Cond.code yX1_keep cX1_keep 1 none]
def wsX3_draw : List Cond := .code yX3_draw cX3_draw 3 (some .int) :: ((wsX3_draw_r1 ++ (wsX3_draw_r2 ++ wsX3_draw_r3)) ++ wsX30 ++ wsX10 ++ wsX00)
def wsX3_request_r1 : List Cond := [Cond.fieldLink RX3 22 "NoonWells" "history" "LNoonWells$History;", Cond.fieldLink RX3 12 "NoonWells" "now" "LNoonWells$Field;", Cond.methodLink RX3 33 yX1_note, Cond.instanceMethod yX1_note, Cond.selects RX1 yX1_note yX1_note, Cond.initialized RX1, Cond.code yX1_note cX1_note 2 none, Cond.fieldLink RX1 13 "NoonWells$History" "states" "[LNoonWells$Field;", Cond.fieldLink RX1 18 "NoonWells$History" "oldest" "I", Cond.fieldLink RX1 22 "NoonWells$History" "size" "I", Cond.methodLink RX1 25 yX0_copyFrom, Cond.instanceMethod yX0_copyFrom, Cond.selects RX0 yX0_copyFrom yX0_copyFrom, Cond.initialized RX0, Cond.code yX0_copyFrom cX0_copyFrom 2 none, Cond.fieldLink RX0 11 "NoonWells$Field" "wells" "[[I", Cond.fieldLink RX0 16 "NoonWells$Field" "droughts" "[[I", Cond.fieldLink RX0 19 "NoonWells$Field" "requests" "[[I", Cond.fieldLink RX0 22 "NoonWells$Field" "settings" "[I", Cond.fieldLink RX0 33 "NoonWells$Field" "wellCount" "I", Cond.fieldLink RX0 37 "NoonWells$Field" "droughtCount" "I", Cond.fieldLink RX0 40 "NoonWells$Field" "waiting" "I", Cond.fieldLink RX0 43 "NoonWells$Field" "time" "I", Cond.fieldLink RX0 46 "NoonWells$Field" "drawnBehindWaiting" "I"]
def wsX3_request_r2 : List Cond := [Cond.methodLink RX0 29 yX0_copyRows, Cond.static yX0_copyRows, Cond.code yX0_copyRows cX0_copyRows 4 none, Cond.methodLink RX0 49 Lib.Math.min.name, Cond.static Lib.Math.min.name, Cond.initialized "java/lang/Math", Cond.code Lib.Math.min.name Lib.Math.min.code 2 (some .int), Cond.methodLink RX0 55 arraycopyName, Cond.native arraycopyName, Cond.static arraycopyName, Cond.initialized "java/lang/System", Cond.methodLink RX3 78 yX0_takeRequest, Cond.instanceMethod yX0_takeRequest, Cond.selects RX0 yX0_takeRequest yX0_takeRequest, Cond.code yX0_takeRequest cX0_takeRequest 3 (some .int), Cond.methodLink RX0 61 yX0_isWell, Cond.instanceMethod yX0_isWell, Cond.selects RX0 yX0_isWell yX0_isWell, Cond.code yX0_isWell cX0_isWell 2 (some .boolean), Cond.static yX3_areBuckets, Cond.initialized RX3, Cond.code yX3_areBuckets cX3_areBuckets 1 (some .boolean), Cond.methodLink RX0 79 yX0_shareOut, Cond.instanceMethod yX0_shareOut]
def wsX3_request_r3 : List Cond := [Cond.selects RX0 yX0_shareOut yX0_shareOut, Cond.code yX0_shareOut cX0_shareOut 8 (some .int), Cond.fieldLink RX0 26 "NoonWells$Field" "shares" "[I", Cond.methodLink RX0 70 yJ7_fill_53178, Cond.static yJ7_fill_53178, Cond.initialized RJ7, Cond.code yJ7_fill_53178 cJ7_fill_53178 4 none, Cond.methodLink RX0 82 yX0_pourShares, Cond.instanceMethod yX0_pourShares, Cond.selects RX0 yX0_pourShares yX0_pourShares, Cond.code yX0_pourShares cX0_pourShares 5 (some .int), Cond.methodLink RX3 41 yX3_keepIfDone, Cond.instanceMethod yX3_keepIfDone, Cond.selects RX3 yX3_keepIfDone yX3_keepIfDone, Cond.code yX3_keepIfDone cX3_keepIfDone 2 (some .int), Cond.methodLink RX3 159 yX1_keep, Cond.instanceMethod yX1_keep, Cond.selects RX1 yX1_keep yX1_keep, Cond.code yX1_keep cX1_keep 1 none]
def wsX3_request : List Cond := .code yX3_request cX3_request 3 (some .int) :: ((wsX3_request_r1 ++ (wsX3_request_r2 ++ wsX3_request_r3)) ++ wsX30 ++ wsX10 ++ wsX00)
def wsX3_cancel_r1 : List Cond := [Cond.fieldLink RX3 22 "NoonWells" "history" "LNoonWells$History;", Cond.fieldLink RX3 12 "NoonWells" "now" "LNoonWells$Field;", Cond.methodLink RX3 33 yX1_note, Cond.instanceMethod yX1_note, Cond.selects RX1 yX1_note yX1_note, Cond.initialized RX1, Cond.code yX1_note cX1_note 2 none, Cond.fieldLink RX1 13 "NoonWells$History" "states" "[LNoonWells$Field;", Cond.fieldLink RX1 18 "NoonWells$History" "oldest" "I", Cond.fieldLink RX1 22 "NoonWells$History" "size" "I", Cond.methodLink RX1 25 yX0_copyFrom, Cond.instanceMethod yX0_copyFrom, Cond.selects RX0 yX0_copyFrom yX0_copyFrom, Cond.initialized RX0, Cond.code yX0_copyFrom cX0_copyFrom 2 none, Cond.fieldLink RX0 11 "NoonWells$Field" "wells" "[[I", Cond.fieldLink RX0 16 "NoonWells$Field" "droughts" "[[I", Cond.fieldLink RX0 19 "NoonWells$Field" "requests" "[[I", Cond.fieldLink RX0 22 "NoonWells$Field" "settings" "[I", Cond.fieldLink RX0 33 "NoonWells$Field" "wellCount" "I", Cond.fieldLink RX0 37 "NoonWells$Field" "droughtCount" "I", Cond.fieldLink RX0 40 "NoonWells$Field" "waiting" "I", Cond.fieldLink RX0 43 "NoonWells$Field" "time" "I", Cond.fieldLink RX0 46 "NoonWells$Field" "drawnBehindWaiting" "I"]
def wsX3_cancel_r2 : List Cond := [Cond.methodLink RX0 29 yX0_copyRows, Cond.static yX0_copyRows, Cond.code yX0_copyRows cX0_copyRows 4 none, Cond.methodLink RX0 49 Lib.Math.min.name, Cond.static Lib.Math.min.name, Cond.initialized "java/lang/Math", Cond.code Lib.Math.min.name Lib.Math.min.code 2 (some .int), Cond.methodLink RX0 55 arraycopyName, Cond.native arraycopyName, Cond.static arraycopyName, Cond.initialized "java/lang/System", Cond.methodLink RX3 81 yX0_dropRequest, Cond.instanceMethod yX0_dropRequest, Cond.selects RX0 yX0_dropRequest yX0_dropRequest, Cond.code yX0_dropRequest cX0_dropRequest 4 (some .int), Cond.methodLink RX0 85 yX0_isPlace, Cond.instanceMethod yX0_isPlace, Cond.selects RX0 yX0_isPlace yX0_isPlace, Cond.code yX0_isPlace cX0_isPlace 2 (some .boolean), Cond.methodLink RX0 88 yX0_moveRequest, Cond.instanceMethod yX0_moveRequest, Cond.selects RX0 yX0_moveRequest yX0_moveRequest, Cond.code yX0_moveRequest cX0_moveRequest 4 none, Cond.methodLink RX3 41 yX3_keepIfDone]
def wsX3_cancel_r3 : List Cond := [Cond.instanceMethod yX3_keepIfDone, Cond.selects RX3 yX3_keepIfDone yX3_keepIfDone, Cond.initialized RX3, Cond.code yX3_keepIfDone cX3_keepIfDone 2 (some .int), Cond.methodLink RX3 159 yX1_keep, Cond.instanceMethod yX1_keep, Cond.selects RX1 yX1_keep yX1_keep, Cond.code yX1_keep cX1_keep 1 none]
def wsX3_cancel : List Cond := .code yX3_cancel cX3_cancel 2 (some .int) :: ((wsX3_cancel_r1 ++ (wsX3_cancel_r2 ++ wsX3_cancel_r3)) ++ wsX30 ++ wsX10 ++ wsX00)
def wsX3_requestAt : List Cond := .code yX3_requestAt cX3_requestAt 3 (some .int) :: ([.fieldLink RX3 12 "NoonWells" "now" "LNoonWells$Field;", .methodLink RX3 84 yX0_isPlace, .instanceMethod yX0_isPlace, .selects RX0 yX0_isPlace yX0_isPlace, .initialized RX0, .code yX0_isPlace cX0_isPlace 2 (some .boolean), .fieldLink RX0 40 "NoonWells$Field" "waiting" "I"] ++ wsX30 ++ wsX00)
def wsX3_tick_r1 : List Cond := [Cond.fieldLink RX3 22 "NoonWells" "history" "LNoonWells$History;", Cond.fieldLink RX3 12 "NoonWells" "now" "LNoonWells$Field;", Cond.methodLink RX3 33 yX1_note, Cond.instanceMethod yX1_note, Cond.selects RX1 yX1_note yX1_note, Cond.initialized RX1, Cond.code yX1_note cX1_note 2 none, Cond.fieldLink RX1 13 "NoonWells$History" "states" "[LNoonWells$Field;", Cond.fieldLink RX1 18 "NoonWells$History" "oldest" "I", Cond.fieldLink RX1 22 "NoonWells$History" "size" "I", Cond.methodLink RX1 25 yX0_copyFrom, Cond.instanceMethod yX0_copyFrom, Cond.selects RX0 yX0_copyFrom yX0_copyFrom, Cond.initialized RX0, Cond.code yX0_copyFrom cX0_copyFrom 2 none, Cond.fieldLink RX0 11 "NoonWells$Field" "wells" "[[I", Cond.fieldLink RX0 16 "NoonWells$Field" "droughts" "[[I", Cond.fieldLink RX0 19 "NoonWells$Field" "requests" "[[I", Cond.fieldLink RX0 22 "NoonWells$Field" "settings" "[I", Cond.fieldLink RX0 33 "NoonWells$Field" "wellCount" "I", Cond.fieldLink RX0 37 "NoonWells$Field" "droughtCount" "I", Cond.fieldLink RX0 40 "NoonWells$Field" "waiting" "I", Cond.fieldLink RX0 43 "NoonWells$Field" "time" "I", Cond.fieldLink RX0 46 "NoonWells$Field" "drawnBehindWaiting" "I"]
def wsX3_tick_r2 : List Cond := [Cond.methodLink RX0 29 yX0_copyRows, Cond.static yX0_copyRows, Cond.code yX0_copyRows cX0_copyRows 4 none, Cond.methodLink RX0 49 Lib.Math.min.name, Cond.static Lib.Math.min.name, Cond.initialized "java/lang/Math", Cond.code Lib.Math.min.name Lib.Math.min.code 2 (some .int), Cond.methodLink RX0 55 arraycopyName, Cond.native arraycopyName, Cond.static arraycopyName, Cond.initialized "java/lang/System", Cond.methodLink RX3 90 yX0_passTicks, Cond.instanceMethod yX0_passTicks, Cond.selects RX0 yX0_passTicks yX0_passTicks, Cond.code yX0_passTicks cX0_passTicks 4 (some .int), Cond.constant RX0 92 (50000), Cond.methodLink RX0 93 yX0_passTick, Cond.instanceMethod yX0_passTick, Cond.selects RX0 yX0_passTick yX0_passTick, Cond.code yX0_passTick cX0_passTick 1 (some .int), Cond.methodLink RX0 97 yX0_flowIn, Cond.instanceMethod yX0_flowIn, Cond.selects RX0 yX0_flowIn yX0_flowIn, Cond.code yX0_flowIn cX0_flowIn 5 none]
def wsX3_tick_r3 : List Cond := [Cond.methodLink RX0 66 yX0_dryWells, Cond.instanceMethod yX0_dryWells, Cond.selects RX0 yX0_dryWells yX0_dryWells, Cond.code yX0_dryWells cX0_dryWells 4 (some .int), Cond.methodLink RX0 112 yX0_roomIn, Cond.instanceMethod yX0_roomIn, Cond.selects RX0 yX0_roomIn yX0_roomIn, Cond.code yX0_roomIn cX0_roomIn 2 (some .int), Cond.methodLink RX0 100 yX0_timeOfDay, Cond.instanceMethod yX0_timeOfDay, Cond.selects RX0 yX0_timeOfDay yX0_timeOfDay, Cond.code yX0_timeOfDay cX0_timeOfDay 2 (some .int), Cond.methodLink RX0 103 yX0_lendAtNoon, Cond.instanceMethod yX0_lendAtNoon, Cond.selects RX0 yX0_lendAtNoon yX0_lendAtNoon, Cond.code yX0_lendAtNoon cX0_lendAtNoon 6 (some .int), Cond.methodLink RX0 61 yX0_isWell, Cond.instanceMethod yX0_isWell, Cond.selects RX0 yX0_isWell yX0_isWell, Cond.code yX0_isWell cX0_isWell 2 (some .boolean), Cond.methodLink RX0 106 yX0_payBackInEvening, Cond.instanceMethod yX0_payBackInEvening, Cond.selects RX0 yX0_payBackInEvening yX0_payBackInEvening, Cond.code yX0_payBackInEvening cX0_payBackInEvening 3 none]
def wsX3_tick_r4 : List Cond := [Cond.methodLink RX0 115 yX0_payBack, Cond.instanceMethod yX0_payBack, Cond.selects RX0 yX0_payBack yX0_payBack, Cond.code yX0_payBack cX0_payBack 4 none, Cond.methodLink RX0 109 yX0_serveWaiting, Cond.instanceMethod yX0_serveWaiting, Cond.selects RX0 yX0_serveWaiting yX0_serveWaiting, Cond.code yX0_serveWaiting cX0_serveWaiting 7 (some .int), Cond.methodLink RX0 79 yX0_shareOut, Cond.instanceMethod yX0_shareOut, Cond.selects RX0 yX0_shareOut yX0_shareOut, Cond.code yX0_shareOut cX0_shareOut 8 (some .int), Cond.fieldLink RX0 26 "NoonWells$Field" "shares" "[I", Cond.methodLink RX0 70 yJ7_fill_53178, Cond.static yJ7_fill_53178, Cond.initialized RJ7, Cond.code yJ7_fill_53178 cJ7_fill_53178 4 none, Cond.methodLink RX0 82 yX0_pourShares, Cond.instanceMethod yX0_pourShares, Cond.selects RX0 yX0_pourShares yX0_pourShares, Cond.code yX0_pourShares cX0_pourShares 5 (some .int), Cond.methodLink RX0 88 yX0_moveRequest, Cond.instanceMethod yX0_moveRequest, Cond.selects RX0 yX0_moveRequest yX0_moveRequest]
def wsX3_tick_r5 : List Cond := [Cond.code yX0_moveRequest cX0_moveRequest 4 none, Cond.methodLink RX3 41 yX3_keepIfDone, Cond.instanceMethod yX3_keepIfDone, Cond.selects RX3 yX3_keepIfDone yX3_keepIfDone, Cond.initialized RX3, Cond.code yX3_keepIfDone cX3_keepIfDone 2 (some .int), Cond.methodLink RX3 159 yX1_keep, Cond.instanceMethod yX1_keep, Cond.selects RX1 yX1_keep yX1_keep, Cond.code yX1_keep cX1_keep 1 none]
def wsX3_tick : List Cond := .code yX3_tick cX3_tick 2 (some .int) :: ((wsX3_tick_r1 ++ (wsX3_tick_r2 ++ (wsX3_tick_r3 ++ (wsX3_tick_r4 ++ wsX3_tick_r5)))) ++ wsX30 ++ wsX10 ++ wsX00)
def wsX3_set_r1 : List Cond := [Cond.fieldLink RX3 22 "NoonWells" "history" "LNoonWells$History;", Cond.fieldLink RX3 12 "NoonWells" "now" "LNoonWells$Field;", Cond.methodLink RX3 33 yX1_note, Cond.instanceMethod yX1_note, Cond.selects RX1 yX1_note yX1_note, Cond.initialized RX1, Cond.code yX1_note cX1_note 2 none, Cond.fieldLink RX1 13 "NoonWells$History" "states" "[LNoonWells$Field;", Cond.fieldLink RX1 18 "NoonWells$History" "oldest" "I", Cond.fieldLink RX1 22 "NoonWells$History" "size" "I", Cond.methodLink RX1 25 yX0_copyFrom, Cond.instanceMethod yX0_copyFrom, Cond.selects RX0 yX0_copyFrom yX0_copyFrom, Cond.initialized RX0, Cond.code yX0_copyFrom cX0_copyFrom 2 none, Cond.fieldLink RX0 11 "NoonWells$Field" "wells" "[[I", Cond.fieldLink RX0 16 "NoonWells$Field" "droughts" "[[I", Cond.fieldLink RX0 19 "NoonWells$Field" "requests" "[[I", Cond.fieldLink RX0 22 "NoonWells$Field" "settings" "[I", Cond.fieldLink RX0 33 "NoonWells$Field" "wellCount" "I", Cond.fieldLink RX0 37 "NoonWells$Field" "droughtCount" "I", Cond.fieldLink RX0 40 "NoonWells$Field" "waiting" "I", Cond.fieldLink RX0 43 "NoonWells$Field" "time" "I", Cond.fieldLink RX0 46 "NoonWells$Field" "drawnBehindWaiting" "I"]
def wsX3_set_r2 : List Cond := [Cond.methodLink RX0 29 yX0_copyRows, Cond.static yX0_copyRows, Cond.code yX0_copyRows cX0_copyRows 4 none, Cond.methodLink RX0 49 Lib.Math.min.name, Cond.static Lib.Math.min.name, Cond.initialized "java/lang/Math", Cond.code Lib.Math.min.name Lib.Math.min.code 2 (some .int), Cond.methodLink RX0 55 arraycopyName, Cond.native arraycopyName, Cond.static arraycopyName, Cond.initialized "java/lang/System", Cond.methodLink RX3 93 yX0_changeSetting, Cond.instanceMethod yX0_changeSetting, Cond.selects RX0 yX0_changeSetting yX0_changeSetting, Cond.code yX0_changeSetting cX0_changeSetting 5 (some .int), Cond.methodLink RX3 41 yX3_keepIfDone, Cond.instanceMethod yX3_keepIfDone, Cond.selects RX3 yX3_keepIfDone yX3_keepIfDone, Cond.initialized RX3, Cond.code yX3_keepIfDone cX3_keepIfDone 2 (some .int), Cond.methodLink RX3 159 yX1_keep, Cond.instanceMethod yX1_keep, Cond.selects RX1 yX1_keep yX1_keep, Cond.code yX1_keep cX1_keep 1 none]
def wsX3_set : List Cond := .code yX3_set cX3_set 3 (some .int) :: ((wsX3_set_r1 ++ wsX3_set_r2) ++ wsX30 ++ wsX10 ++ wsX00)
def wsX3_able : List Cond := .code yX3_able cX3_able 2 (some .int) :: ([.fieldLink RX3 12 "NoonWells" "now" "LNoonWells$Field;", .methodLink RX3 57 yX0_isWell, .instanceMethod yX0_isWell, .selects RX0 yX0_isWell yX0_isWell, .initialized RX0, .code yX0_isWell cX0_isWell 2 (some .boolean), .fieldLink RX0 33 "NoonWells$Field" "wellCount" "I", .methodLink RX3 96 yX0_shareOut, .instanceMethod yX0_shareOut, .selects RX0 yX0_shareOut yX0_shareOut, .code yX0_shareOut cX0_shareOut 8 (some .int), .fieldLink RX0 26 "NoonWells$Field" "shares" "[I", .fieldLink RX0 11 "NoonWells$Field" "wells" "[[I", .methodLink RX0 49 Lib.Math.min.name, .static Lib.Math.min.name, .initialized "java/lang/Math", .code Lib.Math.min.name Lib.Math.min.code 2 (some .int), .methodLink RX0 70 yJ7_fill_53178, .static yJ7_fill_53178, .initialized RJ7, .code yJ7_fill_53178 cJ7_fill_53178 4 none, .methodLink RX0 61 yX0_isWell] ++ wsX30 ++ wsX00)
def wsX3_gives_r1 : List Cond := [Cond.fieldLink RX3 12 "NoonWells" "now" "LNoonWells$Field;", Cond.methodLink RX3 57 yX0_isWell, Cond.instanceMethod yX0_isWell, Cond.selects RX0 yX0_isWell yX0_isWell, Cond.initialized RX0, Cond.code yX0_isWell cX0_isWell 2 (some .boolean), Cond.fieldLink RX0 33 "NoonWells$Field" "wellCount" "I", Cond.methodLink RX3 99 yX3_areBuckets, Cond.static yX3_areBuckets, Cond.initialized RX3, Cond.code yX3_areBuckets cX3_areBuckets 1 (some .boolean), Cond.methodLink RX3 96 yX0_shareOut, Cond.instanceMethod yX0_shareOut, Cond.selects RX0 yX0_shareOut yX0_shareOut, Cond.code yX0_shareOut cX0_shareOut 8 (some .int), Cond.fieldLink RX0 26 "NoonWells$Field" "shares" "[I", Cond.fieldLink RX0 11 "NoonWells$Field" "wells" "[[I", Cond.methodLink RX0 49 Lib.Math.min.name, Cond.static Lib.Math.min.name, Cond.initialized "java/lang/Math", Cond.code Lib.Math.min.name Lib.Math.min.code 2 (some .int), Cond.methodLink RX0 70 yJ7_fill_53178, Cond.static yJ7_fill_53178, Cond.initialized RJ7]
def wsX3_gives_r2 : List Cond := [Cond.code yJ7_fill_53178 cJ7_fill_53178 4 none, Cond.methodLink RX0 61 yX0_isWell]
def wsX3_gives : List Cond := .code yX3_gives cX3_gives 4 (some .int) :: ((wsX3_gives_r1 ++ wsX3_gives_r2) ++ wsX30 ++ wsX00)
def wsX3_possibleIn_r1 : List Cond := [Cond.fieldLink RX3 12 "NoonWells" "now" "LNoonWells$Field;", Cond.fieldLink RX3 16 "NoonWells" "trial" "LNoonWells$Field;", Cond.methodLink RX3 57 yX0_isWell, Cond.instanceMethod yX0_isWell, Cond.selects RX0 yX0_isWell yX0_isWell, Cond.initialized RX0, Cond.code yX0_isWell cX0_isWell 2 (some .boolean), Cond.fieldLink RX0 33 "NoonWells$Field" "wellCount" "I", Cond.methodLink RX3 99 yX3_areBuckets, Cond.static yX3_areBuckets, Cond.initialized RX3, Cond.code yX3_areBuckets cX3_areBuckets 1 (some .boolean), Cond.methodLink RX3 106 yX0_copyFrom, Cond.instanceMethod yX0_copyFrom, Cond.selects RX0 yX0_copyFrom yX0_copyFrom, Cond.code yX0_copyFrom cX0_copyFrom 2 none, Cond.fieldLink RX0 11 "NoonWells$Field" "wells" "[[I", Cond.fieldLink RX0 16 "NoonWells$Field" "droughts" "[[I", Cond.fieldLink RX0 19 "NoonWells$Field" "requests" "[[I", Cond.fieldLink RX0 22 "NoonWells$Field" "settings" "[I", Cond.fieldLink RX0 37 "NoonWells$Field" "droughtCount" "I", Cond.fieldLink RX0 40 "NoonWells$Field" "waiting" "I", Cond.fieldLink RX0 43 "NoonWells$Field" "time" "I", Cond.fieldLink RX0 46 "NoonWells$Field" "drawnBehindWaiting" "I"]
def wsX3_possibleIn_r2 : List Cond := [Cond.methodLink RX0 29 yX0_copyRows, Cond.static yX0_copyRows, Cond.code yX0_copyRows cX0_copyRows 4 none, Cond.methodLink RX0 49 Lib.Math.min.name, Cond.static Lib.Math.min.name, Cond.initialized "java/lang/Math", Cond.code Lib.Math.min.name Lib.Math.min.code 2 (some .int), Cond.methodLink RX0 55 arraycopyName, Cond.native arraycopyName, Cond.static arraycopyName, Cond.initialized "java/lang/System", Cond.methodLink RX3 96 yX0_shareOut, Cond.instanceMethod yX0_shareOut, Cond.selects RX0 yX0_shareOut yX0_shareOut, Cond.code yX0_shareOut cX0_shareOut 8 (some .int), Cond.fieldLink RX0 26 "NoonWells$Field" "shares" "[I", Cond.methodLink RX0 70 yJ7_fill_53178, Cond.static yJ7_fill_53178, Cond.initialized RJ7, Cond.code yJ7_fill_53178 cJ7_fill_53178 4 none, Cond.methodLink RX0 61 yX0_isWell, Cond.methodLink RX3 109 yX0_passTick, Cond.instanceMethod yX0_passTick, Cond.selects RX0 yX0_passTick yX0_passTick]
def wsX3_possibleIn_r3 : List Cond := [Cond.code yX0_passTick cX0_passTick 1 (some .int), Cond.methodLink RX0 97 yX0_flowIn, Cond.instanceMethod yX0_flowIn, Cond.selects RX0 yX0_flowIn yX0_flowIn, Cond.code yX0_flowIn cX0_flowIn 5 none, Cond.methodLink RX0 66 yX0_dryWells, Cond.instanceMethod yX0_dryWells, Cond.selects RX0 yX0_dryWells yX0_dryWells, Cond.code yX0_dryWells cX0_dryWells 4 (some .int), Cond.methodLink RX0 112 yX0_roomIn, Cond.instanceMethod yX0_roomIn, Cond.selects RX0 yX0_roomIn yX0_roomIn, Cond.code yX0_roomIn cX0_roomIn 2 (some .int), Cond.methodLink RX0 100 yX0_timeOfDay, Cond.instanceMethod yX0_timeOfDay, Cond.selects RX0 yX0_timeOfDay yX0_timeOfDay, Cond.code yX0_timeOfDay cX0_timeOfDay 2 (some .int), Cond.methodLink RX0 103 yX0_lendAtNoon, Cond.instanceMethod yX0_lendAtNoon, Cond.selects RX0 yX0_lendAtNoon yX0_lendAtNoon, Cond.code yX0_lendAtNoon cX0_lendAtNoon 6 (some .int), Cond.methodLink RX0 106 yX0_payBackInEvening, Cond.instanceMethod yX0_payBackInEvening, Cond.selects RX0 yX0_payBackInEvening yX0_payBackInEvening]
def wsX3_possibleIn_r4 : List Cond := [Cond.code yX0_payBackInEvening cX0_payBackInEvening 3 none, Cond.methodLink RX0 115 yX0_payBack, Cond.instanceMethod yX0_payBack, Cond.selects RX0 yX0_payBack yX0_payBack, Cond.code yX0_payBack cX0_payBack 4 none, Cond.methodLink RX0 109 yX0_serveWaiting, Cond.instanceMethod yX0_serveWaiting, Cond.selects RX0 yX0_serveWaiting yX0_serveWaiting, Cond.code yX0_serveWaiting cX0_serveWaiting 7 (some .int), Cond.methodLink RX0 79 yX0_shareOut, Cond.methodLink RX0 82 yX0_pourShares, Cond.instanceMethod yX0_pourShares, Cond.selects RX0 yX0_pourShares yX0_pourShares, Cond.code yX0_pourShares cX0_pourShares 5 (some .int), Cond.methodLink RX0 88 yX0_moveRequest, Cond.instanceMethod yX0_moveRequest, Cond.selects RX0 yX0_moveRequest yX0_moveRequest, Cond.code yX0_moveRequest cX0_moveRequest 4 none]
def wsX3_possibleIn : List Cond := .code yX3_possibleIn cX3_possibleIn 4 (some .int) :: ((wsX3_possibleIn_r1 ++ (wsX3_possibleIn_r2 ++ (wsX3_possibleIn_r3 ++ wsX3_possibleIn_r4))) ++ wsX30 ++ wsX00)
def wsX3_waterIn_r1 : List Cond := [Cond.fieldLink RX3 12 "NoonWells" "now" "LNoonWells$Field;", Cond.fieldLink RX3 16 "NoonWells" "trial" "LNoonWells$Field;", Cond.methodLink RX3 57 yX0_isWell, Cond.instanceMethod yX0_isWell, Cond.selects RX0 yX0_isWell yX0_isWell, Cond.initialized RX0, Cond.code yX0_isWell cX0_isWell 2 (some .boolean), Cond.fieldLink RX0 33 "NoonWells$Field" "wellCount" "I", Cond.methodLink RX3 106 yX0_copyFrom, Cond.instanceMethod yX0_copyFrom, Cond.selects RX0 yX0_copyFrom yX0_copyFrom, Cond.code yX0_copyFrom cX0_copyFrom 2 none, Cond.fieldLink RX0 11 "NoonWells$Field" "wells" "[[I", Cond.fieldLink RX0 16 "NoonWells$Field" "droughts" "[[I", Cond.fieldLink RX0 19 "NoonWells$Field" "requests" "[[I", Cond.fieldLink RX0 22 "NoonWells$Field" "settings" "[I", Cond.fieldLink RX0 37 "NoonWells$Field" "droughtCount" "I", Cond.fieldLink RX0 40 "NoonWells$Field" "waiting" "I", Cond.fieldLink RX0 43 "NoonWells$Field" "time" "I", Cond.fieldLink RX0 46 "NoonWells$Field" "drawnBehindWaiting" "I", Cond.methodLink RX0 29 yX0_copyRows, Cond.static yX0_copyRows, Cond.code yX0_copyRows cX0_copyRows 4 none, Cond.methodLink RX0 49 Lib.Math.min.name]
def wsX3_waterIn_r2 : List Cond := [Cond.static Lib.Math.min.name, Cond.initialized "java/lang/Math", Cond.code Lib.Math.min.name Lib.Math.min.code 2 (some .int), Cond.methodLink RX0 55 arraycopyName, Cond.native arraycopyName, Cond.static arraycopyName, Cond.initialized "java/lang/System", Cond.methodLink RX3 109 yX0_passTick, Cond.instanceMethod yX0_passTick, Cond.selects RX0 yX0_passTick yX0_passTick, Cond.code yX0_passTick cX0_passTick 1 (some .int), Cond.methodLink RX0 97 yX0_flowIn, Cond.instanceMethod yX0_flowIn, Cond.selects RX0 yX0_flowIn yX0_flowIn, Cond.code yX0_flowIn cX0_flowIn 5 none, Cond.methodLink RX0 66 yX0_dryWells, Cond.instanceMethod yX0_dryWells, Cond.selects RX0 yX0_dryWells yX0_dryWells, Cond.code yX0_dryWells cX0_dryWells 4 (some .int), Cond.methodLink RX0 112 yX0_roomIn, Cond.instanceMethod yX0_roomIn, Cond.selects RX0 yX0_roomIn yX0_roomIn, Cond.code yX0_roomIn cX0_roomIn 2 (some .int), Cond.methodLink RX0 100 yX0_timeOfDay]
def wsX3_waterIn_r3 : List Cond := [Cond.instanceMethod yX0_timeOfDay, Cond.selects RX0 yX0_timeOfDay yX0_timeOfDay, Cond.code yX0_timeOfDay cX0_timeOfDay 2 (some .int), Cond.methodLink RX0 103 yX0_lendAtNoon, Cond.instanceMethod yX0_lendAtNoon, Cond.selects RX0 yX0_lendAtNoon yX0_lendAtNoon, Cond.code yX0_lendAtNoon cX0_lendAtNoon 6 (some .int), Cond.methodLink RX0 61 yX0_isWell, Cond.methodLink RX0 106 yX0_payBackInEvening, Cond.instanceMethod yX0_payBackInEvening, Cond.selects RX0 yX0_payBackInEvening yX0_payBackInEvening, Cond.code yX0_payBackInEvening cX0_payBackInEvening 3 none, Cond.methodLink RX0 115 yX0_payBack, Cond.instanceMethod yX0_payBack, Cond.selects RX0 yX0_payBack yX0_payBack, Cond.code yX0_payBack cX0_payBack 4 none, Cond.methodLink RX0 109 yX0_serveWaiting, Cond.instanceMethod yX0_serveWaiting, Cond.selects RX0 yX0_serveWaiting yX0_serveWaiting, Cond.code yX0_serveWaiting cX0_serveWaiting 7 (some .int), Cond.methodLink RX0 79 yX0_shareOut, Cond.instanceMethod yX0_shareOut, Cond.selects RX0 yX0_shareOut yX0_shareOut, Cond.code yX0_shareOut cX0_shareOut 8 (some .int)]
def wsX3_waterIn_r4 : List Cond := [Cond.fieldLink RX0 26 "NoonWells$Field" "shares" "[I", Cond.methodLink RX0 70 yJ7_fill_53178, Cond.static yJ7_fill_53178, Cond.initialized RJ7, Cond.code yJ7_fill_53178 cJ7_fill_53178 4 none, Cond.methodLink RX0 82 yX0_pourShares, Cond.instanceMethod yX0_pourShares, Cond.selects RX0 yX0_pourShares yX0_pourShares, Cond.code yX0_pourShares cX0_pourShares 5 (some .int), Cond.methodLink RX0 88 yX0_moveRequest, Cond.instanceMethod yX0_moveRequest, Cond.selects RX0 yX0_moveRequest yX0_moveRequest, Cond.code yX0_moveRequest cX0_moveRequest 4 none]
def wsX3_waterIn : List Cond := .code yX3_waterIn cX3_waterIn 4 (some .int) :: ((wsX3_waterIn_r1 ++ (wsX3_waterIn_r2 ++ (wsX3_waterIn_r3 ++ wsX3_waterIn_r4))) ++ wsX30 ++ wsX00)
def wsX3_lenders_r1 : List Cond := [Cond.fieldLink RX3 16 "NoonWells" "trial" "LNoonWells$Field;", Cond.fieldLink RX3 12 "NoonWells" "now" "LNoonWells$Field;", Cond.methodLink RX3 106 yX0_copyFrom, Cond.instanceMethod yX0_copyFrom, Cond.selects RX0 yX0_copyFrom yX0_copyFrom, Cond.initialized RX0, Cond.code yX0_copyFrom cX0_copyFrom 2 none, Cond.fieldLink RX0 11 "NoonWells$Field" "wells" "[[I", Cond.fieldLink RX0 16 "NoonWells$Field" "droughts" "[[I", Cond.fieldLink RX0 19 "NoonWells$Field" "requests" "[[I", Cond.fieldLink RX0 22 "NoonWells$Field" "settings" "[I", Cond.fieldLink RX0 33 "NoonWells$Field" "wellCount" "I", Cond.fieldLink RX0 37 "NoonWells$Field" "droughtCount" "I", Cond.fieldLink RX0 40 "NoonWells$Field" "waiting" "I", Cond.fieldLink RX0 43 "NoonWells$Field" "time" "I", Cond.fieldLink RX0 46 "NoonWells$Field" "drawnBehindWaiting" "I", Cond.methodLink RX0 29 yX0_copyRows, Cond.static yX0_copyRows, Cond.code yX0_copyRows cX0_copyRows 4 none, Cond.methodLink RX0 49 Lib.Math.min.name, Cond.static Lib.Math.min.name, Cond.initialized "java/lang/Math", Cond.code Lib.Math.min.name Lib.Math.min.code 2 (some .int), Cond.methodLink RX0 55 arraycopyName]
def wsX3_lenders_r2 : List Cond := [Cond.native arraycopyName, Cond.static arraycopyName, Cond.initialized "java/lang/System", Cond.methodLink RX3 113 yX0_lendAtNoon, Cond.instanceMethod yX0_lendAtNoon, Cond.selects RX0 yX0_lendAtNoon yX0_lendAtNoon, Cond.code yX0_lendAtNoon cX0_lendAtNoon 6 (some .int), Cond.methodLink RX0 61 yX0_isWell, Cond.instanceMethod yX0_isWell, Cond.selects RX0 yX0_isWell yX0_isWell, Cond.code yX0_isWell cX0_isWell 2 (some .boolean), Cond.methodLink RX0 112 yX0_roomIn, Cond.instanceMethod yX0_roomIn, Cond.selects RX0 yX0_roomIn yX0_roomIn, Cond.code yX0_roomIn cX0_roomIn 2 (some .int)]
def wsX3_lenders : List Cond := .code yX3_lenders cX3_lenders 1 (some .int) :: ((wsX3_lenders_r1 ++ wsX3_lenders_r2) ++ wsX30 ++ wsX00)
def wsX3_count : List Cond := .code yX3_count cX3_count 2 (some .int) :: ([.fieldLink RX3 12 "NoonWells" "now" "LNoonWells$Field;", .fieldLink RX3 22 "NoonWells" "history" "LNoonWells$History;", .fieldLink RX3 29 "NoonWells" "script" "LNoonWells$Script;", .methodLink RX3 119 yX0_sumOf, .instanceMethod yX0_sumOf, .selects RX0 yX0_sumOf yX0_sumOf, .initialized RX0, .code yX0_sumOf cX0_sumOf 4 (some .int), .fieldLink RX0 33 "NoonWells$Field" "wellCount" "I", .fieldLink RX0 11 "NoonWells$Field" "wells" "[[I", .methodLink RX3 131 yX0_timeOfDay, .instanceMethod yX0_timeOfDay, .selects RX0 yX0_timeOfDay yX0_timeOfDay, .code yX0_timeOfDay cX0_timeOfDay 2 (some .int), .fieldLink RX0 22 "NoonWells$Field" "settings" "[I", .fieldLink RX0 43 "NoonWells$Field" "time" "I"] ++ wsX30 ++ wsX00 ++ wsX10 ++ wsX20)
def wsX3_undo_r1 : List Cond := [Cond.fieldLink RX3 22 "NoonWells" "history" "LNoonWells$History;", Cond.fieldLink RX3 12 "NoonWells" "now" "LNoonWells$Field;", Cond.methodLink RX3 140 yX1_giveBack, Cond.instanceMethod yX1_giveBack, Cond.selects RX1 yX1_giveBack yX1_giveBack, Cond.initialized RX1, Cond.code yX1_giveBack cX1_giveBack 2 none, Cond.fieldLink RX1 22 "NoonWells$History" "size" "I", Cond.fieldLink RX1 13 "NoonWells$History" "states" "[LNoonWells$Field;", Cond.fieldLink RX1 18 "NoonWells$History" "oldest" "I", Cond.methodLink RX1 25 yX0_copyFrom, Cond.instanceMethod yX0_copyFrom, Cond.selects RX0 yX0_copyFrom yX0_copyFrom, Cond.initialized RX0, Cond.code yX0_copyFrom cX0_copyFrom 2 none, Cond.fieldLink RX0 11 "NoonWells$Field" "wells" "[[I", Cond.fieldLink RX0 16 "NoonWells$Field" "droughts" "[[I", Cond.fieldLink RX0 19 "NoonWells$Field" "requests" "[[I", Cond.fieldLink RX0 22 "NoonWells$Field" "settings" "[I", Cond.fieldLink RX0 33 "NoonWells$Field" "wellCount" "I", Cond.fieldLink RX0 37 "NoonWells$Field" "droughtCount" "I", Cond.fieldLink RX0 40 "NoonWells$Field" "waiting" "I", Cond.fieldLink RX0 43 "NoonWells$Field" "time" "I", Cond.fieldLink RX0 46 "NoonWells$Field" "drawnBehindWaiting" "I"]
def wsX3_undo_r2 : List Cond := [Cond.methodLink RX0 29 yX0_copyRows, Cond.static yX0_copyRows, Cond.code yX0_copyRows cX0_copyRows 4 none, Cond.methodLink RX0 49 Lib.Math.min.name, Cond.static Lib.Math.min.name, Cond.initialized "java/lang/Math", Cond.code Lib.Math.min.name Lib.Math.min.code 2 (some .int), Cond.methodLink RX0 55 arraycopyName, Cond.native arraycopyName, Cond.static arraycopyName, Cond.initialized "java/lang/System"]
def wsX3_undo : List Cond := .code yX3_undo cX3_undo 1 (some .int) :: ((wsX3_undo_r1 ++ wsX3_undo_r2) ++ wsX30 ++ wsX10 ++ wsX00)
def wsX3_type : List Cond := .code yX3_type cX3_type 2 (some .int) :: ([.fieldLink RX3 29 "NoonWells" "script" "LNoonWells$Script;", .methodLink RX3 143 yX2_append, .instanceMethod yX2_append, .selects RX2 yX2_append yX2_append, .initialized RX2, .code yX2_append cX2_append 2 (some .boolean), .fieldLink RX2 19 "NoonWells$Script" "length" "I", .fieldLink RX2 9 "NoonWells$Script" "signs" "[C"] ++ wsX30 ++ wsX20)
def wsX3_clearText : List Cond := .code yX3_clearText cX3_clearText 2 (some .int) :: ([.fieldLink RX3 29 "NoonWells" "script" "LNoonWells$Script;"] ++ wsX30 ++ wsX20)
def wsX3_fault_r1 : List Cond := [Cond.fieldLink RX3 16 "NoonWells" "trial" "LNoonWells$Field;", Cond.fieldLink RX3 12 "NoonWells" "now" "LNoonWells$Field;", Cond.fieldLink RX3 29 "NoonWells" "script" "LNoonWells$Script;", Cond.methodLink RX3 106 yX0_copyFrom, Cond.instanceMethod yX0_copyFrom, Cond.selects RX0 yX0_copyFrom yX0_copyFrom, Cond.initialized RX0, Cond.code yX0_copyFrom cX0_copyFrom 2 none, Cond.fieldLink RX0 11 "NoonWells$Field" "wells" "[[I", Cond.fieldLink RX0 16 "NoonWells$Field" "droughts" "[[I", Cond.fieldLink RX0 19 "NoonWells$Field" "requests" "[[I", Cond.fieldLink RX0 22 "NoonWells$Field" "settings" "[I", Cond.fieldLink RX0 33 "NoonWells$Field" "wellCount" "I", Cond.fieldLink RX0 37 "NoonWells$Field" "droughtCount" "I", Cond.fieldLink RX0 40 "NoonWells$Field" "waiting" "I", Cond.fieldLink RX0 43 "NoonWells$Field" "time" "I", Cond.fieldLink RX0 46 "NoonWells$Field" "drawnBehindWaiting" "I", Cond.methodLink RX0 29 yX0_copyRows, Cond.static yX0_copyRows, Cond.code yX0_copyRows cX0_copyRows 4 none, Cond.methodLink RX0 49 Lib.Math.min.name, Cond.static Lib.Math.min.name, Cond.initialized "java/lang/Math", Cond.code Lib.Math.min.name Lib.Math.min.code 2 (some .int)]
def wsX3_fault_r2 : List Cond := [Cond.methodLink RX0 55 arraycopyName, Cond.native arraycopyName, Cond.static arraycopyName, Cond.initialized "java/lang/System", Cond.methodLink RX3 147 yX2_runOn, Cond.instanceMethod yX2_runOn, Cond.selects RX2 yX2_runOn yX2_runOn, Cond.initialized RX2, Cond.code yX2_runOn cX2_runOn 5 none, Cond.fieldLink RX2 23 "NoonWells$Script" "orders" "I", Cond.fieldLink RX2 26 "NoonWells$Script" "faultAt" "I", Cond.fieldLink RX2 29 "NoonWells$Script" "reason" "I", Cond.fieldLink RX2 32 "NoonWells$Script" "next" "I", Cond.fieldLink RX2 19 "NoonWells$Script" "length" "I", Cond.fieldLink RX2 9 "NoonWells$Script" "signs" "[C", Cond.methodLink RX2 35 yX2_readOrder, Cond.instanceMethod yX2_readOrder, Cond.selects RX2 yX2_readOrder yX2_readOrder, Cond.code yX2_readOrder cX2_readOrder 5 (some .boolean), Cond.methodLink RX2 43 yX2_numbersOf, Cond.static yX2_numbersOf, Cond.code yX2_numbersOf cX2_numbersOf 1 (some .int), Cond.methodLink RX2 47 yX2_readNumber, Cond.instanceMethod yX2_readNumber]
def wsX3_fault_r3 : List Cond := [Cond.selects RX2 yX2_readNumber yX2_readNumber, Cond.code yX2_readNumber cX2_readNumber 4 (some .boolean), Cond.fieldLink RX2 15 "NoonWells$Script" "numbers" "[I", Cond.methodLink RX2 51 yX2_isDigit, Cond.static yX2_isDigit, Cond.code yX2_isDigit cX2_isDigit 1 (some .boolean), Cond.methodLink RX2 39 yX2_doOrder, Cond.instanceMethod yX2_doOrder, Cond.selects RX2 yX2_doOrder yX2_doOrder, Cond.code yX2_doOrder cX2_doOrder 3 (some .int), Cond.methodLink RX2 54 yX0_takeDraw, Cond.instanceMethod yX0_takeDraw, Cond.selects RX0 yX0_takeDraw yX0_takeDraw, Cond.code yX0_takeDraw cX0_takeDraw 3 (some .int), Cond.methodLink RX0 61 yX0_isWell, Cond.instanceMethod yX0_isWell, Cond.selects RX0 yX0_isWell yX0_isWell, Cond.code yX0_isWell cX0_isWell 2 (some .boolean), Cond.static yX3_areBuckets, Cond.initialized RX3, Cond.code yX3_areBuckets cX3_areBuckets 1 (some .boolean), Cond.methodLink RX0 79 yX0_shareOut, Cond.instanceMethod yX0_shareOut, Cond.selects RX0 yX0_shareOut yX0_shareOut]
def wsX3_fault_r4 : List Cond := [Cond.code yX0_shareOut cX0_shareOut 8 (some .int), Cond.fieldLink RX0 26 "NoonWells$Field" "shares" "[I", Cond.methodLink RX0 70 yJ7_fill_53178, Cond.static yJ7_fill_53178, Cond.initialized RJ7, Cond.code yJ7_fill_53178 cJ7_fill_53178 4 none, Cond.methodLink RX0 82 yX0_pourShares, Cond.instanceMethod yX0_pourShares, Cond.selects RX0 yX0_pourShares yX0_pourShares, Cond.code yX0_pourShares cX0_pourShares 5 (some .int), Cond.methodLink RX2 60 yX0_takeRequest, Cond.instanceMethod yX0_takeRequest, Cond.selects RX0 yX0_takeRequest yX0_takeRequest, Cond.code yX0_takeRequest cX0_takeRequest 3 (some .int), Cond.methodLink RX2 63 yX0_passTicks, Cond.instanceMethod yX0_passTicks, Cond.selects RX0 yX0_passTicks yX0_passTicks, Cond.code yX0_passTicks cX0_passTicks 4 (some .int), Cond.constant RX0 92 (50000), Cond.methodLink RX0 93 yX0_passTick, Cond.instanceMethod yX0_passTick, Cond.selects RX0 yX0_passTick yX0_passTick, Cond.code yX0_passTick cX0_passTick 1 (some .int), Cond.methodLink RX0 97 yX0_flowIn]
def wsX3_fault_r5 : List Cond := [Cond.instanceMethod yX0_flowIn, Cond.selects RX0 yX0_flowIn yX0_flowIn, Cond.code yX0_flowIn cX0_flowIn 5 none, Cond.methodLink RX0 66 yX0_dryWells, Cond.instanceMethod yX0_dryWells, Cond.selects RX0 yX0_dryWells yX0_dryWells, Cond.code yX0_dryWells cX0_dryWells 4 (some .int), Cond.methodLink RX0 112 yX0_roomIn, Cond.instanceMethod yX0_roomIn, Cond.selects RX0 yX0_roomIn yX0_roomIn, Cond.code yX0_roomIn cX0_roomIn 2 (some .int), Cond.methodLink RX0 100 yX0_timeOfDay, Cond.instanceMethod yX0_timeOfDay, Cond.selects RX0 yX0_timeOfDay yX0_timeOfDay, Cond.code yX0_timeOfDay cX0_timeOfDay 2 (some .int), Cond.methodLink RX0 103 yX0_lendAtNoon, Cond.instanceMethod yX0_lendAtNoon, Cond.selects RX0 yX0_lendAtNoon yX0_lendAtNoon, Cond.code yX0_lendAtNoon cX0_lendAtNoon 6 (some .int), Cond.methodLink RX0 106 yX0_payBackInEvening, Cond.instanceMethod yX0_payBackInEvening, Cond.selects RX0 yX0_payBackInEvening yX0_payBackInEvening, Cond.code yX0_payBackInEvening cX0_payBackInEvening 3 none, Cond.methodLink RX0 115 yX0_payBack]
def wsX3_fault_r6 : List Cond := [Cond.instanceMethod yX0_payBack, Cond.selects RX0 yX0_payBack yX0_payBack, Cond.code yX0_payBack cX0_payBack 4 none, Cond.methodLink RX0 109 yX0_serveWaiting, Cond.instanceMethod yX0_serveWaiting, Cond.selects RX0 yX0_serveWaiting yX0_serveWaiting, Cond.code yX0_serveWaiting cX0_serveWaiting 7 (some .int), Cond.methodLink RX0 88 yX0_moveRequest, Cond.instanceMethod yX0_moveRequest, Cond.selects RX0 yX0_moveRequest yX0_moveRequest, Cond.code yX0_moveRequest cX0_moveRequest 4 none, Cond.methodLink RX2 70 yX0_addDrought, Cond.instanceMethod yX0_addDrought, Cond.selects RX0 yX0_addDrought yX0_addDrought, Cond.code yX0_addDrought cX0_addDrought 4 (some .int), Cond.constant RX0 65 (60000)]
def wsX3_fault : List Cond := .code yX3_fault cX3_fault 2 (some .int) :: ((wsX3_fault_r1 ++ (wsX3_fault_r2 ++ (wsX3_fault_r3 ++ (wsX3_fault_r4 ++ (wsX3_fault_r5 ++ wsX3_fault_r6))))) ++ wsX30 ++ wsX20 ++ wsX00)
def wsX3_play_r1 : List Cond := [Cond.fieldLink RX3 22 "NoonWells" "history" "LNoonWells$History;", Cond.fieldLink RX3 12 "NoonWells" "now" "LNoonWells$Field;", Cond.fieldLink RX3 16 "NoonWells" "trial" "LNoonWells$Field;", Cond.fieldLink RX3 29 "NoonWells" "script" "LNoonWells$Script;", Cond.methodLink RX3 33 yX1_note, Cond.instanceMethod yX1_note, Cond.selects RX1 yX1_note yX1_note, Cond.initialized RX1, Cond.code yX1_note cX1_note 2 none, Cond.fieldLink RX1 13 "NoonWells$History" "states" "[LNoonWells$Field;", Cond.fieldLink RX1 18 "NoonWells$History" "oldest" "I", Cond.fieldLink RX1 22 "NoonWells$History" "size" "I", Cond.methodLink RX1 25 yX0_copyFrom, Cond.instanceMethod yX0_copyFrom, Cond.selects RX0 yX0_copyFrom yX0_copyFrom, Cond.initialized RX0, Cond.code yX0_copyFrom cX0_copyFrom 2 none, Cond.fieldLink RX0 11 "NoonWells$Field" "wells" "[[I", Cond.fieldLink RX0 16 "NoonWells$Field" "droughts" "[[I", Cond.fieldLink RX0 19 "NoonWells$Field" "requests" "[[I", Cond.fieldLink RX0 22 "NoonWells$Field" "settings" "[I", Cond.fieldLink RX0 33 "NoonWells$Field" "wellCount" "I", Cond.fieldLink RX0 37 "NoonWells$Field" "droughtCount" "I", Cond.fieldLink RX0 40 "NoonWells$Field" "waiting" "I"]
def wsX3_play_r2 : List Cond := [Cond.fieldLink RX0 43 "NoonWells$Field" "time" "I", Cond.fieldLink RX0 46 "NoonWells$Field" "drawnBehindWaiting" "I", Cond.methodLink RX0 29 yX0_copyRows, Cond.static yX0_copyRows, Cond.code yX0_copyRows cX0_copyRows 4 none, Cond.methodLink RX0 49 Lib.Math.min.name, Cond.static Lib.Math.min.name, Cond.initialized "java/lang/Math", Cond.code Lib.Math.min.name Lib.Math.min.code 2 (some .int), Cond.methodLink RX0 55 arraycopyName, Cond.native arraycopyName, Cond.static arraycopyName, Cond.initialized "java/lang/System", Cond.methodLink RX3 106 yX0_copyFrom, Cond.methodLink RX3 147 yX2_runOn, Cond.instanceMethod yX2_runOn, Cond.selects RX2 yX2_runOn yX2_runOn, Cond.initialized RX2, Cond.code yX2_runOn cX2_runOn 5 none, Cond.fieldLink RX2 23 "NoonWells$Script" "orders" "I", Cond.fieldLink RX2 26 "NoonWells$Script" "faultAt" "I", Cond.fieldLink RX2 29 "NoonWells$Script" "reason" "I", Cond.fieldLink RX2 32 "NoonWells$Script" "next" "I", Cond.fieldLink RX2 19 "NoonWells$Script" "length" "I"]
def wsX3_play_r3 : List Cond := [Cond.fieldLink RX2 9 "NoonWells$Script" "signs" "[C", Cond.methodLink RX2 35 yX2_readOrder, Cond.instanceMethod yX2_readOrder, Cond.selects RX2 yX2_readOrder yX2_readOrder, Cond.code yX2_readOrder cX2_readOrder 5 (some .boolean), Cond.methodLink RX2 43 yX2_numbersOf, Cond.static yX2_numbersOf, Cond.code yX2_numbersOf cX2_numbersOf 1 (some .int), Cond.methodLink RX2 47 yX2_readNumber, Cond.instanceMethod yX2_readNumber, Cond.selects RX2 yX2_readNumber yX2_readNumber, Cond.code yX2_readNumber cX2_readNumber 4 (some .boolean), Cond.fieldLink RX2 15 "NoonWells$Script" "numbers" "[I", Cond.methodLink RX2 51 yX2_isDigit, Cond.static yX2_isDigit, Cond.code yX2_isDigit cX2_isDigit 1 (some .boolean), Cond.methodLink RX2 39 yX2_doOrder, Cond.instanceMethod yX2_doOrder, Cond.selects RX2 yX2_doOrder yX2_doOrder, Cond.code yX2_doOrder cX2_doOrder 3 (some .int), Cond.methodLink RX2 54 yX0_takeDraw, Cond.instanceMethod yX0_takeDraw, Cond.selects RX0 yX0_takeDraw yX0_takeDraw, Cond.code yX0_takeDraw cX0_takeDraw 3 (some .int)]
def wsX3_play_r4 : List Cond := [Cond.methodLink RX0 61 yX0_isWell, Cond.instanceMethod yX0_isWell, Cond.selects RX0 yX0_isWell yX0_isWell, Cond.code yX0_isWell cX0_isWell 2 (some .boolean), Cond.static yX3_areBuckets, Cond.initialized RX3, Cond.code yX3_areBuckets cX3_areBuckets 1 (some .boolean), Cond.methodLink RX0 79 yX0_shareOut, Cond.instanceMethod yX0_shareOut, Cond.selects RX0 yX0_shareOut yX0_shareOut, Cond.code yX0_shareOut cX0_shareOut 8 (some .int), Cond.fieldLink RX0 26 "NoonWells$Field" "shares" "[I", Cond.methodLink RX0 70 yJ7_fill_53178, Cond.static yJ7_fill_53178, Cond.initialized RJ7, Cond.code yJ7_fill_53178 cJ7_fill_53178 4 none, Cond.methodLink RX0 82 yX0_pourShares, Cond.instanceMethod yX0_pourShares, Cond.selects RX0 yX0_pourShares yX0_pourShares, Cond.code yX0_pourShares cX0_pourShares 5 (some .int), Cond.methodLink RX2 60 yX0_takeRequest, Cond.instanceMethod yX0_takeRequest, Cond.selects RX0 yX0_takeRequest yX0_takeRequest, Cond.code yX0_takeRequest cX0_takeRequest 3 (some .int)]
def wsX3_play_r5 : List Cond := [Cond.methodLink RX2 63 yX0_passTicks, Cond.instanceMethod yX0_passTicks, Cond.selects RX0 yX0_passTicks yX0_passTicks, Cond.code yX0_passTicks cX0_passTicks 4 (some .int), Cond.constant RX0 92 (50000), Cond.methodLink RX0 93 yX0_passTick, Cond.instanceMethod yX0_passTick, Cond.selects RX0 yX0_passTick yX0_passTick, Cond.code yX0_passTick cX0_passTick 1 (some .int), Cond.methodLink RX0 97 yX0_flowIn, Cond.instanceMethod yX0_flowIn, Cond.selects RX0 yX0_flowIn yX0_flowIn, Cond.code yX0_flowIn cX0_flowIn 5 none, Cond.methodLink RX0 66 yX0_dryWells, Cond.instanceMethod yX0_dryWells, Cond.selects RX0 yX0_dryWells yX0_dryWells, Cond.code yX0_dryWells cX0_dryWells 4 (some .int), Cond.methodLink RX0 112 yX0_roomIn, Cond.instanceMethod yX0_roomIn, Cond.selects RX0 yX0_roomIn yX0_roomIn, Cond.code yX0_roomIn cX0_roomIn 2 (some .int), Cond.methodLink RX0 100 yX0_timeOfDay, Cond.instanceMethod yX0_timeOfDay, Cond.selects RX0 yX0_timeOfDay yX0_timeOfDay]
def wsX3_play_r6 : List Cond := [Cond.code yX0_timeOfDay cX0_timeOfDay 2 (some .int), Cond.methodLink RX0 103 yX0_lendAtNoon, Cond.instanceMethod yX0_lendAtNoon, Cond.selects RX0 yX0_lendAtNoon yX0_lendAtNoon, Cond.code yX0_lendAtNoon cX0_lendAtNoon 6 (some .int), Cond.methodLink RX0 106 yX0_payBackInEvening, Cond.instanceMethod yX0_payBackInEvening, Cond.selects RX0 yX0_payBackInEvening yX0_payBackInEvening, Cond.code yX0_payBackInEvening cX0_payBackInEvening 3 none, Cond.methodLink RX0 115 yX0_payBack, Cond.instanceMethod yX0_payBack, Cond.selects RX0 yX0_payBack yX0_payBack, Cond.code yX0_payBack cX0_payBack 4 none, Cond.methodLink RX0 109 yX0_serveWaiting, Cond.instanceMethod yX0_serveWaiting, Cond.selects RX0 yX0_serveWaiting yX0_serveWaiting, Cond.code yX0_serveWaiting cX0_serveWaiting 7 (some .int), Cond.methodLink RX0 88 yX0_moveRequest, Cond.instanceMethod yX0_moveRequest, Cond.selects RX0 yX0_moveRequest yX0_moveRequest, Cond.code yX0_moveRequest cX0_moveRequest 4 none, Cond.methodLink RX2 70 yX0_addDrought, Cond.instanceMethod yX0_addDrought, Cond.selects RX0 yX0_addDrought yX0_addDrought]
def wsX3_play_r7 : List Cond := [Cond.code yX0_addDrought cX0_addDrought 4 (some .int), Cond.constant RX0 65 (60000), Cond.methodLink RX3 41 yX3_keepIfDone, Cond.instanceMethod yX3_keepIfDone, Cond.selects RX3 yX3_keepIfDone yX3_keepIfDone, Cond.code yX3_keepIfDone cX3_keepIfDone 2 (some .int), Cond.methodLink RX3 159 yX1_keep, Cond.instanceMethod yX1_keep, Cond.selects RX1 yX1_keep yX1_keep, Cond.code yX1_keep cX1_keep 1 none]
def wsX3_play : List Cond := .code yX3_play cX3_play 1 (some .int) :: ((wsX3_play_r1 ++ (wsX3_play_r2 ++ (wsX3_play_r3 ++ (wsX3_play_r4 ++ (wsX3_play_r5 ++ (wsX3_play_r6 ++ wsX3_play_r7)))))) ++ wsX30 ++ wsX20 ++ wsX10 ++ wsX00)
def wsX4_init : List Cond := .code yX4_init cX4_init 1 none :: ([.methodLink RX4 1 objectInit, .instanceMethod objectInit, .code objectInit ⟨#[0xb1]⟩ 1 none, .arrayClass .int, .fieldLink RX4 7 "NoonWellsModel" "now" "[I", .fieldLink RX4 13 "NoonWellsModel" "before" "[I", .fieldLink RX4 16 "NoonWellsModel" "states" "[I", .fieldLink RX4 19 "NoonWellsModel" "text" "[I", .fieldLink RX4 22 "NoonWellsModel" "numbers" "[I"] ++ wsX40)
def wsX4_in : List Cond := .code yX4_in cX4_in 3 (some .boolean) :: ([])
def wsX4_least : List Cond := .code yX4_least cX4_least 2 (some .int) :: ([])
def wsX4_copy : List Cond := .code yX4_copy cX4_copy 2 none :: ([.fieldLink RX4 13 "NoonWellsModel" "before" "[I", .fieldLink RX4 7 "NoonWellsModel" "now" "[I"] ++ wsX40)
def wsX4_back : List Cond := .code yX4_back cX4_back 2 none :: ([.fieldLink RX4 7 "NoonWellsModel" "now" "[I", .fieldLink RX4 13 "NoonWellsModel" "before" "[I"] ++ wsX40)
def wsX4_recorded : List Cond := .code yX4_recorded cX4_recorded 3 (some .int) :: ([.fieldLink RX4 16 "NoonWellsModel" "states" "[I", .fieldLink RX4 25 "NoonWellsModel" "stateAt" "I", .fieldLink RX4 13 "NoonWellsModel" "before" "[I", .fieldLink RX4 29 "NoonWellsModel" "stateMany" "I"] ++ wsX40)
def wsX4_undo : List Cond := .code yX4_undo cX4_undo 2 (some .int) :: ([.fieldLink RX4 29 "NoonWellsModel" "stateMany" "I", .fieldLink RX4 25 "NoonWellsModel" "stateAt" "I", .fieldLink RX4 7 "NoonWellsModel" "now" "[I", .fieldLink RX4 16 "NoonWellsModel" "states" "[I"] ++ wsX40)
def wsX4_isWell : List Cond := .code yX4_isWell cX4_isWell 2 (some .boolean) :: ([.fieldLink RX4 7 "NoonWellsModel" "now" "[I", .methodLink RX4 32 yX4_in, .static yX4_in, .initialized RX4, .code yX4_in cX4_in 3 (some .boolean)] ++ wsX40)
def wsX4_of : List Cond := .code yX4_of cX4_of 3 (some .int) :: ([.fieldLink RX4 7 "NoonWellsModel" "now" "[I"] ++ wsX40)
def wsX4_adds : List Cond := .code yX4_adds cX4_adds 4 none :: ([.fieldLink RX4 7 "NoonWellsModel" "now" "[I"] ++ wsX40)
def wsX4_half : List Cond := .code yX4_half cX4_half 2 (some .int) :: ([.methodLink RX4 36 yX4_of, .instanceMethod yX4_of, .selects RX4 yX4_of yX4_of, .initialized RX4, .code yX4_of cX4_of 3 (some .int), .fieldLink RX4 7 "NoonWellsModel" "now" "[I"] ++ wsX40)
def wsX4_room : List Cond := .code yX4_room cX4_room 2 (some .int) :: ([.methodLink RX4 36 yX4_of, .instanceMethod yX4_of, .selects RX4 yX4_of yX4_of, .initialized RX4, .code yX4_of cX4_of 3 (some .int), .fieldLink RX4 7 "NoonWellsModel" "now" "[I"] ++ wsX40)
def wsX4_addsWell : List Cond := .code yX4_addsWell cX4_addsWell 7 (some .int) :: ([.fieldLink RX4 7 "NoonWellsModel" "now" "[I", .methodLink RX4 40 yX4_isWell, .instanceMethod yX4_isWell, .selects RX4 yX4_isWell yX4_isWell, .initialized RX4, .code yX4_isWell cX4_isWell 2 (some .boolean), .methodLink RX4 32 yX4_in, .static yX4_in, .code yX4_in cX4_in 3 (some .boolean), .methodLink RX4 44 yX4_adds, .instanceMethod yX4_adds, .selects RX4 yX4_adds yX4_adds, .code yX4_adds cX4_adds 4 none] ++ wsX40)
def wsX4_well_r1 : List Cond := [Cond.methodLink RX4 48 yX4_copy, Cond.instanceMethod yX4_copy, Cond.selects RX4 yX4_copy yX4_copy, Cond.initialized RX4, Cond.code yX4_copy cX4_copy 2 none, Cond.fieldLink RX4 13 "NoonWellsModel" "before" "[I", Cond.fieldLink RX4 7 "NoonWellsModel" "now" "[I", Cond.methodLink RX4 51 yX4_addsWell, Cond.instanceMethod yX4_addsWell, Cond.selects RX4 yX4_addsWell yX4_addsWell, Cond.code yX4_addsWell cX4_addsWell 7 (some .int), Cond.methodLink RX4 40 yX4_isWell, Cond.instanceMethod yX4_isWell, Cond.selects RX4 yX4_isWell yX4_isWell, Cond.code yX4_isWell cX4_isWell 2 (some .boolean), Cond.methodLink RX4 32 yX4_in, Cond.static yX4_in, Cond.code yX4_in cX4_in 3 (some .boolean), Cond.methodLink RX4 44 yX4_adds, Cond.instanceMethod yX4_adds, Cond.selects RX4 yX4_adds yX4_adds, Cond.code yX4_adds cX4_adds 4 none, Cond.methodLink RX4 55 yX4_recorded, Cond.instanceMethod yX4_recorded]
def wsX4_well_r2 : List Cond := [Cond.selects RX4 yX4_recorded yX4_recorded, Cond.code yX4_recorded cX4_recorded 3 (some .int), Cond.fieldLink RX4 16 "NoonWellsModel" "states" "[I", Cond.fieldLink RX4 25 "NoonWellsModel" "stateAt" "I", Cond.fieldLink RX4 29 "NoonWellsModel" "stateMany" "I"]
def wsX4_well : List Cond := .code yX4_well cX4_well 5 (some .int) :: ((wsX4_well_r1 ++ wsX4_well_r2) ++ wsX40)
def wsX4_addsDrought : List Cond := .code yX4_addsDrought cX4_addsDrought 5 (some .int) :: ([.fieldLink RX4 7 "NoonWellsModel" "now" "[I", .constant RX4 59 (60000), .methodLink RX4 40 yX4_isWell, .instanceMethod yX4_isWell, .selects RX4 yX4_isWell yX4_isWell, .initialized RX4, .code yX4_isWell cX4_isWell 2 (some .boolean), .methodLink RX4 32 yX4_in, .static yX4_in, .code yX4_in cX4_in 3 (some .boolean)] ++ wsX40)
def wsX4_drought_r1 : List Cond := [Cond.methodLink RX4 48 yX4_copy, Cond.instanceMethod yX4_copy, Cond.selects RX4 yX4_copy yX4_copy, Cond.initialized RX4, Cond.code yX4_copy cX4_copy 2 none, Cond.fieldLink RX4 13 "NoonWellsModel" "before" "[I", Cond.fieldLink RX4 7 "NoonWellsModel" "now" "[I", Cond.methodLink RX4 60 yX4_addsDrought, Cond.instanceMethod yX4_addsDrought, Cond.selects RX4 yX4_addsDrought yX4_addsDrought, Cond.code yX4_addsDrought cX4_addsDrought 5 (some .int), Cond.constant RX4 59 (60000), Cond.methodLink RX4 40 yX4_isWell, Cond.instanceMethod yX4_isWell, Cond.selects RX4 yX4_isWell yX4_isWell, Cond.code yX4_isWell cX4_isWell 2 (some .boolean), Cond.methodLink RX4 32 yX4_in, Cond.static yX4_in, Cond.code yX4_in cX4_in 3 (some .boolean), Cond.methodLink RX4 55 yX4_recorded, Cond.instanceMethod yX4_recorded, Cond.selects RX4 yX4_recorded yX4_recorded, Cond.code yX4_recorded cX4_recorded 3 (some .int), Cond.fieldLink RX4 16 "NoonWellsModel" "states" "[I"]
def wsX4_drought_r2 : List Cond := [Cond.fieldLink RX4 25 "NoonWellsModel" "stateAt" "I", Cond.fieldLink RX4 29 "NoonWellsModel" "stateMany" "I"]
def wsX4_drought : List Cond := .code yX4_drought cX4_drought 4 (some .int) :: ((wsX4_drought_r1 ++ wsX4_drought_r2) ++ wsX40)
def wsX4_droughtOf : List Cond := .code yX4_droughtOf cX4_droughtOf 3 (some .int) :: ([.fieldLink RX4 7 "NoonWellsModel" "now" "[I", .methodLink RX4 32 yX4_in, .static yX4_in, .initialized RX4, .code yX4_in cX4_in 3 (some .boolean)] ++ wsX40)
def wsX4_isDry : List Cond := .code yX4_isDry cX4_isDry 6 (some .boolean) :: ([.fieldLink RX4 7 "NoonWellsModel" "now" "[I", .methodLink RX4 32 yX4_in, .static yX4_in, .initialized RX4, .code yX4_in cX4_in 3 (some .boolean)] ++ wsX40)
def wsX4_belowMany : List Cond := .code yX4_belowMany cX4_belowMany 4 (some .int) :: ([.fieldLink RX4 7 "NoonWellsModel" "now" "[I", .methodLink RX4 36 yX4_of, .instanceMethod yX4_of, .selects RX4 yX4_of yX4_of, .initialized RX4, .code yX4_of cX4_of 3 (some .int)] ++ wsX40)
def wsX4_wellOf : List Cond := .code yX4_wellOf cX4_wellOf 3 (some .int) :: ([.fieldLink RX4 7 "NoonWellsModel" "now" "[I", .methodLink RX4 40 yX4_isWell, .instanceMethod yX4_isWell, .selects RX4 yX4_isWell yX4_isWell, .initialized RX4, .code yX4_isWell cX4_isWell 2 (some .boolean), .methodLink RX4 32 yX4_in, .static yX4_in, .code yX4_in cX4_in 3 (some .boolean), .methodLink RX4 64 yX4_belowMany, .instanceMethod yX4_belowMany, .selects RX4 yX4_belowMany yX4_belowMany, .code yX4_belowMany cX4_belowMany 4 (some .int), .methodLink RX4 36 yX4_of, .instanceMethod yX4_of, .selects RX4 yX4_of yX4_of, .code yX4_of cX4_of 3 (some .int), .methodLink RX4 67 yX4_isDry, .instanceMethod yX4_isDry, .selects RX4 yX4_isDry yX4_isDry, .code yX4_isDry cX4_isDry 6 (some .boolean)] ++ wsX40)
def wsX4_aboveAt : List Cond := .code yX4_aboveAt cX4_aboveAt 5 (some .int) :: ([.methodLink RX4 40 yX4_isWell, .instanceMethod yX4_isWell, .selects RX4 yX4_isWell yX4_isWell, .initialized RX4, .code yX4_isWell cX4_isWell 2 (some .boolean), .fieldLink RX4 7 "NoonWellsModel" "now" "[I", .methodLink RX4 32 yX4_in, .static yX4_in, .code yX4_in cX4_in 3 (some .boolean), .methodLink RX4 36 yX4_of, .instanceMethod yX4_of, .selects RX4 yX4_of yX4_of, .code yX4_of cX4_of 3 (some .int)] ++ wsX40)
def wsX4_ableOf : List Cond := .code yX4_ableOf cX4_ableOf 4 (some .int) :: ([.methodLink RX4 36 yX4_of, .instanceMethod yX4_of, .selects RX4 yX4_of yX4_of, .initialized RX4, .code yX4_of cX4_of 3 (some .int), .fieldLink RX4 7 "NoonWellsModel" "now" "[I", .methodLink RX4 71 yX4_least, .static yX4_least, .code yX4_least cX4_least 2 (some .int)] ++ wsX40)
def wsX4_isDraw : List Cond := .code yX4_isDraw cX4_isDraw 1 (some .boolean) :: ([.methodLink RX4 32 yX4_in, .static yX4_in, .initialized RX4, .code yX4_in cX4_in 3 (some .boolean)])
def wsX4_part : List Cond := .code yX4_part cX4_part 4 (some .int) :: ([.methodLink RX4 36 yX4_of, .instanceMethod yX4_of, .selects RX4 yX4_of yX4_of, .initialized RX4, .code yX4_of cX4_of 3 (some .int), .fieldLink RX4 7 "NoonWellsModel" "now" "[I", .methodLink RX4 71 yX4_least, .static yX4_least, .code yX4_least cX4_least 2 (some .int)] ++ wsX40)
def wsX4_takes : List Cond := .code yX4_takes cX4_takes 7 (some .int) :: ([.fieldLink RX4 7 "NoonWellsModel" "now" "[I", .methodLink RX4 74 yX4_part, .instanceMethod yX4_part, .selects RX4 yX4_part yX4_part, .initialized RX4, .code yX4_part cX4_part 4 (some .int), .methodLink RX4 36 yX4_of, .instanceMethod yX4_of, .selects RX4 yX4_of yX4_of, .code yX4_of cX4_of 3 (some .int), .methodLink RX4 71 yX4_least, .static yX4_least, .code yX4_least cX4_least 2 (some .int), .methodLink RX4 44 yX4_adds, .instanceMethod yX4_adds, .selects RX4 yX4_adds yX4_adds, .code yX4_adds cX4_adds 4 none] ++ wsX40)
def wsX4_draws_r1 : List Cond := [Cond.methodLink RX4 40 yX4_isWell, Cond.instanceMethod yX4_isWell, Cond.selects RX4 yX4_isWell yX4_isWell, Cond.initialized RX4, Cond.code yX4_isWell cX4_isWell 2 (some .boolean), Cond.fieldLink RX4 7 "NoonWellsModel" "now" "[I", Cond.methodLink RX4 32 yX4_in, Cond.static yX4_in, Cond.code yX4_in cX4_in 3 (some .boolean), Cond.methodLink RX4 77 yX4_isDraw, Cond.static yX4_isDraw, Cond.code yX4_isDraw cX4_isDraw 1 (some .boolean), Cond.methodLink RX4 80 yX4_ableOf, Cond.instanceMethod yX4_ableOf, Cond.selects RX4 yX4_ableOf yX4_ableOf, Cond.code yX4_ableOf cX4_ableOf 4 (some .int), Cond.methodLink RX4 36 yX4_of, Cond.instanceMethod yX4_of, Cond.selects RX4 yX4_of yX4_of, Cond.code yX4_of cX4_of 3 (some .int), Cond.methodLink RX4 71 yX4_least, Cond.static yX4_least, Cond.code yX4_least cX4_least 2 (some .int), Cond.methodLink RX4 83 yX4_takes]
def wsX4_draws_r2 : List Cond := [Cond.instanceMethod yX4_takes, Cond.selects RX4 yX4_takes yX4_takes, Cond.code yX4_takes cX4_takes 7 (some .int), Cond.methodLink RX4 74 yX4_part, Cond.instanceMethod yX4_part, Cond.selects RX4 yX4_part yX4_part, Cond.code yX4_part cX4_part 4 (some .int), Cond.methodLink RX4 44 yX4_adds, Cond.instanceMethod yX4_adds, Cond.selects RX4 yX4_adds yX4_adds, Cond.code yX4_adds cX4_adds 4 none]
def wsX4_draws : List Cond := .code yX4_draws cX4_draws 3 (some .int) :: ((wsX4_draws_r1 ++ wsX4_draws_r2) ++ wsX40)
def wsX4_draw_r1 : List Cond := [Cond.methodLink RX4 48 yX4_copy, Cond.instanceMethod yX4_copy, Cond.selects RX4 yX4_copy yX4_copy, Cond.initialized RX4, Cond.code yX4_copy cX4_copy 2 none, Cond.fieldLink RX4 13 "NoonWellsModel" "before" "[I", Cond.fieldLink RX4 7 "NoonWellsModel" "now" "[I", Cond.methodLink RX4 86 yX4_draws, Cond.instanceMethod yX4_draws, Cond.selects RX4 yX4_draws yX4_draws, Cond.code yX4_draws cX4_draws 3 (some .int), Cond.methodLink RX4 40 yX4_isWell, Cond.instanceMethod yX4_isWell, Cond.selects RX4 yX4_isWell yX4_isWell, Cond.code yX4_isWell cX4_isWell 2 (some .boolean), Cond.methodLink RX4 32 yX4_in, Cond.static yX4_in, Cond.code yX4_in cX4_in 3 (some .boolean), Cond.methodLink RX4 77 yX4_isDraw, Cond.static yX4_isDraw, Cond.code yX4_isDraw cX4_isDraw 1 (some .boolean), Cond.methodLink RX4 80 yX4_ableOf, Cond.instanceMethod yX4_ableOf, Cond.selects RX4 yX4_ableOf yX4_ableOf]
def wsX4_draw_r2 : List Cond := [Cond.code yX4_ableOf cX4_ableOf 4 (some .int), Cond.methodLink RX4 36 yX4_of, Cond.instanceMethod yX4_of, Cond.selects RX4 yX4_of yX4_of, Cond.code yX4_of cX4_of 3 (some .int), Cond.methodLink RX4 71 yX4_least, Cond.static yX4_least, Cond.code yX4_least cX4_least 2 (some .int), Cond.methodLink RX4 83 yX4_takes, Cond.instanceMethod yX4_takes, Cond.selects RX4 yX4_takes yX4_takes, Cond.code yX4_takes cX4_takes 7 (some .int), Cond.methodLink RX4 74 yX4_part, Cond.instanceMethod yX4_part, Cond.selects RX4 yX4_part yX4_part, Cond.code yX4_part cX4_part 4 (some .int), Cond.methodLink RX4 44 yX4_adds, Cond.instanceMethod yX4_adds, Cond.selects RX4 yX4_adds yX4_adds, Cond.code yX4_adds cX4_adds 4 none, Cond.methodLink RX4 55 yX4_recorded, Cond.instanceMethod yX4_recorded, Cond.selects RX4 yX4_recorded yX4_recorded, Cond.code yX4_recorded cX4_recorded 3 (some .int)]
def wsX4_draw_r3 : List Cond := [Cond.fieldLink RX4 16 "NoonWellsModel" "states" "[I", Cond.fieldLink RX4 25 "NoonWellsModel" "stateAt" "I", Cond.fieldLink RX4 29 "NoonWellsModel" "stateMany" "I"]
def wsX4_draw : List Cond := .code yX4_draw cX4_draw 3 (some .int) :: ((wsX4_draw_r1 ++ (wsX4_draw_r2 ++ wsX4_draw_r3)) ++ wsX40)
def wsX4_requests_r1 : List Cond := [Cond.fieldLink RX4 7 "NoonWellsModel" "now" "[I", Cond.methodLink RX4 40 yX4_isWell, Cond.instanceMethod yX4_isWell, Cond.selects RX4 yX4_isWell yX4_isWell, Cond.initialized RX4, Cond.code yX4_isWell cX4_isWell 2 (some .boolean), Cond.methodLink RX4 32 yX4_in, Cond.static yX4_in, Cond.code yX4_in cX4_in 3 (some .boolean), Cond.methodLink RX4 77 yX4_isDraw, Cond.static yX4_isDraw, Cond.code yX4_isDraw cX4_isDraw 1 (some .boolean), Cond.methodLink RX4 80 yX4_ableOf, Cond.instanceMethod yX4_ableOf, Cond.selects RX4 yX4_ableOf yX4_ableOf, Cond.code yX4_ableOf cX4_ableOf 4 (some .int), Cond.methodLink RX4 36 yX4_of, Cond.instanceMethod yX4_of, Cond.selects RX4 yX4_of yX4_of, Cond.code yX4_of cX4_of 3 (some .int), Cond.methodLink RX4 71 yX4_least, Cond.static yX4_least, Cond.code yX4_least cX4_least 2 (some .int), Cond.methodLink RX4 83 yX4_takes]
def wsX4_requests_r2 : List Cond := [Cond.instanceMethod yX4_takes, Cond.selects RX4 yX4_takes yX4_takes, Cond.code yX4_takes cX4_takes 7 (some .int), Cond.methodLink RX4 74 yX4_part, Cond.instanceMethod yX4_part, Cond.selects RX4 yX4_part yX4_part, Cond.code yX4_part cX4_part 4 (some .int), Cond.methodLink RX4 44 yX4_adds, Cond.instanceMethod yX4_adds, Cond.selects RX4 yX4_adds yX4_adds, Cond.code yX4_adds cX4_adds 4 none]
def wsX4_requests : List Cond := .code yX4_requests cX4_requests 4 (some .int) :: ((wsX4_requests_r1 ++ wsX4_requests_r2) ++ wsX40)
def wsX4_request_r1 : List Cond := [Cond.methodLink RX4 48 yX4_copy, Cond.instanceMethod yX4_copy, Cond.selects RX4 yX4_copy yX4_copy, Cond.initialized RX4, Cond.code yX4_copy cX4_copy 2 none, Cond.fieldLink RX4 13 "NoonWellsModel" "before" "[I", Cond.fieldLink RX4 7 "NoonWellsModel" "now" "[I", Cond.methodLink RX4 89 yX4_requests, Cond.instanceMethod yX4_requests, Cond.selects RX4 yX4_requests yX4_requests, Cond.code yX4_requests cX4_requests 4 (some .int), Cond.methodLink RX4 40 yX4_isWell, Cond.instanceMethod yX4_isWell, Cond.selects RX4 yX4_isWell yX4_isWell, Cond.code yX4_isWell cX4_isWell 2 (some .boolean), Cond.methodLink RX4 32 yX4_in, Cond.static yX4_in, Cond.code yX4_in cX4_in 3 (some .boolean), Cond.methodLink RX4 77 yX4_isDraw, Cond.static yX4_isDraw, Cond.code yX4_isDraw cX4_isDraw 1 (some .boolean), Cond.methodLink RX4 80 yX4_ableOf, Cond.instanceMethod yX4_ableOf, Cond.selects RX4 yX4_ableOf yX4_ableOf]
def wsX4_request_r2 : List Cond := [Cond.code yX4_ableOf cX4_ableOf 4 (some .int), Cond.methodLink RX4 36 yX4_of, Cond.instanceMethod yX4_of, Cond.selects RX4 yX4_of yX4_of, Cond.code yX4_of cX4_of 3 (some .int), Cond.methodLink RX4 71 yX4_least, Cond.static yX4_least, Cond.code yX4_least cX4_least 2 (some .int), Cond.methodLink RX4 83 yX4_takes, Cond.instanceMethod yX4_takes, Cond.selects RX4 yX4_takes yX4_takes, Cond.code yX4_takes cX4_takes 7 (some .int), Cond.methodLink RX4 74 yX4_part, Cond.instanceMethod yX4_part, Cond.selects RX4 yX4_part yX4_part, Cond.code yX4_part cX4_part 4 (some .int), Cond.methodLink RX4 44 yX4_adds, Cond.instanceMethod yX4_adds, Cond.selects RX4 yX4_adds yX4_adds, Cond.code yX4_adds cX4_adds 4 none, Cond.methodLink RX4 55 yX4_recorded, Cond.instanceMethod yX4_recorded, Cond.selects RX4 yX4_recorded yX4_recorded, Cond.code yX4_recorded cX4_recorded 3 (some .int)]
def wsX4_request_r3 : List Cond := [Cond.fieldLink RX4 16 "NoonWellsModel" "states" "[I", Cond.fieldLink RX4 25 "NoonWellsModel" "stateAt" "I", Cond.fieldLink RX4 29 "NoonWellsModel" "stateMany" "I"]
def wsX4_request : List Cond := .code yX4_request cX4_request 3 (some .int) :: ((wsX4_request_r1 ++ (wsX4_request_r2 ++ wsX4_request_r3)) ++ wsX40)
def wsX4_isPlace : List Cond := .code yX4_isPlace cX4_isPlace 2 (some .boolean) :: ([.fieldLink RX4 7 "NoonWellsModel" "now" "[I", .methodLink RX4 32 yX4_in, .static yX4_in, .initialized RX4, .code yX4_in cX4_in 3 (some .boolean)] ++ wsX40)
def wsX4_leaves : List Cond := .code yX4_leaves cX4_leaves 3 none :: ([.fieldLink RX4 7 "NoonWellsModel" "now" "[I"] ++ wsX40)
def wsX4_cancel_r1 : List Cond := [Cond.fieldLink RX4 7 "NoonWellsModel" "now" "[I", Cond.methodLink RX4 92 yX4_isPlace, Cond.instanceMethod yX4_isPlace, Cond.selects RX4 yX4_isPlace yX4_isPlace, Cond.initialized RX4, Cond.code yX4_isPlace cX4_isPlace 2 (some .boolean), Cond.methodLink RX4 32 yX4_in, Cond.static yX4_in, Cond.code yX4_in cX4_in 3 (some .boolean), Cond.methodLink RX4 48 yX4_copy, Cond.instanceMethod yX4_copy, Cond.selects RX4 yX4_copy yX4_copy, Cond.code yX4_copy cX4_copy 2 none, Cond.fieldLink RX4 13 "NoonWellsModel" "before" "[I", Cond.methodLink RX4 95 yX4_leaves, Cond.instanceMethod yX4_leaves, Cond.selects RX4 yX4_leaves yX4_leaves, Cond.code yX4_leaves cX4_leaves 3 none, Cond.methodLink RX4 55 yX4_recorded, Cond.instanceMethod yX4_recorded, Cond.selects RX4 yX4_recorded yX4_recorded, Cond.code yX4_recorded cX4_recorded 3 (some .int), Cond.fieldLink RX4 16 "NoonWellsModel" "states" "[I", Cond.fieldLink RX4 25 "NoonWellsModel" "stateAt" "I"]
def wsX4_cancel_r2 : List Cond := [Cond.fieldLink RX4 29 "NoonWellsModel" "stateMany" "I"]
def wsX4_cancel : List Cond := .code yX4_cancel cX4_cancel 3 (some .int) :: ((wsX4_cancel_r1 ++ wsX4_cancel_r2) ++ wsX40)
def wsX4_requestAt : List Cond := .code yX4_requestAt cX4_requestAt 3 (some .int) :: ([.fieldLink RX4 7 "NoonWellsModel" "now" "[I", .methodLink RX4 92 yX4_isPlace, .instanceMethod yX4_isPlace, .selects RX4 yX4_isPlace yX4_isPlace, .initialized RX4, .code yX4_isPlace cX4_isPlace 2 (some .boolean), .methodLink RX4 32 yX4_in, .static yX4_in, .code yX4_in cX4_in 3 (some .boolean)] ++ wsX40)
def wsX4_looks_r1 : List Cond := [Cond.fieldLink RX4 7 "NoonWellsModel" "now" "[I", Cond.methodLink RX4 80 yX4_ableOf, Cond.instanceMethod yX4_ableOf, Cond.selects RX4 yX4_ableOf yX4_ableOf, Cond.initialized RX4, Cond.code yX4_ableOf cX4_ableOf 4 (some .int), Cond.methodLink RX4 36 yX4_of, Cond.instanceMethod yX4_of, Cond.selects RX4 yX4_of yX4_of, Cond.code yX4_of cX4_of 3 (some .int), Cond.methodLink RX4 71 yX4_least, Cond.static yX4_least, Cond.code yX4_least cX4_least 2 (some .int), Cond.methodLink RX4 83 yX4_takes, Cond.instanceMethod yX4_takes, Cond.selects RX4 yX4_takes yX4_takes, Cond.code yX4_takes cX4_takes 7 (some .int), Cond.methodLink RX4 74 yX4_part, Cond.instanceMethod yX4_part, Cond.selects RX4 yX4_part yX4_part, Cond.code yX4_part cX4_part 4 (some .int), Cond.methodLink RX4 44 yX4_adds, Cond.instanceMethod yX4_adds, Cond.selects RX4 yX4_adds yX4_adds]
def wsX4_looks_r2 : List Cond := [Cond.code yX4_adds cX4_adds 4 none, Cond.methodLink RX4 95 yX4_leaves, Cond.instanceMethod yX4_leaves, Cond.selects RX4 yX4_leaves yX4_leaves, Cond.code yX4_leaves cX4_leaves 3 none]
def wsX4_looks : List Cond := .code yX4_looks cX4_looks 5 none :: ((wsX4_looks_r1 ++ wsX4_looks_r2) ++ wsX40)
def wsX4_flows : List Cond := .code yX4_flows cX4_flows 4 none :: ([.fieldLink RX4 7 "NoonWellsModel" "now" "[I", .methodLink RX4 67 yX4_isDry, .instanceMethod yX4_isDry, .selects RX4 yX4_isDry yX4_isDry, .initialized RX4, .code yX4_isDry cX4_isDry 6 (some .boolean), .methodLink RX4 32 yX4_in, .static yX4_in, .code yX4_in cX4_in 3 (some .boolean), .methodLink RX4 36 yX4_of, .instanceMethod yX4_of, .selects RX4 yX4_of yX4_of, .code yX4_of cX4_of 3 (some .int), .methodLink RX4 99 yX4_room, .instanceMethod yX4_room, .selects RX4 yX4_room yX4_room, .code yX4_room cX4_room 2 (some .int), .methodLink RX4 71 yX4_least, .static yX4_least, .code yX4_least cX4_least 2 (some .int), .methodLink RX4 44 yX4_adds, .instanceMethod yX4_adds, .selects RX4 yX4_adds yX4_adds, .code yX4_adds cX4_adds 4 none] ++ wsX40)
def wsX4_lends : List Cond := .code yX4_lends cX4_lends 5 (some .int) :: ([.fieldLink RX4 7 "NoonWellsModel" "now" "[I", .methodLink RX4 36 yX4_of, .instanceMethod yX4_of, .selects RX4 yX4_of yX4_of, .initialized RX4, .code yX4_of cX4_of 3 (some .int), .methodLink RX4 102 yX4_half, .instanceMethod yX4_half, .selects RX4 yX4_half yX4_half, .code yX4_half cX4_half 2 (some .int), .methodLink RX4 99 yX4_room, .instanceMethod yX4_room, .selects RX4 yX4_room yX4_room, .code yX4_room cX4_room 2 (some .int), .methodLink RX4 71 yX4_least, .static yX4_least, .code yX4_least cX4_least 2 (some .int), .methodLink RX4 44 yX4_adds, .instanceMethod yX4_adds, .selects RX4 yX4_adds yX4_adds, .code yX4_adds cX4_adds 4 none] ++ wsX40)
def wsX4_paysBack : List Cond := .code yX4_paysBack cX4_paysBack 4 none :: ([.fieldLink RX4 7 "NoonWellsModel" "now" "[I", .methodLink RX4 36 yX4_of, .instanceMethod yX4_of, .selects RX4 yX4_of yX4_of, .initialized RX4, .code yX4_of cX4_of 3 (some .int), .methodLink RX4 99 yX4_room, .instanceMethod yX4_room, .selects RX4 yX4_room yX4_room, .code yX4_room cX4_room 2 (some .int), .methodLink RX4 71 yX4_least, .static yX4_least, .code yX4_least cX4_least 2 (some .int), .methodLink RX4 44 yX4_adds, .instanceMethod yX4_adds, .selects RX4 yX4_adds yX4_adds, .code yX4_adds cX4_adds 4 none] ++ wsX40)
def wsX4_ticks_r1 : List Cond := [Cond.fieldLink RX4 7 "NoonWellsModel" "now" "[I", Cond.methodLink RX4 105 yX4_flows, Cond.instanceMethod yX4_flows, Cond.selects RX4 yX4_flows yX4_flows, Cond.initialized RX4, Cond.code yX4_flows cX4_flows 4 none, Cond.methodLink RX4 67 yX4_isDry, Cond.instanceMethod yX4_isDry, Cond.selects RX4 yX4_isDry yX4_isDry, Cond.code yX4_isDry cX4_isDry 6 (some .boolean), Cond.methodLink RX4 32 yX4_in, Cond.static yX4_in, Cond.code yX4_in cX4_in 3 (some .boolean), Cond.methodLink RX4 36 yX4_of, Cond.instanceMethod yX4_of, Cond.selects RX4 yX4_of yX4_of, Cond.code yX4_of cX4_of 3 (some .int), Cond.methodLink RX4 99 yX4_room, Cond.instanceMethod yX4_room, Cond.selects RX4 yX4_room yX4_room, Cond.code yX4_room cX4_room 2 (some .int), Cond.methodLink RX4 71 yX4_least, Cond.static yX4_least, Cond.code yX4_least cX4_least 2 (some .int)]
def wsX4_ticks_r2 : List Cond := [Cond.methodLink RX4 44 yX4_adds, Cond.instanceMethod yX4_adds, Cond.selects RX4 yX4_adds yX4_adds, Cond.code yX4_adds cX4_adds 4 none, Cond.methodLink RX4 108 yX4_lends, Cond.instanceMethod yX4_lends, Cond.selects RX4 yX4_lends yX4_lends, Cond.code yX4_lends cX4_lends 5 (some .int), Cond.methodLink RX4 102 yX4_half, Cond.instanceMethod yX4_half, Cond.selects RX4 yX4_half yX4_half, Cond.code yX4_half cX4_half 2 (some .int), Cond.methodLink RX4 112 yX4_paysBack, Cond.instanceMethod yX4_paysBack, Cond.selects RX4 yX4_paysBack yX4_paysBack, Cond.code yX4_paysBack cX4_paysBack 4 none, Cond.methodLink RX4 115 yX4_looks, Cond.instanceMethod yX4_looks, Cond.selects RX4 yX4_looks yX4_looks, Cond.code yX4_looks cX4_looks 5 none, Cond.methodLink RX4 80 yX4_ableOf, Cond.instanceMethod yX4_ableOf, Cond.selects RX4 yX4_ableOf yX4_ableOf, Cond.code yX4_ableOf cX4_ableOf 4 (some .int)]
def wsX4_ticks_r3 : List Cond := [Cond.methodLink RX4 83 yX4_takes, Cond.instanceMethod yX4_takes, Cond.selects RX4 yX4_takes yX4_takes, Cond.code yX4_takes cX4_takes 7 (some .int), Cond.methodLink RX4 74 yX4_part, Cond.instanceMethod yX4_part, Cond.selects RX4 yX4_part yX4_part, Cond.code yX4_part cX4_part 4 (some .int), Cond.methodLink RX4 95 yX4_leaves, Cond.instanceMethod yX4_leaves, Cond.selects RX4 yX4_leaves yX4_leaves, Cond.code yX4_leaves cX4_leaves 3 none]
def wsX4_ticks : List Cond := .code yX4_ticks cX4_ticks 2 none :: ((wsX4_ticks_r1 ++ (wsX4_ticks_r2 ++ wsX4_ticks_r3)) ++ wsX40)
def wsX4_passes_r1 : List Cond := [Cond.fieldLink RX4 7 "NoonWellsModel" "now" "[I", Cond.constant RX4 118 (50000), Cond.methodLink RX4 32 yX4_in, Cond.static yX4_in, Cond.initialized RX4, Cond.code yX4_in cX4_in 3 (some .boolean), Cond.methodLink RX4 119 yX4_ticks, Cond.instanceMethod yX4_ticks, Cond.selects RX4 yX4_ticks yX4_ticks, Cond.code yX4_ticks cX4_ticks 2 none, Cond.methodLink RX4 105 yX4_flows, Cond.instanceMethod yX4_flows, Cond.selects RX4 yX4_flows yX4_flows, Cond.code yX4_flows cX4_flows 4 none, Cond.methodLink RX4 67 yX4_isDry, Cond.instanceMethod yX4_isDry, Cond.selects RX4 yX4_isDry yX4_isDry, Cond.code yX4_isDry cX4_isDry 6 (some .boolean), Cond.methodLink RX4 36 yX4_of, Cond.instanceMethod yX4_of, Cond.selects RX4 yX4_of yX4_of, Cond.code yX4_of cX4_of 3 (some .int), Cond.methodLink RX4 99 yX4_room, Cond.instanceMethod yX4_room]
def wsX4_passes_r2 : List Cond := [Cond.selects RX4 yX4_room yX4_room, Cond.code yX4_room cX4_room 2 (some .int), Cond.methodLink RX4 71 yX4_least, Cond.static yX4_least, Cond.code yX4_least cX4_least 2 (some .int), Cond.methodLink RX4 44 yX4_adds, Cond.instanceMethod yX4_adds, Cond.selects RX4 yX4_adds yX4_adds, Cond.code yX4_adds cX4_adds 4 none, Cond.methodLink RX4 108 yX4_lends, Cond.instanceMethod yX4_lends, Cond.selects RX4 yX4_lends yX4_lends, Cond.code yX4_lends cX4_lends 5 (some .int), Cond.methodLink RX4 102 yX4_half, Cond.instanceMethod yX4_half, Cond.selects RX4 yX4_half yX4_half, Cond.code yX4_half cX4_half 2 (some .int), Cond.methodLink RX4 112 yX4_paysBack, Cond.instanceMethod yX4_paysBack, Cond.selects RX4 yX4_paysBack yX4_paysBack, Cond.code yX4_paysBack cX4_paysBack 4 none, Cond.methodLink RX4 115 yX4_looks, Cond.instanceMethod yX4_looks, Cond.selects RX4 yX4_looks yX4_looks]
def wsX4_passes_r3 : List Cond := [Cond.code yX4_looks cX4_looks 5 none, Cond.methodLink RX4 80 yX4_ableOf, Cond.instanceMethod yX4_ableOf, Cond.selects RX4 yX4_ableOf yX4_ableOf, Cond.code yX4_ableOf cX4_ableOf 4 (some .int), Cond.methodLink RX4 83 yX4_takes, Cond.instanceMethod yX4_takes, Cond.selects RX4 yX4_takes yX4_takes, Cond.code yX4_takes cX4_takes 7 (some .int), Cond.methodLink RX4 74 yX4_part, Cond.instanceMethod yX4_part, Cond.selects RX4 yX4_part yX4_part, Cond.code yX4_part cX4_part 4 (some .int), Cond.methodLink RX4 95 yX4_leaves, Cond.instanceMethod yX4_leaves, Cond.selects RX4 yX4_leaves yX4_leaves, Cond.code yX4_leaves cX4_leaves 3 none]
def wsX4_passes : List Cond := .code yX4_passes cX4_passes 4 (some .int) :: ((wsX4_passes_r1 ++ (wsX4_passes_r2 ++ wsX4_passes_r3)) ++ wsX40)
def wsX4_tick_r1 : List Cond := [Cond.methodLink RX4 48 yX4_copy, Cond.instanceMethod yX4_copy, Cond.selects RX4 yX4_copy yX4_copy, Cond.initialized RX4, Cond.code yX4_copy cX4_copy 2 none, Cond.fieldLink RX4 13 "NoonWellsModel" "before" "[I", Cond.fieldLink RX4 7 "NoonWellsModel" "now" "[I", Cond.methodLink RX4 122 yX4_passes, Cond.instanceMethod yX4_passes, Cond.selects RX4 yX4_passes yX4_passes, Cond.code yX4_passes cX4_passes 4 (some .int), Cond.constant RX4 118 (50000), Cond.methodLink RX4 32 yX4_in, Cond.static yX4_in, Cond.code yX4_in cX4_in 3 (some .boolean), Cond.methodLink RX4 119 yX4_ticks, Cond.instanceMethod yX4_ticks, Cond.selects RX4 yX4_ticks yX4_ticks, Cond.code yX4_ticks cX4_ticks 2 none, Cond.methodLink RX4 105 yX4_flows, Cond.instanceMethod yX4_flows, Cond.selects RX4 yX4_flows yX4_flows, Cond.code yX4_flows cX4_flows 4 none, Cond.methodLink RX4 67 yX4_isDry]
def wsX4_tick_r2 : List Cond := [Cond.instanceMethod yX4_isDry, Cond.selects RX4 yX4_isDry yX4_isDry, Cond.code yX4_isDry cX4_isDry 6 (some .boolean), Cond.methodLink RX4 36 yX4_of, Cond.instanceMethod yX4_of, Cond.selects RX4 yX4_of yX4_of, Cond.code yX4_of cX4_of 3 (some .int), Cond.methodLink RX4 99 yX4_room, Cond.instanceMethod yX4_room, Cond.selects RX4 yX4_room yX4_room, Cond.code yX4_room cX4_room 2 (some .int), Cond.methodLink RX4 71 yX4_least, Cond.static yX4_least, Cond.code yX4_least cX4_least 2 (some .int), Cond.methodLink RX4 44 yX4_adds, Cond.instanceMethod yX4_adds, Cond.selects RX4 yX4_adds yX4_adds, Cond.code yX4_adds cX4_adds 4 none, Cond.methodLink RX4 108 yX4_lends, Cond.instanceMethod yX4_lends, Cond.selects RX4 yX4_lends yX4_lends, Cond.code yX4_lends cX4_lends 5 (some .int), Cond.methodLink RX4 102 yX4_half, Cond.instanceMethod yX4_half]
def wsX4_tick_r3 : List Cond := [Cond.selects RX4 yX4_half yX4_half, Cond.code yX4_half cX4_half 2 (some .int), Cond.methodLink RX4 112 yX4_paysBack, Cond.instanceMethod yX4_paysBack, Cond.selects RX4 yX4_paysBack yX4_paysBack, Cond.code yX4_paysBack cX4_paysBack 4 none, Cond.methodLink RX4 115 yX4_looks, Cond.instanceMethod yX4_looks, Cond.selects RX4 yX4_looks yX4_looks, Cond.code yX4_looks cX4_looks 5 none, Cond.methodLink RX4 80 yX4_ableOf, Cond.instanceMethod yX4_ableOf, Cond.selects RX4 yX4_ableOf yX4_ableOf, Cond.code yX4_ableOf cX4_ableOf 4 (some .int), Cond.methodLink RX4 83 yX4_takes, Cond.instanceMethod yX4_takes, Cond.selects RX4 yX4_takes yX4_takes, Cond.code yX4_takes cX4_takes 7 (some .int), Cond.methodLink RX4 74 yX4_part, Cond.instanceMethod yX4_part, Cond.selects RX4 yX4_part yX4_part, Cond.code yX4_part cX4_part 4 (some .int), Cond.methodLink RX4 95 yX4_leaves, Cond.instanceMethod yX4_leaves]
def wsX4_tick_r4 : List Cond := [Cond.selects RX4 yX4_leaves yX4_leaves, Cond.code yX4_leaves cX4_leaves 3 none, Cond.methodLink RX4 55 yX4_recorded, Cond.instanceMethod yX4_recorded, Cond.selects RX4 yX4_recorded yX4_recorded, Cond.code yX4_recorded cX4_recorded 3 (some .int), Cond.fieldLink RX4 16 "NoonWellsModel" "states" "[I", Cond.fieldLink RX4 25 "NoonWellsModel" "stateAt" "I", Cond.fieldLink RX4 29 "NoonWellsModel" "stateMany" "I"]
def wsX4_tick : List Cond := .code yX4_tick cX4_tick 2 (some .int) :: ((wsX4_tick_r1 ++ (wsX4_tick_r2 ++ (wsX4_tick_r3 ++ wsX4_tick_r4))) ++ wsX40)
def wsX4_set : List Cond := .code yX4_set cX4_set 4 (some .int) :: ([.fieldLink RX4 7 "NoonWellsModel" "now" "[I", .methodLink RX4 32 yX4_in, .static yX4_in, .initialized RX4, .code yX4_in cX4_in 3 (some .boolean), .methodLink RX4 48 yX4_copy, .instanceMethod yX4_copy, .selects RX4 yX4_copy yX4_copy, .code yX4_copy cX4_copy 2 none, .fieldLink RX4 13 "NoonWellsModel" "before" "[I", .methodLink RX4 55 yX4_recorded, .instanceMethod yX4_recorded, .selects RX4 yX4_recorded yX4_recorded, .code yX4_recorded cX4_recorded 3 (some .int), .fieldLink RX4 16 "NoonWellsModel" "states" "[I", .fieldLink RX4 25 "NoonWellsModel" "stateAt" "I", .fieldLink RX4 29 "NoonWellsModel" "stateMany" "I"] ++ wsX40)
def wsX4_able : List Cond := .code yX4_able cX4_able 2 (some .int) :: ([.methodLink RX4 40 yX4_isWell, .instanceMethod yX4_isWell, .selects RX4 yX4_isWell yX4_isWell, .initialized RX4, .code yX4_isWell cX4_isWell 2 (some .boolean), .fieldLink RX4 7 "NoonWellsModel" "now" "[I", .methodLink RX4 32 yX4_in, .static yX4_in, .code yX4_in cX4_in 3 (some .boolean), .methodLink RX4 80 yX4_ableOf, .instanceMethod yX4_ableOf, .selects RX4 yX4_ableOf yX4_ableOf, .code yX4_ableOf cX4_ableOf 4 (some .int), .methodLink RX4 36 yX4_of, .instanceMethod yX4_of, .selects RX4 yX4_of yX4_of, .code yX4_of cX4_of 3 (some .int), .methodLink RX4 71 yX4_least, .static yX4_least, .code yX4_least cX4_least 2 (some .int)] ++ wsX40)
def wsX4_gives_r1 : List Cond := [Cond.methodLink RX4 40 yX4_isWell, Cond.instanceMethod yX4_isWell, Cond.selects RX4 yX4_isWell yX4_isWell, Cond.initialized RX4, Cond.code yX4_isWell cX4_isWell 2 (some .boolean), Cond.fieldLink RX4 7 "NoonWellsModel" "now" "[I", Cond.methodLink RX4 32 yX4_in, Cond.static yX4_in, Cond.code yX4_in cX4_in 3 (some .boolean), Cond.methodLink RX4 77 yX4_isDraw, Cond.static yX4_isDraw, Cond.code yX4_isDraw cX4_isDraw 1 (some .boolean), Cond.methodLink RX4 80 yX4_ableOf, Cond.instanceMethod yX4_ableOf, Cond.selects RX4 yX4_ableOf yX4_ableOf, Cond.code yX4_ableOf cX4_ableOf 4 (some .int), Cond.methodLink RX4 36 yX4_of, Cond.instanceMethod yX4_of, Cond.selects RX4 yX4_of yX4_of, Cond.code yX4_of cX4_of 3 (some .int), Cond.methodLink RX4 71 yX4_least, Cond.static yX4_least, Cond.code yX4_least cX4_least 2 (some .int), Cond.methodLink RX4 74 yX4_part]
def wsX4_gives_r2 : List Cond := [Cond.instanceMethod yX4_part, Cond.selects RX4 yX4_part yX4_part, Cond.code yX4_part cX4_part 4 (some .int)]
def wsX4_gives : List Cond := .code yX4_gives cX4_gives 7 (some .int) :: ((wsX4_gives_r1 ++ wsX4_gives_r2) ++ wsX40)
def wsX4_possibleIn_r1 : List Cond := [Cond.methodLink RX4 40 yX4_isWell, Cond.instanceMethod yX4_isWell, Cond.selects RX4 yX4_isWell yX4_isWell, Cond.initialized RX4, Cond.code yX4_isWell cX4_isWell 2 (some .boolean), Cond.fieldLink RX4 7 "NoonWellsModel" "now" "[I", Cond.methodLink RX4 32 yX4_in, Cond.static yX4_in, Cond.code yX4_in cX4_in 3 (some .boolean), Cond.methodLink RX4 77 yX4_isDraw, Cond.static yX4_isDraw, Cond.code yX4_isDraw cX4_isDraw 1 (some .boolean), Cond.methodLink RX4 48 yX4_copy, Cond.instanceMethod yX4_copy, Cond.selects RX4 yX4_copy yX4_copy, Cond.code yX4_copy cX4_copy 2 none, Cond.fieldLink RX4 13 "NoonWellsModel" "before" "[I", Cond.methodLink RX4 80 yX4_ableOf, Cond.instanceMethod yX4_ableOf, Cond.selects RX4 yX4_ableOf yX4_ableOf, Cond.code yX4_ableOf cX4_ableOf 4 (some .int), Cond.methodLink RX4 36 yX4_of, Cond.instanceMethod yX4_of, Cond.selects RX4 yX4_of yX4_of]
def wsX4_possibleIn_r2 : List Cond := [Cond.code yX4_of cX4_of 3 (some .int), Cond.methodLink RX4 71 yX4_least, Cond.static yX4_least, Cond.code yX4_least cX4_least 2 (some .int), Cond.methodLink RX4 119 yX4_ticks, Cond.instanceMethod yX4_ticks, Cond.selects RX4 yX4_ticks yX4_ticks, Cond.code yX4_ticks cX4_ticks 2 none, Cond.methodLink RX4 105 yX4_flows, Cond.instanceMethod yX4_flows, Cond.selects RX4 yX4_flows yX4_flows, Cond.code yX4_flows cX4_flows 4 none, Cond.methodLink RX4 67 yX4_isDry, Cond.instanceMethod yX4_isDry, Cond.selects RX4 yX4_isDry yX4_isDry, Cond.code yX4_isDry cX4_isDry 6 (some .boolean), Cond.methodLink RX4 99 yX4_room, Cond.instanceMethod yX4_room, Cond.selects RX4 yX4_room yX4_room, Cond.code yX4_room cX4_room 2 (some .int), Cond.methodLink RX4 44 yX4_adds, Cond.instanceMethod yX4_adds, Cond.selects RX4 yX4_adds yX4_adds, Cond.code yX4_adds cX4_adds 4 none]
def wsX4_possibleIn_r3 : List Cond := [Cond.methodLink RX4 108 yX4_lends, Cond.instanceMethod yX4_lends, Cond.selects RX4 yX4_lends yX4_lends, Cond.code yX4_lends cX4_lends 5 (some .int), Cond.methodLink RX4 102 yX4_half, Cond.instanceMethod yX4_half, Cond.selects RX4 yX4_half yX4_half, Cond.code yX4_half cX4_half 2 (some .int), Cond.methodLink RX4 112 yX4_paysBack, Cond.instanceMethod yX4_paysBack, Cond.selects RX4 yX4_paysBack yX4_paysBack, Cond.code yX4_paysBack cX4_paysBack 4 none, Cond.methodLink RX4 115 yX4_looks, Cond.instanceMethod yX4_looks, Cond.selects RX4 yX4_looks yX4_looks, Cond.code yX4_looks cX4_looks 5 none, Cond.methodLink RX4 83 yX4_takes, Cond.instanceMethod yX4_takes, Cond.selects RX4 yX4_takes yX4_takes, Cond.code yX4_takes cX4_takes 7 (some .int), Cond.methodLink RX4 74 yX4_part, Cond.instanceMethod yX4_part, Cond.selects RX4 yX4_part yX4_part, Cond.code yX4_part cX4_part 4 (some .int)]
def wsX4_possibleIn_r4 : List Cond := [Cond.methodLink RX4 95 yX4_leaves, Cond.instanceMethod yX4_leaves, Cond.selects RX4 yX4_leaves yX4_leaves, Cond.code yX4_leaves cX4_leaves 3 none, Cond.methodLink RX4 125 yX4_back, Cond.instanceMethod yX4_back, Cond.selects RX4 yX4_back yX4_back, Cond.code yX4_back cX4_back 2 none]
def wsX4_possibleIn : List Cond := .code yX4_possibleIn cX4_possibleIn 4 (some .int) :: ((wsX4_possibleIn_r1 ++ (wsX4_possibleIn_r2 ++ (wsX4_possibleIn_r3 ++ wsX4_possibleIn_r4))) ++ wsX40)
def wsX4_waterIn_r1 : List Cond := [Cond.methodLink RX4 40 yX4_isWell, Cond.instanceMethod yX4_isWell, Cond.selects RX4 yX4_isWell yX4_isWell, Cond.initialized RX4, Cond.code yX4_isWell cX4_isWell 2 (some .boolean), Cond.fieldLink RX4 7 "NoonWellsModel" "now" "[I", Cond.methodLink RX4 32 yX4_in, Cond.static yX4_in, Cond.code yX4_in cX4_in 3 (some .boolean), Cond.methodLink RX4 48 yX4_copy, Cond.instanceMethod yX4_copy, Cond.selects RX4 yX4_copy yX4_copy, Cond.code yX4_copy cX4_copy 2 none, Cond.fieldLink RX4 13 "NoonWellsModel" "before" "[I", Cond.methodLink RX4 119 yX4_ticks, Cond.instanceMethod yX4_ticks, Cond.selects RX4 yX4_ticks yX4_ticks, Cond.code yX4_ticks cX4_ticks 2 none, Cond.methodLink RX4 105 yX4_flows, Cond.instanceMethod yX4_flows, Cond.selects RX4 yX4_flows yX4_flows, Cond.code yX4_flows cX4_flows 4 none, Cond.methodLink RX4 67 yX4_isDry, Cond.instanceMethod yX4_isDry]
def wsX4_waterIn_r2 : List Cond := [Cond.selects RX4 yX4_isDry yX4_isDry, Cond.code yX4_isDry cX4_isDry 6 (some .boolean), Cond.methodLink RX4 36 yX4_of, Cond.instanceMethod yX4_of, Cond.selects RX4 yX4_of yX4_of, Cond.code yX4_of cX4_of 3 (some .int), Cond.methodLink RX4 99 yX4_room, Cond.instanceMethod yX4_room, Cond.selects RX4 yX4_room yX4_room, Cond.code yX4_room cX4_room 2 (some .int), Cond.methodLink RX4 71 yX4_least, Cond.static yX4_least, Cond.code yX4_least cX4_least 2 (some .int), Cond.methodLink RX4 44 yX4_adds, Cond.instanceMethod yX4_adds, Cond.selects RX4 yX4_adds yX4_adds, Cond.code yX4_adds cX4_adds 4 none, Cond.methodLink RX4 108 yX4_lends, Cond.instanceMethod yX4_lends, Cond.selects RX4 yX4_lends yX4_lends, Cond.code yX4_lends cX4_lends 5 (some .int), Cond.methodLink RX4 102 yX4_half, Cond.instanceMethod yX4_half, Cond.selects RX4 yX4_half yX4_half]
def wsX4_waterIn_r3 : List Cond := [Cond.code yX4_half cX4_half 2 (some .int), Cond.methodLink RX4 112 yX4_paysBack, Cond.instanceMethod yX4_paysBack, Cond.selects RX4 yX4_paysBack yX4_paysBack, Cond.code yX4_paysBack cX4_paysBack 4 none, Cond.methodLink RX4 115 yX4_looks, Cond.instanceMethod yX4_looks, Cond.selects RX4 yX4_looks yX4_looks, Cond.code yX4_looks cX4_looks 5 none, Cond.methodLink RX4 80 yX4_ableOf, Cond.instanceMethod yX4_ableOf, Cond.selects RX4 yX4_ableOf yX4_ableOf, Cond.code yX4_ableOf cX4_ableOf 4 (some .int), Cond.methodLink RX4 83 yX4_takes, Cond.instanceMethod yX4_takes, Cond.selects RX4 yX4_takes yX4_takes, Cond.code yX4_takes cX4_takes 7 (some .int), Cond.methodLink RX4 74 yX4_part, Cond.instanceMethod yX4_part, Cond.selects RX4 yX4_part yX4_part, Cond.code yX4_part cX4_part 4 (some .int), Cond.methodLink RX4 95 yX4_leaves, Cond.instanceMethod yX4_leaves, Cond.selects RX4 yX4_leaves yX4_leaves]
def wsX4_waterIn_r4 : List Cond := [Cond.code yX4_leaves cX4_leaves 3 none, Cond.methodLink RX4 125 yX4_back, Cond.instanceMethod yX4_back, Cond.selects RX4 yX4_back yX4_back, Cond.code yX4_back cX4_back 2 none]
def wsX4_waterIn : List Cond := .code yX4_waterIn cX4_waterIn 4 (some .int) :: ((wsX4_waterIn_r1 ++ (wsX4_waterIn_r2 ++ (wsX4_waterIn_r3 ++ wsX4_waterIn_r4))) ++ wsX40)
def wsX4_lenders_r1 : List Cond := [Cond.methodLink RX4 48 yX4_copy, Cond.instanceMethod yX4_copy, Cond.selects RX4 yX4_copy yX4_copy, Cond.initialized RX4, Cond.code yX4_copy cX4_copy 2 none, Cond.fieldLink RX4 13 "NoonWellsModel" "before" "[I", Cond.fieldLink RX4 7 "NoonWellsModel" "now" "[I", Cond.methodLink RX4 108 yX4_lends, Cond.instanceMethod yX4_lends, Cond.selects RX4 yX4_lends yX4_lends, Cond.code yX4_lends cX4_lends 5 (some .int), Cond.methodLink RX4 36 yX4_of, Cond.instanceMethod yX4_of, Cond.selects RX4 yX4_of yX4_of, Cond.code yX4_of cX4_of 3 (some .int), Cond.methodLink RX4 102 yX4_half, Cond.instanceMethod yX4_half, Cond.selects RX4 yX4_half yX4_half, Cond.code yX4_half cX4_half 2 (some .int), Cond.methodLink RX4 99 yX4_room, Cond.instanceMethod yX4_room, Cond.selects RX4 yX4_room yX4_room, Cond.code yX4_room cX4_room 2 (some .int), Cond.methodLink RX4 71 yX4_least]
def wsX4_lenders_r2 : List Cond := [Cond.static yX4_least, Cond.code yX4_least cX4_least 2 (some .int), Cond.methodLink RX4 44 yX4_adds, Cond.instanceMethod yX4_adds, Cond.selects RX4 yX4_adds yX4_adds, Cond.code yX4_adds cX4_adds 4 none, Cond.methodLink RX4 125 yX4_back, Cond.instanceMethod yX4_back, Cond.selects RX4 yX4_back yX4_back, Cond.code yX4_back cX4_back 2 none]
def wsX4_lenders : List Cond := .code yX4_lenders cX4_lenders 2 (some .int) :: ((wsX4_lenders_r1 ++ wsX4_lenders_r2) ++ wsX40)
def wsX4_sum : List Cond := .code yX4_sum cX4_sum 4 (some .int) :: ([.fieldLink RX4 7 "NoonWellsModel" "now" "[I", .methodLink RX4 36 yX4_of, .instanceMethod yX4_of, .selects RX4 yX4_of yX4_of, .initialized RX4, .code yX4_of cX4_of 3 (some .int)] ++ wsX40)
def wsX4_count : List Cond := .code yX4_count cX4_count 2 (some .int) :: ([.fieldLink RX4 7 "NoonWellsModel" "now" "[I", .fieldLink RX4 29 "NoonWellsModel" "stateMany" "I", .fieldLink RX4 131 "NoonWellsModel" "letters" "I", .methodLink RX4 128 yX4_sum, .instanceMethod yX4_sum, .selects RX4 yX4_sum yX4_sum, .initialized RX4, .code yX4_sum cX4_sum 4 (some .int), .methodLink RX4 36 yX4_of, .instanceMethod yX4_of, .selects RX4 yX4_of yX4_of, .code yX4_of cX4_of 3 (some .int)] ++ wsX40)
def wsX4_type : List Cond := .code yX4_type cX4_type 2 (some .int) :: ([.fieldLink RX4 131 "NoonWellsModel" "letters" "I", .fieldLink RX4 19 "NoonWellsModel" "text" "[I", .methodLink RX4 32 yX4_in, .static yX4_in, .initialized RX4, .code yX4_in cX4_in 3 (some .boolean)] ++ wsX40)
def wsX4_clearText : List Cond := .code yX4_clearText cX4_clearText 2 (some .int) :: ([.fieldLink RX4 131 "NoonWellsModel" "letters" "I"] ++ wsX40)
def wsX4_here : List Cond := .code yX4_here cX4_here 1 (some .int) :: ([.fieldLink RX4 134 "NoonWellsModel" "readAt" "I", .fieldLink RX4 131 "NoonWellsModel" "letters" "I", .fieldLink RX4 19 "NoonWellsModel" "text" "[I"] ++ wsX40)
def wsX4_reads : List Cond := .code yX4_reads cX4_reads 4 (some .boolean) :: ([.fieldLink RX4 22 "NoonWellsModel" "numbers" "[I", .fieldLink RX4 134 "NoonWellsModel" "readAt" "I", .methodLink RX4 137 yX4_here, .instanceMethod yX4_here, .selects RX4 yX4_here yX4_here, .initialized RX4, .code yX4_here cX4_here 1 (some .int), .fieldLink RX4 131 "NoonWellsModel" "letters" "I", .fieldLink RX4 19 "NoonWellsModel" "text" "[I", .methodLink RX4 32 yX4_in, .static yX4_in, .code yX4_in cX4_in 3 (some .boolean)] ++ wsX40)
def wsX4_does_r1 : List Cond := [Cond.fieldLink RX4 22 "NoonWellsModel" "numbers" "[I", Cond.fieldLink RX4 7 "NoonWellsModel" "now" "[I", Cond.methodLink RX4 86 yX4_draws, Cond.instanceMethod yX4_draws, Cond.selects RX4 yX4_draws yX4_draws, Cond.initialized RX4, Cond.code yX4_draws cX4_draws 3 (some .int), Cond.methodLink RX4 40 yX4_isWell, Cond.instanceMethod yX4_isWell, Cond.selects RX4 yX4_isWell yX4_isWell, Cond.code yX4_isWell cX4_isWell 2 (some .boolean), Cond.methodLink RX4 32 yX4_in, Cond.static yX4_in, Cond.code yX4_in cX4_in 3 (some .boolean), Cond.methodLink RX4 77 yX4_isDraw, Cond.static yX4_isDraw, Cond.code yX4_isDraw cX4_isDraw 1 (some .boolean), Cond.methodLink RX4 80 yX4_ableOf, Cond.instanceMethod yX4_ableOf, Cond.selects RX4 yX4_ableOf yX4_ableOf, Cond.code yX4_ableOf cX4_ableOf 4 (some .int), Cond.methodLink RX4 36 yX4_of, Cond.instanceMethod yX4_of, Cond.selects RX4 yX4_of yX4_of]
def wsX4_does_r2 : List Cond := [Cond.code yX4_of cX4_of 3 (some .int), Cond.methodLink RX4 71 yX4_least, Cond.static yX4_least, Cond.code yX4_least cX4_least 2 (some .int), Cond.methodLink RX4 83 yX4_takes, Cond.instanceMethod yX4_takes, Cond.selects RX4 yX4_takes yX4_takes, Cond.code yX4_takes cX4_takes 7 (some .int), Cond.methodLink RX4 74 yX4_part, Cond.instanceMethod yX4_part, Cond.selects RX4 yX4_part yX4_part, Cond.code yX4_part cX4_part 4 (some .int), Cond.methodLink RX4 44 yX4_adds, Cond.instanceMethod yX4_adds, Cond.selects RX4 yX4_adds yX4_adds, Cond.code yX4_adds cX4_adds 4 none, Cond.methodLink RX4 89 yX4_requests, Cond.instanceMethod yX4_requests, Cond.selects RX4 yX4_requests yX4_requests, Cond.code yX4_requests cX4_requests 4 (some .int), Cond.methodLink RX4 122 yX4_passes, Cond.instanceMethod yX4_passes, Cond.selects RX4 yX4_passes yX4_passes, Cond.code yX4_passes cX4_passes 4 (some .int)]
def wsX4_does_r3 : List Cond := [Cond.constant RX4 118 (50000), Cond.methodLink RX4 119 yX4_ticks, Cond.instanceMethod yX4_ticks, Cond.selects RX4 yX4_ticks yX4_ticks, Cond.code yX4_ticks cX4_ticks 2 none, Cond.methodLink RX4 105 yX4_flows, Cond.instanceMethod yX4_flows, Cond.selects RX4 yX4_flows yX4_flows, Cond.code yX4_flows cX4_flows 4 none, Cond.methodLink RX4 67 yX4_isDry, Cond.instanceMethod yX4_isDry, Cond.selects RX4 yX4_isDry yX4_isDry, Cond.code yX4_isDry cX4_isDry 6 (some .boolean), Cond.methodLink RX4 99 yX4_room, Cond.instanceMethod yX4_room, Cond.selects RX4 yX4_room yX4_room, Cond.code yX4_room cX4_room 2 (some .int), Cond.methodLink RX4 108 yX4_lends, Cond.instanceMethod yX4_lends, Cond.selects RX4 yX4_lends yX4_lends, Cond.code yX4_lends cX4_lends 5 (some .int), Cond.methodLink RX4 102 yX4_half, Cond.instanceMethod yX4_half, Cond.selects RX4 yX4_half yX4_half]
def wsX4_does_r4 : List Cond := [Cond.code yX4_half cX4_half 2 (some .int), Cond.methodLink RX4 112 yX4_paysBack, Cond.instanceMethod yX4_paysBack, Cond.selects RX4 yX4_paysBack yX4_paysBack, Cond.code yX4_paysBack cX4_paysBack 4 none, Cond.methodLink RX4 115 yX4_looks, Cond.instanceMethod yX4_looks, Cond.selects RX4 yX4_looks yX4_looks, Cond.code yX4_looks cX4_looks 5 none, Cond.methodLink RX4 95 yX4_leaves, Cond.instanceMethod yX4_leaves, Cond.selects RX4 yX4_leaves yX4_leaves, Cond.code yX4_leaves cX4_leaves 3 none, Cond.methodLink RX4 60 yX4_addsDrought, Cond.instanceMethod yX4_addsDrought, Cond.selects RX4 yX4_addsDrought yX4_addsDrought, Cond.code yX4_addsDrought cX4_addsDrought 5 (some .int), Cond.constant RX4 59 (60000)]
def wsX4_does : List Cond := .code yX4_does cX4_does 2 (some .int) :: ((wsX4_does_r1 ++ (wsX4_does_r2 ++ (wsX4_does_r3 ++ wsX4_does_r4))) ++ wsX40)
def wsX4_order_r1 : List Cond := [Cond.fieldLink RX4 134 "NoonWellsModel" "readAt" "I", Cond.fieldLink RX4 143 "NoonWellsModel" "reason" "I", Cond.methodLink RX4 137 yX4_here, Cond.instanceMethod yX4_here, Cond.selects RX4 yX4_here yX4_here, Cond.initialized RX4, Cond.code yX4_here cX4_here 1 (some .int), Cond.fieldLink RX4 131 "NoonWellsModel" "letters" "I", Cond.fieldLink RX4 19 "NoonWellsModel" "text" "[I", Cond.methodLink RX4 140 yX4_reads, Cond.instanceMethod yX4_reads, Cond.selects RX4 yX4_reads yX4_reads, Cond.code yX4_reads cX4_reads 4 (some .boolean), Cond.fieldLink RX4 22 "NoonWellsModel" "numbers" "[I", Cond.methodLink RX4 32 yX4_in, Cond.static yX4_in, Cond.code yX4_in cX4_in 3 (some .boolean), Cond.methodLink RX4 146 yX4_does, Cond.instanceMethod yX4_does, Cond.selects RX4 yX4_does yX4_does, Cond.code yX4_does cX4_does 2 (some .int), Cond.fieldLink RX4 7 "NoonWellsModel" "now" "[I", Cond.methodLink RX4 86 yX4_draws, Cond.instanceMethod yX4_draws]
def wsX4_order_r2 : List Cond := [Cond.selects RX4 yX4_draws yX4_draws, Cond.code yX4_draws cX4_draws 3 (some .int), Cond.methodLink RX4 40 yX4_isWell, Cond.instanceMethod yX4_isWell, Cond.selects RX4 yX4_isWell yX4_isWell, Cond.code yX4_isWell cX4_isWell 2 (some .boolean), Cond.methodLink RX4 77 yX4_isDraw, Cond.static yX4_isDraw, Cond.code yX4_isDraw cX4_isDraw 1 (some .boolean), Cond.methodLink RX4 80 yX4_ableOf, Cond.instanceMethod yX4_ableOf, Cond.selects RX4 yX4_ableOf yX4_ableOf, Cond.code yX4_ableOf cX4_ableOf 4 (some .int), Cond.methodLink RX4 36 yX4_of, Cond.instanceMethod yX4_of, Cond.selects RX4 yX4_of yX4_of, Cond.code yX4_of cX4_of 3 (some .int), Cond.methodLink RX4 71 yX4_least, Cond.static yX4_least, Cond.code yX4_least cX4_least 2 (some .int), Cond.methodLink RX4 83 yX4_takes, Cond.instanceMethod yX4_takes, Cond.selects RX4 yX4_takes yX4_takes, Cond.code yX4_takes cX4_takes 7 (some .int)]
def wsX4_order_r3 : List Cond := [Cond.methodLink RX4 74 yX4_part, Cond.instanceMethod yX4_part, Cond.selects RX4 yX4_part yX4_part, Cond.code yX4_part cX4_part 4 (some .int), Cond.methodLink RX4 44 yX4_adds, Cond.instanceMethod yX4_adds, Cond.selects RX4 yX4_adds yX4_adds, Cond.code yX4_adds cX4_adds 4 none, Cond.methodLink RX4 89 yX4_requests, Cond.instanceMethod yX4_requests, Cond.selects RX4 yX4_requests yX4_requests, Cond.code yX4_requests cX4_requests 4 (some .int), Cond.methodLink RX4 122 yX4_passes, Cond.instanceMethod yX4_passes, Cond.selects RX4 yX4_passes yX4_passes, Cond.code yX4_passes cX4_passes 4 (some .int), Cond.constant RX4 118 (50000), Cond.methodLink RX4 119 yX4_ticks, Cond.instanceMethod yX4_ticks, Cond.selects RX4 yX4_ticks yX4_ticks, Cond.code yX4_ticks cX4_ticks 2 none, Cond.methodLink RX4 105 yX4_flows, Cond.instanceMethod yX4_flows, Cond.selects RX4 yX4_flows yX4_flows]
def wsX4_order_r4 : List Cond := [Cond.code yX4_flows cX4_flows 4 none, Cond.methodLink RX4 67 yX4_isDry, Cond.instanceMethod yX4_isDry, Cond.selects RX4 yX4_isDry yX4_isDry, Cond.code yX4_isDry cX4_isDry 6 (some .boolean), Cond.methodLink RX4 99 yX4_room, Cond.instanceMethod yX4_room, Cond.selects RX4 yX4_room yX4_room, Cond.code yX4_room cX4_room 2 (some .int), Cond.methodLink RX4 108 yX4_lends, Cond.instanceMethod yX4_lends, Cond.selects RX4 yX4_lends yX4_lends, Cond.code yX4_lends cX4_lends 5 (some .int), Cond.methodLink RX4 102 yX4_half, Cond.instanceMethod yX4_half, Cond.selects RX4 yX4_half yX4_half, Cond.code yX4_half cX4_half 2 (some .int), Cond.methodLink RX4 112 yX4_paysBack, Cond.instanceMethod yX4_paysBack, Cond.selects RX4 yX4_paysBack yX4_paysBack, Cond.code yX4_paysBack cX4_paysBack 4 none, Cond.methodLink RX4 115 yX4_looks, Cond.instanceMethod yX4_looks, Cond.selects RX4 yX4_looks yX4_looks]
def wsX4_order_r5 : List Cond := [Cond.code yX4_looks cX4_looks 5 none, Cond.methodLink RX4 95 yX4_leaves, Cond.instanceMethod yX4_leaves, Cond.selects RX4 yX4_leaves yX4_leaves, Cond.code yX4_leaves cX4_leaves 3 none, Cond.methodLink RX4 60 yX4_addsDrought, Cond.instanceMethod yX4_addsDrought, Cond.selects RX4 yX4_addsDrought yX4_addsDrought, Cond.code yX4_addsDrought cX4_addsDrought 5 (some .int), Cond.constant RX4 59 (60000)]
def wsX4_order : List Cond := .code yX4_order cX4_order 4 none :: ((wsX4_order_r1 ++ (wsX4_order_r2 ++ (wsX4_order_r3 ++ (wsX4_order_r4 ++ wsX4_order_r5)))) ++ wsX40)
def wsX4_tries_r1 : List Cond := [Cond.fieldLink RX4 134 "NoonWellsModel" "readAt" "I", Cond.fieldLink RX4 149 "NoonWellsModel" "orders" "I", Cond.fieldLink RX4 143 "NoonWellsModel" "reason" "I", Cond.fieldLink RX4 131 "NoonWellsModel" "letters" "I", Cond.fieldLink RX4 152 "NoonWellsModel" "faultAt" "I", Cond.methodLink RX4 155 yX4_order, Cond.instanceMethod yX4_order, Cond.selects RX4 yX4_order yX4_order, Cond.initialized RX4, Cond.code yX4_order cX4_order 4 none, Cond.methodLink RX4 137 yX4_here, Cond.instanceMethod yX4_here, Cond.selects RX4 yX4_here yX4_here, Cond.code yX4_here cX4_here 1 (some .int), Cond.fieldLink RX4 19 "NoonWellsModel" "text" "[I", Cond.methodLink RX4 140 yX4_reads, Cond.instanceMethod yX4_reads, Cond.selects RX4 yX4_reads yX4_reads, Cond.code yX4_reads cX4_reads 4 (some .boolean), Cond.fieldLink RX4 22 "NoonWellsModel" "numbers" "[I", Cond.methodLink RX4 32 yX4_in, Cond.static yX4_in, Cond.code yX4_in cX4_in 3 (some .boolean), Cond.methodLink RX4 146 yX4_does]
def wsX4_tries_r2 : List Cond := [Cond.instanceMethod yX4_does, Cond.selects RX4 yX4_does yX4_does, Cond.code yX4_does cX4_does 2 (some .int), Cond.fieldLink RX4 7 "NoonWellsModel" "now" "[I", Cond.methodLink RX4 86 yX4_draws, Cond.instanceMethod yX4_draws, Cond.selects RX4 yX4_draws yX4_draws, Cond.code yX4_draws cX4_draws 3 (some .int), Cond.methodLink RX4 40 yX4_isWell, Cond.instanceMethod yX4_isWell, Cond.selects RX4 yX4_isWell yX4_isWell, Cond.code yX4_isWell cX4_isWell 2 (some .boolean), Cond.methodLink RX4 77 yX4_isDraw, Cond.static yX4_isDraw, Cond.code yX4_isDraw cX4_isDraw 1 (some .boolean), Cond.methodLink RX4 80 yX4_ableOf, Cond.instanceMethod yX4_ableOf, Cond.selects RX4 yX4_ableOf yX4_ableOf, Cond.code yX4_ableOf cX4_ableOf 4 (some .int), Cond.methodLink RX4 36 yX4_of, Cond.instanceMethod yX4_of, Cond.selects RX4 yX4_of yX4_of, Cond.code yX4_of cX4_of 3 (some .int), Cond.methodLink RX4 71 yX4_least]
def wsX4_tries_r3 : List Cond := [Cond.static yX4_least, Cond.code yX4_least cX4_least 2 (some .int), Cond.methodLink RX4 83 yX4_takes, Cond.instanceMethod yX4_takes, Cond.selects RX4 yX4_takes yX4_takes, Cond.code yX4_takes cX4_takes 7 (some .int), Cond.methodLink RX4 74 yX4_part, Cond.instanceMethod yX4_part, Cond.selects RX4 yX4_part yX4_part, Cond.code yX4_part cX4_part 4 (some .int), Cond.methodLink RX4 44 yX4_adds, Cond.instanceMethod yX4_adds, Cond.selects RX4 yX4_adds yX4_adds, Cond.code yX4_adds cX4_adds 4 none, Cond.methodLink RX4 89 yX4_requests, Cond.instanceMethod yX4_requests, Cond.selects RX4 yX4_requests yX4_requests, Cond.code yX4_requests cX4_requests 4 (some .int), Cond.methodLink RX4 122 yX4_passes, Cond.instanceMethod yX4_passes, Cond.selects RX4 yX4_passes yX4_passes, Cond.code yX4_passes cX4_passes 4 (some .int), Cond.constant RX4 118 (50000), Cond.methodLink RX4 119 yX4_ticks]
def wsX4_tries_r4 : List Cond := [Cond.instanceMethod yX4_ticks, Cond.selects RX4 yX4_ticks yX4_ticks, Cond.code yX4_ticks cX4_ticks 2 none, Cond.methodLink RX4 105 yX4_flows, Cond.instanceMethod yX4_flows, Cond.selects RX4 yX4_flows yX4_flows, Cond.code yX4_flows cX4_flows 4 none, Cond.methodLink RX4 67 yX4_isDry, Cond.instanceMethod yX4_isDry, Cond.selects RX4 yX4_isDry yX4_isDry, Cond.code yX4_isDry cX4_isDry 6 (some .boolean), Cond.methodLink RX4 99 yX4_room, Cond.instanceMethod yX4_room, Cond.selects RX4 yX4_room yX4_room, Cond.code yX4_room cX4_room 2 (some .int), Cond.methodLink RX4 108 yX4_lends, Cond.instanceMethod yX4_lends, Cond.selects RX4 yX4_lends yX4_lends, Cond.code yX4_lends cX4_lends 5 (some .int), Cond.methodLink RX4 102 yX4_half, Cond.instanceMethod yX4_half, Cond.selects RX4 yX4_half yX4_half, Cond.code yX4_half cX4_half 2 (some .int), Cond.methodLink RX4 112 yX4_paysBack]
def wsX4_tries_r5 : List Cond := [Cond.instanceMethod yX4_paysBack, Cond.selects RX4 yX4_paysBack yX4_paysBack, Cond.code yX4_paysBack cX4_paysBack 4 none, Cond.methodLink RX4 115 yX4_looks, Cond.instanceMethod yX4_looks, Cond.selects RX4 yX4_looks yX4_looks, Cond.code yX4_looks cX4_looks 5 none, Cond.methodLink RX4 95 yX4_leaves, Cond.instanceMethod yX4_leaves, Cond.selects RX4 yX4_leaves yX4_leaves, Cond.code yX4_leaves cX4_leaves 3 none, Cond.methodLink RX4 60 yX4_addsDrought, Cond.instanceMethod yX4_addsDrought, Cond.selects RX4 yX4_addsDrought yX4_addsDrought, Cond.code yX4_addsDrought cX4_addsDrought 5 (some .int), Cond.constant RX4 59 (60000)]
def wsX4_tries : List Cond := .code yX4_tries cX4_tries 1 none :: ((wsX4_tries_r1 ++ (wsX4_tries_r2 ++ (wsX4_tries_r3 ++ (wsX4_tries_r4 ++ wsX4_tries_r5)))) ++ wsX40)
def wsX4_fault_r1 : List Cond := [Cond.fieldLink RX4 143 "NoonWellsModel" "reason" "I", Cond.fieldLink RX4 152 "NoonWellsModel" "faultAt" "I", Cond.methodLink RX4 32 yX4_in, Cond.static yX4_in, Cond.initialized RX4, Cond.code yX4_in cX4_in 3 (some .boolean), Cond.methodLink RX4 48 yX4_copy, Cond.instanceMethod yX4_copy, Cond.selects RX4 yX4_copy yX4_copy, Cond.code yX4_copy cX4_copy 2 none, Cond.fieldLink RX4 13 "NoonWellsModel" "before" "[I", Cond.fieldLink RX4 7 "NoonWellsModel" "now" "[I", Cond.methodLink RX4 158 yX4_tries, Cond.instanceMethod yX4_tries, Cond.selects RX4 yX4_tries yX4_tries, Cond.code yX4_tries cX4_tries 1 none, Cond.fieldLink RX4 134 "NoonWellsModel" "readAt" "I", Cond.fieldLink RX4 149 "NoonWellsModel" "orders" "I", Cond.fieldLink RX4 131 "NoonWellsModel" "letters" "I", Cond.methodLink RX4 155 yX4_order, Cond.instanceMethod yX4_order, Cond.selects RX4 yX4_order yX4_order, Cond.code yX4_order cX4_order 4 none, Cond.methodLink RX4 137 yX4_here]
def wsX4_fault_r2 : List Cond := [Cond.instanceMethod yX4_here, Cond.selects RX4 yX4_here yX4_here, Cond.code yX4_here cX4_here 1 (some .int), Cond.fieldLink RX4 19 "NoonWellsModel" "text" "[I", Cond.methodLink RX4 140 yX4_reads, Cond.instanceMethod yX4_reads, Cond.selects RX4 yX4_reads yX4_reads, Cond.code yX4_reads cX4_reads 4 (some .boolean), Cond.fieldLink RX4 22 "NoonWellsModel" "numbers" "[I", Cond.methodLink RX4 146 yX4_does, Cond.instanceMethod yX4_does, Cond.selects RX4 yX4_does yX4_does, Cond.code yX4_does cX4_does 2 (some .int), Cond.methodLink RX4 86 yX4_draws, Cond.instanceMethod yX4_draws, Cond.selects RX4 yX4_draws yX4_draws, Cond.code yX4_draws cX4_draws 3 (some .int), Cond.methodLink RX4 40 yX4_isWell, Cond.instanceMethod yX4_isWell, Cond.selects RX4 yX4_isWell yX4_isWell, Cond.code yX4_isWell cX4_isWell 2 (some .boolean), Cond.methodLink RX4 77 yX4_isDraw, Cond.static yX4_isDraw, Cond.code yX4_isDraw cX4_isDraw 1 (some .boolean)]
def wsX4_fault_r3 : List Cond := [Cond.methodLink RX4 80 yX4_ableOf, Cond.instanceMethod yX4_ableOf, Cond.selects RX4 yX4_ableOf yX4_ableOf, Cond.code yX4_ableOf cX4_ableOf 4 (some .int), Cond.methodLink RX4 36 yX4_of, Cond.instanceMethod yX4_of, Cond.selects RX4 yX4_of yX4_of, Cond.code yX4_of cX4_of 3 (some .int), Cond.methodLink RX4 71 yX4_least, Cond.static yX4_least, Cond.code yX4_least cX4_least 2 (some .int), Cond.methodLink RX4 83 yX4_takes, Cond.instanceMethod yX4_takes, Cond.selects RX4 yX4_takes yX4_takes, Cond.code yX4_takes cX4_takes 7 (some .int), Cond.methodLink RX4 74 yX4_part, Cond.instanceMethod yX4_part, Cond.selects RX4 yX4_part yX4_part, Cond.code yX4_part cX4_part 4 (some .int), Cond.methodLink RX4 44 yX4_adds, Cond.instanceMethod yX4_adds, Cond.selects RX4 yX4_adds yX4_adds, Cond.code yX4_adds cX4_adds 4 none, Cond.methodLink RX4 89 yX4_requests]
def wsX4_fault_r4 : List Cond := [Cond.instanceMethod yX4_requests, Cond.selects RX4 yX4_requests yX4_requests, Cond.code yX4_requests cX4_requests 4 (some .int), Cond.methodLink RX4 122 yX4_passes, Cond.instanceMethod yX4_passes, Cond.selects RX4 yX4_passes yX4_passes, Cond.code yX4_passes cX4_passes 4 (some .int), Cond.constant RX4 118 (50000), Cond.methodLink RX4 119 yX4_ticks, Cond.instanceMethod yX4_ticks, Cond.selects RX4 yX4_ticks yX4_ticks, Cond.code yX4_ticks cX4_ticks 2 none, Cond.methodLink RX4 105 yX4_flows, Cond.instanceMethod yX4_flows, Cond.selects RX4 yX4_flows yX4_flows, Cond.code yX4_flows cX4_flows 4 none, Cond.methodLink RX4 67 yX4_isDry, Cond.instanceMethod yX4_isDry, Cond.selects RX4 yX4_isDry yX4_isDry, Cond.code yX4_isDry cX4_isDry 6 (some .boolean), Cond.methodLink RX4 99 yX4_room, Cond.instanceMethod yX4_room, Cond.selects RX4 yX4_room yX4_room, Cond.code yX4_room cX4_room 2 (some .int)]
def wsX4_fault_r5 : List Cond := [Cond.methodLink RX4 108 yX4_lends, Cond.instanceMethod yX4_lends, Cond.selects RX4 yX4_lends yX4_lends, Cond.code yX4_lends cX4_lends 5 (some .int), Cond.methodLink RX4 102 yX4_half, Cond.instanceMethod yX4_half, Cond.selects RX4 yX4_half yX4_half, Cond.code yX4_half cX4_half 2 (some .int), Cond.methodLink RX4 112 yX4_paysBack, Cond.instanceMethod yX4_paysBack, Cond.selects RX4 yX4_paysBack yX4_paysBack, Cond.code yX4_paysBack cX4_paysBack 4 none, Cond.methodLink RX4 115 yX4_looks, Cond.instanceMethod yX4_looks, Cond.selects RX4 yX4_looks yX4_looks, Cond.code yX4_looks cX4_looks 5 none, Cond.methodLink RX4 95 yX4_leaves, Cond.instanceMethod yX4_leaves, Cond.selects RX4 yX4_leaves yX4_leaves, Cond.code yX4_leaves cX4_leaves 3 none, Cond.methodLink RX4 60 yX4_addsDrought, Cond.instanceMethod yX4_addsDrought, Cond.selects RX4 yX4_addsDrought yX4_addsDrought, Cond.code yX4_addsDrought cX4_addsDrought 5 (some .int)]
def wsX4_fault_r6 : List Cond := [Cond.constant RX4 59 (60000), Cond.methodLink RX4 125 yX4_back, Cond.instanceMethod yX4_back, Cond.selects RX4 yX4_back yX4_back, Cond.code yX4_back cX4_back 2 none]
def wsX4_fault : List Cond := .code yX4_fault cX4_fault 2 (some .int) :: ((wsX4_fault_r1 ++ (wsX4_fault_r2 ++ (wsX4_fault_r3 ++ (wsX4_fault_r4 ++ (wsX4_fault_r5 ++ wsX4_fault_r6))))) ++ wsX40)
def wsX4_play_r1 : List Cond := [Cond.fieldLink RX4 143 "NoonWellsModel" "reason" "I", Cond.fieldLink RX4 149 "NoonWellsModel" "orders" "I", Cond.methodLink RX4 48 yX4_copy, Cond.instanceMethod yX4_copy, Cond.selects RX4 yX4_copy yX4_copy, Cond.initialized RX4, Cond.code yX4_copy cX4_copy 2 none, Cond.fieldLink RX4 13 "NoonWellsModel" "before" "[I", Cond.fieldLink RX4 7 "NoonWellsModel" "now" "[I", Cond.methodLink RX4 158 yX4_tries, Cond.instanceMethod yX4_tries, Cond.selects RX4 yX4_tries yX4_tries, Cond.code yX4_tries cX4_tries 1 none, Cond.fieldLink RX4 134 "NoonWellsModel" "readAt" "I", Cond.fieldLink RX4 131 "NoonWellsModel" "letters" "I", Cond.fieldLink RX4 152 "NoonWellsModel" "faultAt" "I", Cond.methodLink RX4 155 yX4_order, Cond.instanceMethod yX4_order, Cond.selects RX4 yX4_order yX4_order, Cond.code yX4_order cX4_order 4 none, Cond.methodLink RX4 137 yX4_here, Cond.instanceMethod yX4_here, Cond.selects RX4 yX4_here yX4_here, Cond.code yX4_here cX4_here 1 (some .int)]
def wsX4_play_r2 : List Cond := [Cond.fieldLink RX4 19 "NoonWellsModel" "text" "[I", Cond.methodLink RX4 140 yX4_reads, Cond.instanceMethod yX4_reads, Cond.selects RX4 yX4_reads yX4_reads, Cond.code yX4_reads cX4_reads 4 (some .boolean), Cond.fieldLink RX4 22 "NoonWellsModel" "numbers" "[I", Cond.methodLink RX4 32 yX4_in, Cond.static yX4_in, Cond.code yX4_in cX4_in 3 (some .boolean), Cond.methodLink RX4 146 yX4_does, Cond.instanceMethod yX4_does, Cond.selects RX4 yX4_does yX4_does, Cond.code yX4_does cX4_does 2 (some .int), Cond.methodLink RX4 86 yX4_draws, Cond.instanceMethod yX4_draws, Cond.selects RX4 yX4_draws yX4_draws, Cond.code yX4_draws cX4_draws 3 (some .int), Cond.methodLink RX4 40 yX4_isWell, Cond.instanceMethod yX4_isWell, Cond.selects RX4 yX4_isWell yX4_isWell, Cond.code yX4_isWell cX4_isWell 2 (some .boolean), Cond.methodLink RX4 77 yX4_isDraw, Cond.static yX4_isDraw, Cond.code yX4_isDraw cX4_isDraw 1 (some .boolean)]
def wsX4_play_r3 : List Cond := [Cond.methodLink RX4 80 yX4_ableOf, Cond.instanceMethod yX4_ableOf, Cond.selects RX4 yX4_ableOf yX4_ableOf, Cond.code yX4_ableOf cX4_ableOf 4 (some .int), Cond.methodLink RX4 36 yX4_of, Cond.instanceMethod yX4_of, Cond.selects RX4 yX4_of yX4_of, Cond.code yX4_of cX4_of 3 (some .int), Cond.methodLink RX4 71 yX4_least, Cond.static yX4_least, Cond.code yX4_least cX4_least 2 (some .int), Cond.methodLink RX4 83 yX4_takes, Cond.instanceMethod yX4_takes, Cond.selects RX4 yX4_takes yX4_takes, Cond.code yX4_takes cX4_takes 7 (some .int), Cond.methodLink RX4 74 yX4_part, Cond.instanceMethod yX4_part, Cond.selects RX4 yX4_part yX4_part, Cond.code yX4_part cX4_part 4 (some .int), Cond.methodLink RX4 44 yX4_adds, Cond.instanceMethod yX4_adds, Cond.selects RX4 yX4_adds yX4_adds, Cond.code yX4_adds cX4_adds 4 none, Cond.methodLink RX4 89 yX4_requests]
def wsX4_play_r4 : List Cond := [Cond.instanceMethod yX4_requests, Cond.selects RX4 yX4_requests yX4_requests, Cond.code yX4_requests cX4_requests 4 (some .int), Cond.methodLink RX4 122 yX4_passes, Cond.instanceMethod yX4_passes, Cond.selects RX4 yX4_passes yX4_passes, Cond.code yX4_passes cX4_passes 4 (some .int), Cond.constant RX4 118 (50000), Cond.methodLink RX4 119 yX4_ticks, Cond.instanceMethod yX4_ticks, Cond.selects RX4 yX4_ticks yX4_ticks, Cond.code yX4_ticks cX4_ticks 2 none, Cond.methodLink RX4 105 yX4_flows, Cond.instanceMethod yX4_flows, Cond.selects RX4 yX4_flows yX4_flows, Cond.code yX4_flows cX4_flows 4 none, Cond.methodLink RX4 67 yX4_isDry, Cond.instanceMethod yX4_isDry, Cond.selects RX4 yX4_isDry yX4_isDry, Cond.code yX4_isDry cX4_isDry 6 (some .boolean), Cond.methodLink RX4 99 yX4_room, Cond.instanceMethod yX4_room, Cond.selects RX4 yX4_room yX4_room, Cond.code yX4_room cX4_room 2 (some .int)]
def wsX4_play_r5 : List Cond := [Cond.methodLink RX4 108 yX4_lends, Cond.instanceMethod yX4_lends, Cond.selects RX4 yX4_lends yX4_lends, Cond.code yX4_lends cX4_lends 5 (some .int), Cond.methodLink RX4 102 yX4_half, Cond.instanceMethod yX4_half, Cond.selects RX4 yX4_half yX4_half, Cond.code yX4_half cX4_half 2 (some .int), Cond.methodLink RX4 112 yX4_paysBack, Cond.instanceMethod yX4_paysBack, Cond.selects RX4 yX4_paysBack yX4_paysBack, Cond.code yX4_paysBack cX4_paysBack 4 none, Cond.methodLink RX4 115 yX4_looks, Cond.instanceMethod yX4_looks, Cond.selects RX4 yX4_looks yX4_looks, Cond.code yX4_looks cX4_looks 5 none, Cond.methodLink RX4 95 yX4_leaves, Cond.instanceMethod yX4_leaves, Cond.selects RX4 yX4_leaves yX4_leaves, Cond.code yX4_leaves cX4_leaves 3 none, Cond.methodLink RX4 60 yX4_addsDrought, Cond.instanceMethod yX4_addsDrought, Cond.selects RX4 yX4_addsDrought yX4_addsDrought, Cond.code yX4_addsDrought cX4_addsDrought 5 (some .int)]
def wsX4_play_r6 : List Cond := [Cond.constant RX4 59 (60000), Cond.methodLink RX4 125 yX4_back, Cond.instanceMethod yX4_back, Cond.selects RX4 yX4_back yX4_back, Cond.code yX4_back cX4_back 2 none, Cond.methodLink RX4 55 yX4_recorded, Cond.instanceMethod yX4_recorded, Cond.selects RX4 yX4_recorded yX4_recorded, Cond.code yX4_recorded cX4_recorded 3 (some .int), Cond.fieldLink RX4 16 "NoonWellsModel" "states" "[I", Cond.fieldLink RX4 25 "NoonWellsModel" "stateAt" "I", Cond.fieldLink RX4 29 "NoonWellsModel" "stateMany" "I"]
def wsX4_play : List Cond := .code yX4_play cX4_play 1 (some .int) :: ((wsX4_play_r1 ++ (wsX4_play_r2 ++ (wsX4_play_r3 ++ (wsX4_play_r4 ++ (wsX4_play_r5 ++ wsX4_play_r6))))) ++ wsX40)
def wsJ9_min_7cf53 : List Cond := .code yJ9_min_7cf53 cJ9_min_7cf53 2 (some .int) :: ([])
def wsL_law_r1 : List Cond := [Cond.classLink RL 7 RX3, Cond.instantiable RX3 4, Cond.initialized RX3, Cond.classLink RL 10 RX4, Cond.instantiable RX4 12, Cond.initialized RX4, Cond.methodLink RL 9 yX3_init, Cond.instanceMethod yX3_init, Cond.code yX3_init cX3_init 1 none, Cond.methodLink RX3 3 objectInit, Cond.instanceMethod objectInit, Cond.code objectInit ⟨#[0xb1]⟩ 1 none, Cond.classLink RX3 9 RX0, Cond.instantiable RX0 10, Cond.initialized RX0, Cond.fieldLink RX3 12 "NoonWells" "now" "LNoonWells$Field;", Cond.fieldLink RX3 16 "NoonWells" "trial" "LNoonWells$Field;", Cond.classLink RX3 19 RX1, Cond.instantiable RX1 3, Cond.initialized RX1, Cond.fieldLink RX3 22 "NoonWells" "history" "LNoonWells$History;", Cond.classLink RX3 26 RX2, Cond.instantiable RX2 7, Cond.initialized RX2]
def wsL_law_r2 : List Cond := [Cond.fieldLink RX3 29 "NoonWells" "script" "LNoonWells$Script;", Cond.methodLink RX3 11 yX0_init, Cond.instanceMethod yX0_init, Cond.code yX0_init cX0_init 1 none, Cond.methodLink RX0 3 objectInit, Cond.classLink RX0 9 "[[I", Cond.arrayClass .int, Cond.fieldLink RX0 11 "NoonWells$Field" "wells" "[[I", Cond.fieldLink RX0 16 "NoonWells$Field" "droughts" "[[I", Cond.fieldLink RX0 19 "NoonWells$Field" "requests" "[[I", Cond.fieldLink RX0 22 "NoonWells$Field" "settings" "[I", Cond.fieldLink RX0 26 "NoonWells$Field" "shares" "[I", Cond.methodLink RX3 21 yX1_init, Cond.instanceMethod yX1_init, Cond.code yX1_init cX1_init 2 none, Cond.methodLink RX1 3 objectInit, Cond.classLink RX1 11 RX0, Cond.fieldLink RX1 13 "NoonWells$History" "states" "[LNoonWells$Field;", Cond.methodLink RX1 17 yX0_init, Cond.instanceMethod yX2_init, Cond.code yX2_init cX2_init 1 none, Cond.methodLink RX2 3 objectInit, Cond.arrayClass .char, Cond.fieldLink RX2 9 "NoonWells$Script" "signs" "[C"]
def wsL_law_r3 : List Cond := [Cond.fieldLink RX2 15 "NoonWells$Script" "numbers" "[I", Cond.methodLink RL 12 yX4_init, Cond.instanceMethod yX4_init, Cond.code yX4_init cX4_init 1 none, Cond.methodLink RX4 1 objectInit, Cond.fieldLink RX4 7 "NoonWellsModel" "now" "[I", Cond.fieldLink RX4 13 "NoonWellsModel" "before" "[I", Cond.fieldLink RX4 16 "NoonWellsModel" "states" "[I", Cond.fieldLink RX4 19 "NoonWellsModel" "text" "[I", Cond.fieldLink RX4 22 "NoonWellsModel" "numbers" "[I", Cond.methodLink RL 13 yX3_well, Cond.instanceMethod yX3_well, Cond.selects RX3 yX3_well yX3_well, Cond.code yX3_well cX3_well 5 (some .int), Cond.methodLink RX3 33 yX1_note, Cond.instanceMethod yX1_note, Cond.selects RX1 yX1_note yX1_note, Cond.code yX1_note cX1_note 2 none, Cond.fieldLink RX1 18 "NoonWells$History" "oldest" "I", Cond.fieldLink RX1 22 "NoonWells$History" "size" "I", Cond.methodLink RX1 25 yX0_copyFrom, Cond.instanceMethod yX0_copyFrom, Cond.selects RX0 yX0_copyFrom yX0_copyFrom, Cond.code yX0_copyFrom cX0_copyFrom 2 none]
def wsL_law_r4 : List Cond := [Cond.fieldLink RX0 33 "NoonWells$Field" "wellCount" "I", Cond.fieldLink RX0 37 "NoonWells$Field" "droughtCount" "I", Cond.fieldLink RX0 40 "NoonWells$Field" "waiting" "I", Cond.fieldLink RX0 43 "NoonWells$Field" "time" "I", Cond.fieldLink RX0 46 "NoonWells$Field" "drawnBehindWaiting" "I", Cond.methodLink RX0 29 yX0_copyRows, Cond.static yX0_copyRows, Cond.code yX0_copyRows cX0_copyRows 4 none, Cond.methodLink RX0 49 Lib.Math.min.name, Cond.static Lib.Math.min.name, Cond.initialized "java/lang/Math", Cond.code Lib.Math.min.name Lib.Math.min.code 2 (some .int), Cond.methodLink RX0 55 arraycopyName, Cond.native arraycopyName, Cond.static arraycopyName, Cond.initialized "java/lang/System", Cond.methodLink RX3 37 yX0_addWell, Cond.instanceMethod yX0_addWell, Cond.selects RX0 yX0_addWell yX0_addWell, Cond.code yX0_addWell cX0_addWell 6 (some .int), Cond.methodLink RX0 61 yX0_isWell, Cond.instanceMethod yX0_isWell, Cond.selects RX0 yX0_isWell yX0_isWell, Cond.code yX0_isWell cX0_isWell 2 (some .boolean)]
def wsL_law_r5 : List Cond := [Cond.methodLink RX3 41 yX3_keepIfDone, Cond.instanceMethod yX3_keepIfDone, Cond.selects RX3 yX3_keepIfDone yX3_keepIfDone, Cond.code yX3_keepIfDone cX3_keepIfDone 2 (some .int), Cond.methodLink RX3 159 yX1_keep, Cond.instanceMethod yX1_keep, Cond.selects RX1 yX1_keep yX1_keep, Cond.code yX1_keep cX1_keep 1 none, Cond.methodLink RL 17 yX4_well, Cond.instanceMethod yX4_well, Cond.selects RX4 yX4_well yX4_well, Cond.code yX4_well cX4_well 5 (some .int), Cond.methodLink RX4 48 yX4_copy, Cond.instanceMethod yX4_copy, Cond.selects RX4 yX4_copy yX4_copy, Cond.code yX4_copy cX4_copy 2 none, Cond.methodLink RX4 51 yX4_addsWell, Cond.instanceMethod yX4_addsWell, Cond.selects RX4 yX4_addsWell yX4_addsWell, Cond.code yX4_addsWell cX4_addsWell 7 (some .int), Cond.methodLink RX4 40 yX4_isWell, Cond.instanceMethod yX4_isWell, Cond.selects RX4 yX4_isWell yX4_isWell, Cond.code yX4_isWell cX4_isWell 2 (some .boolean)]
def wsL_law_r6 : List Cond := [Cond.methodLink RX4 32 yX4_in, Cond.static yX4_in, Cond.code yX4_in cX4_in 3 (some .boolean), Cond.methodLink RX4 44 yX4_adds, Cond.instanceMethod yX4_adds, Cond.selects RX4 yX4_adds yX4_adds, Cond.code yX4_adds cX4_adds 4 none, Cond.methodLink RX4 55 yX4_recorded, Cond.instanceMethod yX4_recorded, Cond.selects RX4 yX4_recorded yX4_recorded, Cond.code yX4_recorded cX4_recorded 3 (some .int), Cond.fieldLink RX4 25 "NoonWellsModel" "stateAt" "I", Cond.fieldLink RX4 29 "NoonWellsModel" "stateMany" "I", Cond.methodLink RL 18 yX3_drought, Cond.instanceMethod yX3_drought, Cond.selects RX3 yX3_drought yX3_drought, Cond.code yX3_drought cX3_drought 4 (some .int), Cond.methodLink RX3 45 yX0_addDrought, Cond.instanceMethod yX0_addDrought, Cond.selects RX0 yX0_addDrought yX0_addDrought, Cond.code yX0_addDrought cX0_addDrought 4 (some .int), Cond.constant RX0 65 (60000), Cond.methodLink RL 22 yX4_drought, Cond.instanceMethod yX4_drought]
def wsL_law_r7 : List Cond := [Cond.selects RX4 yX4_drought yX4_drought, Cond.code yX4_drought cX4_drought 4 (some .int), Cond.methodLink RX4 60 yX4_addsDrought, Cond.instanceMethod yX4_addsDrought, Cond.selects RX4 yX4_addsDrought yX4_addsDrought, Cond.code yX4_addsDrought cX4_addsDrought 5 (some .int), Cond.constant RX4 59 (60000), Cond.methodLink RL 23 yX3_droughtOf, Cond.instanceMethod yX3_droughtOf, Cond.selects RX3 yX3_droughtOf yX3_droughtOf, Cond.code yX3_droughtOf cX3_droughtOf 3 (some .int), Cond.methodLink RL 27 yX4_droughtOf, Cond.instanceMethod yX4_droughtOf, Cond.selects RX4 yX4_droughtOf yX4_droughtOf, Cond.code yX4_droughtOf cX4_droughtOf 3 (some .int), Cond.methodLink RL 28 yX3_wellOf, Cond.instanceMethod yX3_wellOf, Cond.selects RX3 yX3_wellOf yX3_wellOf, Cond.code yX3_wellOf cX3_wellOf 3 (some .int), Cond.methodLink RX3 57 yX0_isWell, Cond.methodLink RX3 64 yX0_isDry, Cond.instanceMethod yX0_isDry, Cond.selects RX0 yX0_isDry yX0_isDry, Cond.code yX0_isDry cX0_isDry 3 (some .boolean)]
def wsL_law_r8 : List Cond := [Cond.methodLink RX0 66 yX0_dryWells, Cond.instanceMethod yX0_dryWells, Cond.selects RX0 yX0_dryWells yX0_dryWells, Cond.code yX0_dryWells cX0_dryWells 4 (some .int), Cond.methodLink RL 31 yX4_wellOf, Cond.instanceMethod yX4_wellOf, Cond.selects RX4 yX4_wellOf yX4_wellOf, Cond.code yX4_wellOf cX4_wellOf 3 (some .int), Cond.methodLink RX4 64 yX4_belowMany, Cond.instanceMethod yX4_belowMany, Cond.selects RX4 yX4_belowMany yX4_belowMany, Cond.code yX4_belowMany cX4_belowMany 4 (some .int), Cond.methodLink RX4 36 yX4_of, Cond.instanceMethod yX4_of, Cond.selects RX4 yX4_of yX4_of, Cond.code yX4_of cX4_of 3 (some .int), Cond.methodLink RX4 67 yX4_isDry, Cond.instanceMethod yX4_isDry, Cond.selects RX4 yX4_isDry yX4_isDry, Cond.code yX4_isDry cX4_isDry 6 (some .boolean), Cond.methodLink RL 32 yX3_aboveAt, Cond.instanceMethod yX3_aboveAt, Cond.selects RX3 yX3_aboveAt yX3_aboveAt, Cond.code yX3_aboveAt cX3_aboveAt 4 (some .int)]
def wsL_law_r9 : List Cond := [Cond.methodLink RX3 71 yX0_wellAbove, Cond.instanceMethod yX0_wellAbove, Cond.selects RX0 yX0_wellAbove yX0_wellAbove, Cond.code yX0_wellAbove cX0_wellAbove 6 (some .int), Cond.methodLink RL 35 yX4_aboveAt, Cond.instanceMethod yX4_aboveAt, Cond.selects RX4 yX4_aboveAt yX4_aboveAt, Cond.code yX4_aboveAt cX4_aboveAt 5 (some .int), Cond.methodLink RL 36 yX3_draw, Cond.instanceMethod yX3_draw, Cond.selects RX3 yX3_draw yX3_draw, Cond.code yX3_draw cX3_draw 3 (some .int), Cond.methodLink RX3 75 yX0_takeDraw, Cond.instanceMethod yX0_takeDraw, Cond.selects RX0 yX0_takeDraw yX0_takeDraw, Cond.code yX0_takeDraw cX0_takeDraw 3 (some .int), Cond.static yX3_areBuckets, Cond.code yX3_areBuckets cX3_areBuckets 1 (some .boolean), Cond.methodLink RX0 79 yX0_shareOut, Cond.instanceMethod yX0_shareOut, Cond.selects RX0 yX0_shareOut yX0_shareOut, Cond.code yX0_shareOut cX0_shareOut 8 (some .int), Cond.methodLink RX0 70 yJ7_fill_53178, Cond.static yJ7_fill_53178]
def wsL_law_r10 : List Cond := [Cond.initialized RJ7, Cond.code yJ7_fill_53178 cJ7_fill_53178 4 none, Cond.methodLink RX0 82 yX0_pourShares, Cond.instanceMethod yX0_pourShares, Cond.selects RX0 yX0_pourShares yX0_pourShares, Cond.code yX0_pourShares cX0_pourShares 5 (some .int), Cond.methodLink RL 39 yX4_draw, Cond.instanceMethod yX4_draw, Cond.selects RX4 yX4_draw yX4_draw, Cond.code yX4_draw cX4_draw 3 (some .int), Cond.methodLink RX4 86 yX4_draws, Cond.instanceMethod yX4_draws, Cond.selects RX4 yX4_draws yX4_draws, Cond.code yX4_draws cX4_draws 3 (some .int), Cond.methodLink RX4 77 yX4_isDraw, Cond.static yX4_isDraw, Cond.code yX4_isDraw cX4_isDraw 1 (some .boolean), Cond.methodLink RX4 80 yX4_ableOf, Cond.instanceMethod yX4_ableOf, Cond.selects RX4 yX4_ableOf yX4_ableOf, Cond.code yX4_ableOf cX4_ableOf 4 (some .int), Cond.methodLink RX4 71 yX4_least, Cond.static yX4_least, Cond.code yX4_least cX4_least 2 (some .int)]
def wsL_law_r11 : List Cond := [Cond.methodLink RX4 83 yX4_takes, Cond.instanceMethod yX4_takes, Cond.selects RX4 yX4_takes yX4_takes, Cond.code yX4_takes cX4_takes 7 (some .int), Cond.methodLink RX4 74 yX4_part, Cond.instanceMethod yX4_part, Cond.selects RX4 yX4_part yX4_part, Cond.code yX4_part cX4_part 4 (some .int), Cond.methodLink RL 40 yX3_request, Cond.instanceMethod yX3_request, Cond.selects RX3 yX3_request yX3_request, Cond.code yX3_request cX3_request 3 (some .int), Cond.methodLink RX3 78 yX0_takeRequest, Cond.instanceMethod yX0_takeRequest, Cond.selects RX0 yX0_takeRequest yX0_takeRequest, Cond.code yX0_takeRequest cX0_takeRequest 3 (some .int), Cond.methodLink RL 43 yX4_request, Cond.instanceMethod yX4_request, Cond.selects RX4 yX4_request yX4_request, Cond.code yX4_request cX4_request 3 (some .int), Cond.methodLink RX4 89 yX4_requests, Cond.instanceMethod yX4_requests, Cond.selects RX4 yX4_requests yX4_requests, Cond.code yX4_requests cX4_requests 4 (some .int)]
def wsL_law_r12 : List Cond := [Cond.methodLink RL 44 yX3_cancel, Cond.instanceMethod yX3_cancel, Cond.selects RX3 yX3_cancel yX3_cancel, Cond.code yX3_cancel cX3_cancel 2 (some .int), Cond.methodLink RX3 81 yX0_dropRequest, Cond.instanceMethod yX0_dropRequest, Cond.selects RX0 yX0_dropRequest yX0_dropRequest, Cond.code yX0_dropRequest cX0_dropRequest 4 (some .int), Cond.methodLink RX0 85 yX0_isPlace, Cond.instanceMethod yX0_isPlace, Cond.selects RX0 yX0_isPlace yX0_isPlace, Cond.code yX0_isPlace cX0_isPlace 2 (some .boolean), Cond.methodLink RX0 88 yX0_moveRequest, Cond.instanceMethod yX0_moveRequest, Cond.selects RX0 yX0_moveRequest yX0_moveRequest, Cond.code yX0_moveRequest cX0_moveRequest 4 none, Cond.methodLink RL 48 yX4_cancel, Cond.instanceMethod yX4_cancel, Cond.selects RX4 yX4_cancel yX4_cancel, Cond.code yX4_cancel cX4_cancel 3 (some .int), Cond.methodLink RX4 92 yX4_isPlace, Cond.instanceMethod yX4_isPlace, Cond.selects RX4 yX4_isPlace yX4_isPlace, Cond.code yX4_isPlace cX4_isPlace 2 (some .boolean)]
def wsL_law_r13 : List Cond := [Cond.methodLink RX4 95 yX4_leaves, Cond.instanceMethod yX4_leaves, Cond.selects RX4 yX4_leaves yX4_leaves, Cond.code yX4_leaves cX4_leaves 3 none, Cond.methodLink RL 49 yX3_requestAt, Cond.instanceMethod yX3_requestAt, Cond.selects RX3 yX3_requestAt yX3_requestAt, Cond.code yX3_requestAt cX3_requestAt 3 (some .int), Cond.methodLink RX3 84 yX0_isPlace, Cond.methodLink RL 52 yX4_requestAt, Cond.instanceMethod yX4_requestAt, Cond.selects RX4 yX4_requestAt yX4_requestAt, Cond.code yX4_requestAt cX4_requestAt 3 (some .int), Cond.methodLink RL 53 yX3_tick, Cond.instanceMethod yX3_tick, Cond.selects RX3 yX3_tick yX3_tick, Cond.code yX3_tick cX3_tick 2 (some .int), Cond.methodLink RX3 90 yX0_passTicks, Cond.instanceMethod yX0_passTicks, Cond.selects RX0 yX0_passTicks yX0_passTicks, Cond.code yX0_passTicks cX0_passTicks 4 (some .int), Cond.constant RX0 92 (50000), Cond.methodLink RX0 93 yX0_passTick, Cond.instanceMethod yX0_passTick]
def wsL_law_r14 : List Cond := [Cond.selects RX0 yX0_passTick yX0_passTick, Cond.code yX0_passTick cX0_passTick 1 (some .int), Cond.methodLink RX0 97 yX0_flowIn, Cond.instanceMethod yX0_flowIn, Cond.selects RX0 yX0_flowIn yX0_flowIn, Cond.code yX0_flowIn cX0_flowIn 5 none, Cond.methodLink RX0 112 yX0_roomIn, Cond.instanceMethod yX0_roomIn, Cond.selects RX0 yX0_roomIn yX0_roomIn, Cond.code yX0_roomIn cX0_roomIn 2 (some .int), Cond.methodLink RX0 100 yX0_timeOfDay, Cond.instanceMethod yX0_timeOfDay, Cond.selects RX0 yX0_timeOfDay yX0_timeOfDay, Cond.code yX0_timeOfDay cX0_timeOfDay 2 (some .int), Cond.methodLink RX0 103 yX0_lendAtNoon, Cond.instanceMethod yX0_lendAtNoon, Cond.selects RX0 yX0_lendAtNoon yX0_lendAtNoon, Cond.code yX0_lendAtNoon cX0_lendAtNoon 6 (some .int), Cond.methodLink RX0 106 yX0_payBackInEvening, Cond.instanceMethod yX0_payBackInEvening, Cond.selects RX0 yX0_payBackInEvening yX0_payBackInEvening, Cond.code yX0_payBackInEvening cX0_payBackInEvening 3 none, Cond.methodLink RX0 115 yX0_payBack, Cond.instanceMethod yX0_payBack]
def wsL_law_r15 : List Cond := [Cond.selects RX0 yX0_payBack yX0_payBack, Cond.code yX0_payBack cX0_payBack 4 none, Cond.methodLink RX0 109 yX0_serveWaiting, Cond.instanceMethod yX0_serveWaiting, Cond.selects RX0 yX0_serveWaiting yX0_serveWaiting, Cond.code yX0_serveWaiting cX0_serveWaiting 7 (some .int), Cond.methodLink RL 56 yX4_tick, Cond.instanceMethod yX4_tick, Cond.selects RX4 yX4_tick yX4_tick, Cond.code yX4_tick cX4_tick 2 (some .int), Cond.methodLink RX4 122 yX4_passes, Cond.instanceMethod yX4_passes, Cond.selects RX4 yX4_passes yX4_passes, Cond.code yX4_passes cX4_passes 4 (some .int), Cond.constant RX4 118 (50000), Cond.methodLink RX4 119 yX4_ticks, Cond.instanceMethod yX4_ticks, Cond.selects RX4 yX4_ticks yX4_ticks, Cond.code yX4_ticks cX4_ticks 2 none, Cond.methodLink RX4 105 yX4_flows, Cond.instanceMethod yX4_flows, Cond.selects RX4 yX4_flows yX4_flows, Cond.code yX4_flows cX4_flows 4 none, Cond.methodLink RX4 99 yX4_room]
def wsL_law_r16 : List Cond := [Cond.instanceMethod yX4_room, Cond.selects RX4 yX4_room yX4_room, Cond.code yX4_room cX4_room 2 (some .int), Cond.methodLink RX4 108 yX4_lends, Cond.instanceMethod yX4_lends, Cond.selects RX4 yX4_lends yX4_lends, Cond.code yX4_lends cX4_lends 5 (some .int), Cond.methodLink RX4 102 yX4_half, Cond.instanceMethod yX4_half, Cond.selects RX4 yX4_half yX4_half, Cond.code yX4_half cX4_half 2 (some .int), Cond.methodLink RX4 112 yX4_paysBack, Cond.instanceMethod yX4_paysBack, Cond.selects RX4 yX4_paysBack yX4_paysBack, Cond.code yX4_paysBack cX4_paysBack 4 none, Cond.methodLink RX4 115 yX4_looks, Cond.instanceMethod yX4_looks, Cond.selects RX4 yX4_looks yX4_looks, Cond.code yX4_looks cX4_looks 5 none, Cond.methodLink RL 57 yX3_set, Cond.instanceMethod yX3_set, Cond.selects RX3 yX3_set yX3_set, Cond.code yX3_set cX3_set 3 (some .int), Cond.methodLink RX3 93 yX0_changeSetting]
def wsL_law_r17 : List Cond := [Cond.instanceMethod yX0_changeSetting, Cond.selects RX0 yX0_changeSetting yX0_changeSetting, Cond.code yX0_changeSetting cX0_changeSetting 5 (some .int), Cond.methodLink RL 60 yX4_set, Cond.instanceMethod yX4_set, Cond.selects RX4 yX4_set yX4_set, Cond.code yX4_set cX4_set 4 (some .int), Cond.methodLink RL 61 yX3_able, Cond.instanceMethod yX3_able, Cond.selects RX3 yX3_able yX3_able, Cond.code yX3_able cX3_able 2 (some .int), Cond.methodLink RX3 96 yX0_shareOut, Cond.methodLink RL 64 yX4_able, Cond.instanceMethod yX4_able, Cond.selects RX4 yX4_able yX4_able, Cond.code yX4_able cX4_able 2 (some .int), Cond.methodLink RL 65 yX3_gives, Cond.instanceMethod yX3_gives, Cond.selects RX3 yX3_gives yX3_gives, Cond.code yX3_gives cX3_gives 4 (some .int), Cond.methodLink RX3 99 yX3_areBuckets, Cond.methodLink RL 68 yX4_gives, Cond.instanceMethod yX4_gives, Cond.selects RX4 yX4_gives yX4_gives]
def wsL_law_r18 : List Cond := [Cond.code yX4_gives cX4_gives 7 (some .int), Cond.methodLink RL 69 yX3_possibleIn, Cond.instanceMethod yX3_possibleIn, Cond.selects RX3 yX3_possibleIn yX3_possibleIn, Cond.code yX3_possibleIn cX3_possibleIn 4 (some .int), Cond.methodLink RX3 106 yX0_copyFrom, Cond.methodLink RX3 109 yX0_passTick, Cond.methodLink RL 72 yX4_possibleIn, Cond.instanceMethod yX4_possibleIn, Cond.selects RX4 yX4_possibleIn yX4_possibleIn, Cond.code yX4_possibleIn cX4_possibleIn 4 (some .int), Cond.methodLink RX4 125 yX4_back, Cond.instanceMethod yX4_back, Cond.selects RX4 yX4_back yX4_back, Cond.code yX4_back cX4_back 2 none, Cond.methodLink RL 73 yX3_waterIn, Cond.instanceMethod yX3_waterIn, Cond.selects RX3 yX3_waterIn yX3_waterIn, Cond.code yX3_waterIn cX3_waterIn 4 (some .int), Cond.methodLink RL 76 yX4_waterIn, Cond.instanceMethod yX4_waterIn, Cond.selects RX4 yX4_waterIn yX4_waterIn, Cond.code yX4_waterIn cX4_waterIn 4 (some .int), Cond.methodLink RL 77 yX3_lenders]
def wsL_law_r19 : List Cond := [Cond.instanceMethod yX3_lenders, Cond.selects RX3 yX3_lenders yX3_lenders, Cond.code yX3_lenders cX3_lenders 1 (some .int), Cond.methodLink RX3 113 yX0_lendAtNoon, Cond.methodLink RL 81 yX4_lenders, Cond.instanceMethod yX4_lenders, Cond.selects RX4 yX4_lenders yX4_lenders, Cond.code yX4_lenders cX4_lenders 2 (some .int), Cond.methodLink RL 82 yX3_count, Cond.instanceMethod yX3_count, Cond.selects RX3 yX3_count yX3_count, Cond.code yX3_count cX3_count 2 (some .int), Cond.methodLink RX3 119 yX0_sumOf, Cond.instanceMethod yX0_sumOf, Cond.selects RX0 yX0_sumOf yX0_sumOf, Cond.code yX0_sumOf cX0_sumOf 4 (some .int), Cond.methodLink RX3 131 yX0_timeOfDay, Cond.methodLink RL 85 yX4_count, Cond.instanceMethod yX4_count, Cond.selects RX4 yX4_count yX4_count, Cond.code yX4_count cX4_count 2 (some .int), Cond.fieldLink RX4 131 "NoonWellsModel" "letters" "I", Cond.methodLink RX4 128 yX4_sum, Cond.instanceMethod yX4_sum]
def wsL_law_r20 : List Cond := [Cond.selects RX4 yX4_sum yX4_sum, Cond.code yX4_sum cX4_sum 4 (some .int), Cond.methodLink RL 86 yX3_undo, Cond.instanceMethod yX3_undo, Cond.selects RX3 yX3_undo yX3_undo, Cond.code yX3_undo cX3_undo 1 (some .int), Cond.methodLink RX3 140 yX1_giveBack, Cond.instanceMethod yX1_giveBack, Cond.selects RX1 yX1_giveBack yX1_giveBack, Cond.code yX1_giveBack cX1_giveBack 2 none, Cond.methodLink RL 89 yX4_undo, Cond.instanceMethod yX4_undo, Cond.selects RX4 yX4_undo yX4_undo, Cond.code yX4_undo cX4_undo 2 (some .int), Cond.methodLink RL 90 yX3_type, Cond.instanceMethod yX3_type, Cond.selects RX3 yX3_type yX3_type, Cond.code yX3_type cX3_type 2 (some .int), Cond.methodLink RX3 143 yX2_append, Cond.instanceMethod yX2_append, Cond.selects RX2 yX2_append yX2_append, Cond.code yX2_append cX2_append 2 (some .boolean), Cond.fieldLink RX2 19 "NoonWells$Script" "length" "I", Cond.methodLink RL 93 yX4_type]
def wsL_law_r21 : List Cond := [Cond.instanceMethod yX4_type, Cond.selects RX4 yX4_type yX4_type, Cond.code yX4_type cX4_type 2 (some .int), Cond.methodLink RL 94 yX3_clearText, Cond.instanceMethod yX3_clearText, Cond.selects RX3 yX3_clearText yX3_clearText, Cond.code yX3_clearText cX3_clearText 2 (some .int), Cond.methodLink RL 97 yX4_clearText, Cond.instanceMethod yX4_clearText, Cond.selects RX4 yX4_clearText yX4_clearText, Cond.code yX4_clearText cX4_clearText 2 (some .int), Cond.methodLink RL 98 yX3_fault, Cond.instanceMethod yX3_fault, Cond.selects RX3 yX3_fault yX3_fault, Cond.code yX3_fault cX3_fault 2 (some .int), Cond.methodLink RX3 147 yX2_runOn, Cond.instanceMethod yX2_runOn, Cond.selects RX2 yX2_runOn yX2_runOn, Cond.code yX2_runOn cX2_runOn 5 none, Cond.fieldLink RX2 23 "NoonWells$Script" "orders" "I", Cond.fieldLink RX2 26 "NoonWells$Script" "faultAt" "I", Cond.fieldLink RX2 29 "NoonWells$Script" "reason" "I", Cond.fieldLink RX2 32 "NoonWells$Script" "next" "I", Cond.methodLink RX2 35 yX2_readOrder]
def wsL_law_r22 : List Cond := [Cond.instanceMethod yX2_readOrder, Cond.selects RX2 yX2_readOrder yX2_readOrder, Cond.code yX2_readOrder cX2_readOrder 5 (some .boolean), Cond.methodLink RX2 43 yX2_numbersOf, Cond.static yX2_numbersOf, Cond.code yX2_numbersOf cX2_numbersOf 1 (some .int), Cond.methodLink RX2 47 yX2_readNumber, Cond.instanceMethod yX2_readNumber, Cond.selects RX2 yX2_readNumber yX2_readNumber, Cond.code yX2_readNumber cX2_readNumber 4 (some .boolean), Cond.methodLink RX2 51 yX2_isDigit, Cond.static yX2_isDigit, Cond.code yX2_isDigit cX2_isDigit 1 (some .boolean), Cond.methodLink RX2 39 yX2_doOrder, Cond.instanceMethod yX2_doOrder, Cond.selects RX2 yX2_doOrder yX2_doOrder, Cond.code yX2_doOrder cX2_doOrder 3 (some .int), Cond.methodLink RX2 54 yX0_takeDraw, Cond.methodLink RX2 60 yX0_takeRequest, Cond.methodLink RX2 63 yX0_passTicks, Cond.methodLink RX2 70 yX0_addDrought, Cond.methodLink RL 101 yX4_fault, Cond.instanceMethod yX4_fault, Cond.selects RX4 yX4_fault yX4_fault]
def wsL_law_r23 : List Cond := [Cond.code yX4_fault cX4_fault 2 (some .int), Cond.fieldLink RX4 143 "NoonWellsModel" "reason" "I", Cond.fieldLink RX4 152 "NoonWellsModel" "faultAt" "I", Cond.methodLink RX4 158 yX4_tries, Cond.instanceMethod yX4_tries, Cond.selects RX4 yX4_tries yX4_tries, Cond.code yX4_tries cX4_tries 1 none, Cond.fieldLink RX4 134 "NoonWellsModel" "readAt" "I", Cond.fieldLink RX4 149 "NoonWellsModel" "orders" "I", Cond.methodLink RX4 155 yX4_order, Cond.instanceMethod yX4_order, Cond.selects RX4 yX4_order yX4_order, Cond.code yX4_order cX4_order 4 none, Cond.methodLink RX4 137 yX4_here, Cond.instanceMethod yX4_here, Cond.selects RX4 yX4_here yX4_here, Cond.code yX4_here cX4_here 1 (some .int), Cond.methodLink RX4 140 yX4_reads, Cond.instanceMethod yX4_reads, Cond.selects RX4 yX4_reads yX4_reads, Cond.code yX4_reads cX4_reads 4 (some .boolean), Cond.methodLink RX4 146 yX4_does, Cond.instanceMethod yX4_does, Cond.selects RX4 yX4_does yX4_does]
def wsL_law_r24 : List Cond := [Cond.code yX4_does cX4_does 2 (some .int), Cond.methodLink RL 102 yX3_play, Cond.instanceMethod yX3_play, Cond.selects RX3 yX3_play yX3_play, Cond.code yX3_play cX3_play 1 (some .int), Cond.methodLink RL 105 yX4_play, Cond.instanceMethod yX4_play, Cond.selects RX4 yX4_play yX4_play, Cond.code yX4_play cX4_play 1 (some .int)]
def wsL_law : List Cond := (wsL_law_r1 ++ (wsL_law_r2 ++ (wsL_law_r3 ++ (wsL_law_r4 ++ (wsL_law_r5 ++ (wsL_law_r6 ++ (wsL_law_r7 ++ (wsL_law_r8 ++ (wsL_law_r9 ++ (wsL_law_r10 ++ (wsL_law_r11 ++ (wsL_law_r12 ++ (wsL_law_r13 ++ (wsL_law_r14 ++ (wsL_law_r15 ++ (wsL_law_r16 ++ (wsL_law_r17 ++ (wsL_law_r18 ++ (wsL_law_r19 ++ (wsL_law_r20 ++ (wsL_law_r21 ++ (wsL_law_r22 ++ (wsL_law_r23 ++ wsL_law_r24))))))))))))))))))))))) ++ wsX30 ++ wsX40 ++ wsX00 ++ wsX10 ++ wsX20 ++ ([] : List Cond)
set_option maxRecDepth 20000 in
abbrev vwCl : List vw_C := [(RX0, TX0, 10), (RX1, TX1, 3), (RX2, TX2, 7), (RX3, TX3, 4), (RX4, TX4, 12)]
end
section
/-! THE GROUND OF THE WALKS: clusters of cells as one function 'cell, place -> number'; contracts 'ConI', 'ConV' that give a method by a function; calls. -/
abbrev FV : Type := Nat → Nat → Int32
/-- one number written -/
def st (V : FV) (i j : Nat) (x : Int32) : FV := fun a => if a = i then upd (V i) j x else V a
def FUEL : Nat := 1000000
def rd (n : Nat) (f : Nat → Int32) (i : Int32) : Option Int32 := if i < 0 ∨ n ≤ i.toNatClampNeg then none else some (f i.toNatClampNeg)
def wr (n : Nat) (V : FV) (k : Nat) (i : Int32) (x : Int32) : Option FV := if i < 0 ∨ n ≤ i.toNatClampNeg then none else some (st V k i.toNatClampNeg x)
def ix (n : Nat) (i : Int32) : Option Nat := if i < 0 ∨ n ≤ i.toNatClampNeg then none else some i.toNatClampNeg
def nz (y : Int32) : Option Unit := if y = 0 then none else some ()
def b2 {α β γ : Type} (o : Option (α × β)) (k : α → β → Option γ) : Option γ := o.bind fun u => k u.1 u.2
def lt1 {α β : Type} (x : α) (k : α → β) : β := k x
theorem rd_some {n : Nat} {f : Nat → Int32} {i : Int32} {β : Type} {k : Int32 → Option β} {y : β} (h : (rd n f i).bind k = some y) : ∃ x, vp_in i n ∧ f i.toNatClampNeg = x ∧ k x = some y := by
  unfold rd at h
  by_cases c : i < 0 ∨ n ≤ i.toNatClampNeg
  · rw [if_pos c] at h; cases h
  · rw [if_neg c] at h; exact ⟨_, c, rfl, h⟩
theorem wr_some {n : Nat} {V : FV} {k0 : Nat} {i x : Int32} {β : Type} {k : FV → Option β} {y : β} (h : (wr n V k0 i x).bind k = some y) : ∃ V1, vp_in i n ∧ st V k0 i.toNatClampNeg x = V1 ∧ k V1 = some y := by
  unfold wr at h
  by_cases c : i < 0 ∨ n ≤ i.toNatClampNeg
  · rw [if_pos c] at h; cases h
  · rw [if_neg c] at h; exact ⟨_, c, rfl, h⟩
theorem ix_some {n : Nat} {i : Int32} {β : Type} {k : Nat → Option β} {y : β} (h : (ix n i).bind k = some y) : ∃ j, vp_in i n ∧ i.toNatClampNeg = j ∧ j < n ∧ k j = some y := by
  unfold ix at h
  by_cases c : i < 0 ∨ n ≤ i.toNatClampNeg
  · rw [if_pos c] at h; cases h
  · rw [if_neg c] at h; exact ⟨_, c, rfl, Nat.not_le.mp (fun q => c (Or.inr q)), h⟩
theorem nz_some {y : Int32} {β : Type} {k : Unit → Option β} {z : β} (h : (nz y).bind k = some z) : ¬ y = 0 ∧ k () = some z := by
  unfold nz at h
  by_cases c : y = 0
  · rw [if_pos c] at h; cases h
  · rw [if_neg c] at h; exact ⟨c, h⟩
theorem b1_some {α β : Type} {o : Option α} {k : α → Option β} {y : β} (h : o.bind k = some y) : ∃ a, o = some a ∧ k a = some y := by
  cases o with
  | none => cases h
  | some a => exact ⟨a, rfl, h⟩
theorem b2_some {α β γ : Type} {o : Option (α × β)} {k : α → β → Option γ} {y : γ} (h : b2 o k = some y) : ∃ a b, o = some (a, b) ∧ k a b = some y := by
  cases o with
  | none => cases h
  | some a => exact ⟨a.1, a.2, rfl, h⟩
theorem lt1_some {α β : Type} {x : α} {k : α → Option β} {y : β} (h : lt1 x k = some y) : ∃ a, x = a ∧ k a = some y := ⟨x, rfl, h⟩
theorem ite_t {c : Prop} [Decidable c] {α : Type} {a b y : α} (hc : c) (h : (if c then a else b) = y) : a = y := by rw [if_pos hc] at h; exact h
theorem ite_f {c : Prop} [Decidable c] {α : Type} {a b y : α} (hc : ¬ c) (h : (if c then a else b) = y) : b = y := by rw [if_neg hc] at h; exact h
theorem some_fst {α β : Type} {a a1 : α} {b b1 : β} (h : some (a, b) = some (a1, b1)) : a = a1 := by cases h; rfl
theorem some_snd {α β : Type} {a a1 : α} {b b1 : β} (h : some (a, b) = some (a1, b1)) : b = b1 := by cases h; rfl
theorem some_one {α : Type} {a a1 : α} (h : some a = some a1) : a = a1 := by cases h; rfl
/-! the worlds -/
def qs (n : Nat) (g : Nat → Nat) : vp_A := (n, .inr (.inr (.inr (.inr (fun i => if i < n then some (g i) else none)))))
def TY (cy : Nat → ClassId) : List (ClassId × FieldType) := [(cy 0, .int), (cy 1, .array .int), (cy 2, .char), (cy 3, .object "NoonWells$Field")]
def FW (cy : Nat → ClassId) (a : Nat → Nat) (V : FV) : va_W :=
  [(a 0, .inr (0, [.ref (a 1), .ref (a 2), .ref (a 3), .ref (a 4), .ref (a 5), .int (V 0 0), .int (V 0 1), .int (V 0 2), .int (V 0 3), .int (V 0 4)])),
   (a 1, .inl (cy 1, 13, .inr (.inr (.inr (.inr (fun i => if i < 13 then some (a (6 + i)) else none)))))),
   (a 2, .inl (cy 1, 3, .inr (.inr (.inr (.inr (fun i => if i < 3 then some (a (19 + i)) else none)))))),
   (a 3, .inl (cy 1, 3, .inr (.inr (.inr (.inr (fun i => if i < 3 then some (a (22 + i)) else none)))))),
   (a 4, .inl (cy 0, 2, .inl (V 4))),
   (a 5, .inl (cy 0, 12, .inl (V 5))),
   (a 6, .inl (cy 0, 12, .inl (V 6))), (a 7, .inl (cy 0, 12, .inl (V 7))), (a 8, .inl (cy 0, 12, .inl (V 8))), (a 9, .inl (cy 0, 12, .inl (V 9))),
   (a 10, .inl (cy 0, 12, .inl (V 10))), (a 11, .inl (cy 0, 12, .inl (V 11))), (a 12, .inl (cy 0, 12, .inl (V 12))), (a 13, .inl (cy 0, 12, .inl (V 13))),
   (a 14, .inl (cy 0, 12, .inl (V 14))), (a 15, .inl (cy 0, 12, .inl (V 15))), (a 16, .inl (cy 0, 12, .inl (V 16))), (a 17, .inl (cy 0, 12, .inl (V 17))),
   (a 18, .inl (cy 0, 12, .inl (V 18))),
   (a 19, .inl (cy 0, 20, .inl (V 19))), (a 20, .inl (cy 0, 20, .inl (V 20))), (a 21, .inl (cy 0, 20, .inl (V 21))),
   (a 22, .inl (cy 0, 8, .inl (V 22))), (a 23, .inl (cy 0, 8, .inl (V 23))), (a 24, .inl (cy 0, 8, .inl (V 24)))]
def SW (cy : Nat → ClassId) (a : Nat → Nat) (V : FV) : va_W :=
  [(a 0, .inr (2, [.ref (a 1), .ref (a 2), .int (V 0 0), .int (V 0 1), .int (V 0 2), .int (V 0 3), .int (V 0 4)])),
   (a 1, .inl (cy 2, 60, .inl (V 1))), (a 2, .inl (cy 0, 3, .inl (V 2)))]
def HW (cy : Nat → ClassId) (aa : Nat → Nat → Nat) (G : Nat → FV) : va_W :=
  [(aa 0 0, .inr (1, [.ref (aa 0 1), .int (G 0 0 0), .int (G 0 0 1)])),
   (aa 0 1, .inl (cy 3, 5, .inr (.inr (.inr (.inr (fun i => if i < 5 then some (aa (i + 1) 0) else none))))))] ++
  (FW cy (aa 1) (G 1) ++ (FW cy (aa 2) (G 2) ++ (FW cy (aa 3) (G 3) ++ (FW cy (aa 4) (G 4) ++ FW cy (aa 5) (G 5)))))
def NOb (aN : Nat → Nat → Nat) : va_W := [(aN 0 0, .inr (3, [.ref (aN 1 0), .ref (aN 2 0), .ref (aN 4 0), .ref (aN 3 0)]))]
def NW (cy : Nat → ClassId) (aN : Nat → Nat → Nat) (v1 v2 : FV) (G : Nat → FV) (v3 : FV) : va_W :=
  NOb aN ++ (FW cy (aN 1) v1 ++ (FW cy (aN 2) v2 ++ (SW cy (aN 3) v3 ++ HW cy (fun i => aN (4 + i)) G)))
def MW (cy : Nat → ClassId) (a : Nat → Nat) (V : FV) : va_W :=
  [(a 0, .inr (4, [.ref (a 1), .ref (a 2), .ref (a 3), .ref (a 4), .int (V 0 0), .int (V 0 1), .int (V 0 2), .int (V 0 3), .int (V 0 4), .ref (a 5), .int (V 0 5), .int (V 0 6)])),
   (a 1, .inl (cy 0, 236, .inl (V 1))), (a 2, .inl (cy 0, 236, .inl (V 2))), (a 3, .inl (cy 0, 944, .inl (V 3))), (a 4, .inl (cy 0, 60, .inl (V 4))), (a 5, .inl (cy 0, 3, .inl (V 5)))]
/-! what every method needs of the tables, beside its own words: nest mates' members -/
def NXl : List Cond := [.fieldLinkNest "NoonWells" 68 "NoonWells$Field" "wells" "[[I" "NoonWells", .fieldLinkNest "NoonWells" 53 "NoonWells$Field" "droughts" "[[I" "NoonWells", .fieldLinkNest "NoonWells" 87 "NoonWells$Field" "requests" "[[I" "NoonWells", .fieldLinkNest "NoonWells" 128 "NoonWells$Field" "settings" "[I" "NoonWells", .fieldLinkNest "NoonWells" 102 "NoonWells$Field" "shares" "[I" "NoonWells", .fieldLinkNest "NoonWells" 116 "NoonWells$Field" "wellCount" "I" "NoonWells", .fieldLinkNest "NoonWells" 49 "NoonWells$Field" "droughtCount" "I" "NoonWells", .fieldLinkNest "NoonWells" 122 "NoonWells$Field" "waiting" "I" "NoonWells", .fieldLinkNest "NoonWells" 61 "NoonWells$Field" "time" "I" "NoonWells", .fieldLinkNest "NoonWells$Script" 67 "NoonWells$Field" "time" "I" "NoonWells", .fieldLinkNest "NoonWells" 125 "NoonWells$Field" "drawnBehindWaiting" "I" "NoonWells", .fieldLinkNest "NoonWells" 134 "NoonWells$History" "size" "I" "NoonWells", .fieldLinkNest "NoonWells" 137 "NoonWells$Script" "length" "I" "NoonWells", .fieldLinkNest "NoonWells" 156 "NoonWells$Script" "orders" "I" "NoonWells", .fieldLinkNest "NoonWells" 153 "NoonWells$Script" "faultAt" "I" "NoonWells", .fieldLinkNest "NoonWells" 150 "NoonWells$Script" "reason" "I" "NoonWells", .methodLinkNest "NoonWells" 28 yX2_init "NoonWells", .methodLinkNest "NoonWells$Field" 76 yX3_areBuckets "NoonWells"]
def NX (U : State) : Prop := ∀ w ∈ NXl, va_Nw w U
theorem NXl_on : ∀ w ∈ NXl, w.onTables = true := by decide +kernel
theorem NX.same {u U : State} (h : u.vm = U.vm) (hN : NX u) : NX U := fun w hw => va_Nw.same (NXl_on w hw) h (hN w hw)
theorem NX.warm {s U : State} (hW : s.WarmedH U.vm) (hN : NX s) : NX U := by
  intro w hw
  have h := hN w hw
  simp only [NXl, List.mem_cons, List.not_mem_nil, or_false] at hw
  rcases hw with rfl | rfl | rfl | rfl | rfl | rfl | rfl | rfl | rfl | rfl | rfl | rfl | rfl | rfl | rfl | rfl | rfl | rfl <;> first | exact va_Nw.warmF hW h | exact va_Nw.warmM hW h
def KX (D : va_G) (cy : Nat → ClassId) (U : State) : Prop := va_K D vwCl (TY cy) U ∧ NX U
theorem KX.same {D : va_G} {cy : Nat → ClassId} {U : State} (h : KX D cy U) (g : JFrame) (mk : MethodId) (a : Array Value) : KX D cy (U.calling g mk a) := ⟨va_K.moved (u := U) (U := U.calling g mk a) (Vm.Alike.refl U.vm) h.1, NX.same (u := U) (U := U.calling g mk a) rfl h.2⟩
theorem KX.warm {D : va_G} {cy : Nat → ClassId} {s U : State} (hW : s.WarmedH U.vm) (h : KX D cy s) : KX D cy U := ⟨va_K.moved hW.alike h.1, NX.warm hW h.2⟩
/-! contracts -/
def PreX {S : Type} (D : va_G) (cy : Nat → ClassId) (wd : S → va_W) (u0 : S) (sz : Nat) (U : State) : Prop := U.heap.size = sz ∧ va_P D vwCl (wd u0) U.heap ∧ KX D cy U ∧ va_D (fun _ => True) (wd u0)
def PostX {S : Type} (D : va_G) (wd : S → va_W) (u0 : S) (sz : Nat) (u : S) (t : State) : Prop := va_P D vwCl (wd u) t.heap ∧ va_D (va_A (wd u0) sz) (wd u)
def RM (fr lc : Nat) : Room := { frames := fr, cells := 0, slots := 0, locals := lc }
def ConI {S : Type} (l : Launch) (y : MethodName) (ws : List Cond) (fr lc : Nat) (D : va_G) (cy : Nat → ClassId) (wd : S → va_W) (av : List Value) (u0 u1 : S) (r : Int32) : Prop :=
  ∀ sz : Nat, Met l y ws (RM fr lc) (va_Pc av (PreX D cy wd u0 sz)) (va_Qi (fun (r0 : Int32) (u : S) => r0 = r ∧ u = u1) (PostX D wd u0 sz) (va_A (wd u0) sz)) 0 0 (va_A (wd u0) sz)
def ConV {S : Type} (l : Launch) (y : MethodName) (ws : List Cond) (fr lc : Nat) (D : va_G) (cy : Nat → ClassId) (wd : S → va_W) (av : List Value) (u0 u1 : S) : Prop :=
  ∀ sz : Nat, Met l y ws (RM fr lc) (va_Pc av (PreX D cy wd u0 sz)) (va_Qv (fun (u : S) => u = u1) (PostX D wd u0 sz) (va_A (wd u0) sz)) 0 0 (va_A (wd u0) sz)
theorem PreX.blind {S : Type} {D : va_G} {cy : Nat → ClassId} {wd : S → va_W} {u0 : S} {sz : Nat} {av : List Value} : FrameBlind (va_Pc av (PreX D cy wd u0 sz)) := fun a _ g mk q => by
  obtain ⟨q0, q1, qP, qK, qD⟩ := q
  exact ⟨q0, q1, qP, qK.same g mk a, qD⟩
set_option maxHeartbeats 4000000 in
theorem bodyI {S : Type} {l : Launch} {y : MethodName} {ws ws' : List Cond} {fr lc : Nat} {D : va_G} {cy : Nat → ClassId} {wd : S → va_W} {av : List Value} {u0 u1 : S} {r : Int32} {cc : ByteArray} {maxL : Nat} {ty : FieldType}
    (hy : plainName y.cls = true) (hw : ws = Cond.code y cc maxL (some ty) :: ws') (hlen : (lg_sl av).length ≤ maxL)
    (body : ∀ (p : Program) (e : Env) (s : State) (m : MethodId) (args : Array Value) (below : List Frame) (meth : Method) (c : Code) (A : Nat → Prop) (Q : State → Prop), p.tables.exec = Jvm.exec → c.code = cc → c.maxLocals = maxL → (∀ w ∈ ws, w.before args s = true) → s.vm.findClass y.cls = some m.cls → KX D cy s → va_P D vwCl (wd u0) s.heap → va_D A (wd u0) → (∀ q : Nat, s.heap.size ≤ q → A q) → va_S A s.heap s.heap [] →
      (∀ (H : Heap) (locs : List Loc) (pc : Nat) (ls : Array Slot) (v : Int32) (u : S), v = r → u = u1 → narrow ty (.int v) = .int v → va_P D vwCl (wd u) H → va_D A (wd u) → va_S A s.heap H locs → decode cc pc = .ok (.ireturn, 1) → W p l e (RM fr lc) s m args below meth c H locs 0 0 Q (F0 m pc ls [.int v])) →
      ∀ ls0 : Array Slot, lv_has ls0 maxL (lv_args 0 av) → W p l e (RM fr lc) s m args below meth c s.heap [] 0 0 Q (F0 m 0 ls0 [])) : ConI l y ws fr lc D cy wd av u0 u1 r := by
  intro sz
  refine Met.ofW (cc := cc) (maxL := maxL) (ret := some ty) hy hw ?_
  intro p e s m args below meth c s₁ B hml hv
  obtain ⟨rfl, hsz, hP, hK, hD0⟩ := hv
  have hlocks := B.notSynchronized
  subst hsz
  have hD := hD0.self (sz := s.heap.size)
  rw [lg_entry_eq]
  refine body p e s m _ below meth c (va_A (wd u0) s.heap.size) _ B.exec B.bytes hml (atoms_spec (ws := ws) B.pre) (findClass_of_methodNamed B.named) hK hP hD (fun q h => Or.inr h) va_S.rf ?_ _ (lv_entry av hlen)
  intro H locs pc ls v u hv hu hn hP1 hD1 hS hdg
  exact W.zret (v := v) B.exec B.bytes B.returns hn (fun t ht hW => ⟨⟨v, u, rfl, ⟨hv, hu⟩, by rw [ht]; exact hP1, hD1⟩, hS.F ht⟩) hS.2.2 hdg
set_option maxHeartbeats 4000000 in
theorem bodyV {S : Type} {l : Launch} {y : MethodName} {ws ws' : List Cond} {fr lc : Nat} {D : va_G} {cy : Nat → ClassId} {wd : S → va_W} {av : List Value} {u0 u1 : S} {cc : ByteArray} {maxL : Nat}
    (hy : plainName y.cls = true) (hw : ws = Cond.code y cc maxL none :: ws') (hlen : (lg_sl av).length ≤ maxL)
    (body : ∀ (p : Program) (e : Env) (s : State) (m : MethodId) (args : Array Value) (below : List Frame) (meth : Method) (c : Code) (A : Nat → Prop) (Q : State → Prop), p.tables.exec = Jvm.exec → c.code = cc → c.maxLocals = maxL → (∀ w ∈ ws, w.before args s = true) → s.vm.findClass y.cls = some m.cls → KX D cy s → va_P D vwCl (wd u0) s.heap → va_D A (wd u0) → (∀ q : Nat, s.heap.size ≤ q → A q) → va_S A s.heap s.heap [] →
      (∀ (H : Heap) (locs : List Loc) (pc : Nat) (ls : Array Slot) (u : S), u = u1 → va_P D vwCl (wd u) H → va_D A (wd u) → va_S A s.heap H locs → decode cc pc = .ok (.return_, 1) → W p l e (RM fr lc) s m args below meth c H locs 0 0 Q (F0 m pc ls [])) →
      ∀ ls0 : Array Slot, lv_has ls0 maxL (lv_args 0 av) → W p l e (RM fr lc) s m args below meth c s.heap [] 0 0 Q (F0 m 0 ls0 [])) : ConV l y ws fr lc D cy wd av u0 u1 := by
  intro sz
  refine Met.ofW (cc := cc) (maxL := maxL) (ret := none) hy hw ?_
  intro p e s m args below meth c s₁ B hml hv
  obtain ⟨rfl, hsz, hP, hK, hD0⟩ := hv
  have hlocks := B.notSynchronized
  subst hsz
  have hD := hD0.self (sz := s.heap.size)
  rw [lg_entry_eq]
  refine body p e s m _ below meth c (va_A (wd u0) s.heap.size) _ B.exec B.bytes hml (atoms_spec (ws := ws) B.pre) (findClass_of_methodNamed B.named) hK hP hD (fun q h => Or.inr h) va_S.rf ?_ _ (lv_entry av hlen)
  intro H locs pc ls u hu hP1 hD1 hS hdg
  exact W.vret B.exec B.bytes B.returns (fun t ht hW => ⟨⟨u, rfl, hu, by rw [ht]; exact hP1, hD1⟩, hS.F ht⟩) hS.2.2 hdg
/-! the part of the world that a callee takes, and what stands behind the call -/
def Jn (D : va_G) (A : Nat → Prop) (ws wc w1 w' : va_W) : Prop := ∀ H : Heap, va_P D vwCl ws H → va_D A ws → (va_P D vwCl wc H ∧ va_D (fun _ => True) wc ∧ ∀ q : Nat, (∃ (k : Nat) (e : va_E), wc[k]? = some (q, e)) → A q) ∧
  ∀ H1 : Heap, (∀ q : Nat, q < H.size → ¬ va_A wc H.size q → H1[q]? = H[q]?) → va_P D vwCl w1 H1 → va_D (va_A wc H.size) w1 → (∀ q, va_A wc H.size q → A q) → va_P D vwCl w' H1 ∧ va_D A w'
theorem Jn.same {D : va_G} {A : Nat → Prop} {ws w1 : va_W} : Jn D A ws ws w1 w1 := fun _ hP hD =>
  ⟨⟨hP, hD.weaken (fun _ _ _ _ => trivial), fun q h => by obtain ⟨k, e, h⟩ := h; exact hD.2 k _ h⟩, fun _ _ hP1 hD1 hF => ⟨hP1, hD1.weaken (fun _ q _ h => hF q.1 h)⟩⟩
theorem Jn.none {D : va_G} {A : Nat → Prop} {ws : va_W} : Jn D A ws [] [] ws := fun H hP hD =>
  ⟨⟨fun k q h => by simp at h, ⟨fun i j p q h => by simp at h, fun k q h => by simp at h⟩, fun q h => by obtain ⟨k, e, h⟩ := h; simp at h⟩, fun H1 hk _ _ _ =>
    ⟨hP.kept (fun k q h => hk q.1 ((hP k q h).lt) (fun z => by
      rcases z with ⟨k2, e2, h2⟩ | h2
      · simp at h2
      · have := (hP k q h).lt; omega)), hD⟩⟩
theorem Jn.sub {D : va_G} {A : Nat → Prop} {ws wc wr w1 w' : va_W} (isC isR pm : List Nat) (hC : isC.map (fun i => ws[i]?) = wc.map some) (hR : isR.map (fun i => ws[i]?) = wr.map some) (hnC : va_nd isC = true) (hn : va_nd isR = true) (hdis : ∀ i ∈ isR, i ∉ isC) (hpn : va_nd pm = true) (hpm : pm.map (fun i => (wr ++ w1)[i]?) = w'.map some) : Jn D A ws wc w1 w' := fun H hP hD => by
  have key : ∀ (k : Nat) (q : Nat × va_E), wc[k]? = some q → ∃ i, isC[k]? = some i ∧ ws[i]? = some q := by
    intro k q hk
    have h1 : (isC.map (fun i => ws[i]?))[k]? = some (some q) := by rw [hC, List.getElem?_map, hk]; rfl
    rw [List.getElem?_map] at h1
    cases hi : isC[k]? with
    | none => rw [hi] at h1; cases h1
    | some i => rw [hi] at h1; exact ⟨i, rfl, Option.some.inj h1⟩
  refine ⟨⟨fun k q hk => ?_, (hD.sub isC hnC hC).weaken (fun _ _ _ _ => trivial), fun q h => ?_⟩, fun H1 hk hP1 hD1 hF => ?_⟩
  · obtain ⟨i, -, h2⟩ := key k q hk
    exact hP i q h2
  · obtain ⟨k, e, h⟩ := h
    obtain ⟨i, -, h2⟩ := key k (q, e) h
    exact hD.2 i _ h2
  · obtain ⟨a1, a2⟩ := va_join (wr := wr) (w1 := w1) hP hD isC isR hC hR hn hdis hk hF hP1 hD1
    refine ⟨?_, a2.sub pm hpn hpm⟩
    intro k q hq
    have h1 : (pm.map (fun i => (wr ++ w1)[i]?))[k]? = some (some q) := by rw [hpm, List.getElem?_map, hq]; rfl
    rw [List.getElem?_map] at h1
    cases hi : pm[k]? with
    | none => rw [hi] at h1; cases h1
    | some i => rw [hi] at h1; exact a1 i q (Option.some.inj h1)
section GC
variable {p : Program} {l : Launch} {e : Env} {R : Room} {s : State} {m : MethodId} {args : Array Value} {below : List Frame} {meth : Method} {c : Code} {H : Heap} {locs : List Loc} {cells slots : Nat} {Q : State → Prop}
variable {cc : ByteArray} {pc : Nat} {ls : Array Slot} {rest st0 : List Value} {D : va_G} {cy : Nat → ClassId} {A : Nat → Prop} {a : Nat} {ws w' : va_W} {H0 : Heap}
variable {S : Type} {wd : S → va_W} {u0 u1 : S} {r : Int32} {y : MethodName} {bytes : ByteArray} {maxL nL index fr lc ci N b n : Nat} {ret : Option FieldType} {wsC ws1 Ts : List Cond} {own C host : String} {T : u_T} {As : List Value} {fs : List Value}
set_option maxHeartbeats 4000000 in
theorem gc_VI (hx : p.tables.exec = Jvm.exec) (hb : c.code = cc) (hml : c.maxLocals = nL) (hown : s.vm.findClass own = some m.cls) (hts : ∀ w ∈ Ts, w.before args s = true) (hK : KX D cy s) (hP : va_P D vwCl ws H) (hD : va_D A ws) (hS : va_S A H0 H locs) (hA : ∀ q : Nat, H0.size ≤ q → A q) (hsz : ls.size = nL) (hcs : cells ≤ R.cells ∧ slots ≤ R.slots)
    (hM : ConI l y wsC fr lc D cy wd (.ref b :: As) u0 u1 r) (hG : GoodIn Ts (wsV own index C y wsC)) (hw : wsC = Cond.code y bytes maxL ret :: ws1) (hd : y.cls = C ∧ y.cls ≠ "java/lang/invoke/MethodHandle" ∧ y.cls ≠ "java/lang/invoke/VarHandle" ∧ (parseMethodDescriptor y.desc).map (fun d => d.parameters.length) = some n) (hn : As.length = n) (hR : fr + 1 ≤ R.frames ∧ 8 + (maxL + 11) + lc ≤ R.locals)
    (hJ : Jn D A ws (wd u0) (wd u1) w') (hcl : vwCl[ci]? = some (C, T, N)) (hrc : (wd u0)[0]? = some (b, .inr (ci, fs))) (hst : st0 = As.reverse ++ .ref b :: rest) (hW : (rest.map fun v => v.category).sum ≤ 8) (hdg : decode cc pc = .ok (.invokevirtual index, 3))
    (kk : ∀ (H1 : Heap) (locs1 : List Loc), va_P D vwCl w' H1 → va_D A w' → va_S A H0 H1 locs1 → W p l e R s m args below meth c H1 locs1 cells slots Q (F0 m (pc + 3) ls (.int r :: rest))) : W p l e R s m args below meth c H locs cells slots Q (F0 m pc ls st0) := by
  obtain ⟨⟨hPc, hDc, hFs⟩, hjoin⟩ := hJ H hP hD
  have hFc : ∀ q, va_A (wd u0) H.size q → A q := fun q h => h.elim (hFs q) (fun h => hA q (Nat.le_trans hS.1 h))
  refine va_calli (va_runV (As := As) (rest := rest) ⟨hx, hb, hml, hown, hts⟩ (hM H.size) (cwV n hts hG hw rfl rfl hd hR) ⟨PreX.blind, va_recv hK.1 hPc hcl hrc, fun U hU hW => ⟨rfl, by rw [hU], by rw [hU]; exact hPc, hK.warm hW, hDc⟩⟩ rfl hn hsz hst (lv_room hW) hdg ⟨hcs.1, hcs.2⟩) hS (fun q _ h => hFc q h) hFc (fun r2 u t H1 locs1 ht hvm hw hB hz1 hk1 hS1 => ?_)
  obtain ⟨rfl, rfl⟩ := hw
  obtain ⟨hP1, hD1⟩ := hB
  rw [ht] at hP1
  obtain ⟨a1, a2⟩ := hjoin H1 hk1 hP1 hD1 hFc
  exact kk H1 locs1 a1 a2 hS1
set_option maxHeartbeats 4000000 in
theorem gc_VV (hx : p.tables.exec = Jvm.exec) (hb : c.code = cc) (hml : c.maxLocals = nL) (hown : s.vm.findClass own = some m.cls) (hts : ∀ w ∈ Ts, w.before args s = true) (hK : KX D cy s) (hP : va_P D vwCl ws H) (hD : va_D A ws) (hS : va_S A H0 H locs) (hA : ∀ q : Nat, H0.size ≤ q → A q) (hsz : ls.size = nL) (hcs : cells ≤ R.cells ∧ slots ≤ R.slots)
    (hM : ConV l y wsC fr lc D cy wd (.ref b :: As) u0 u1) (hG : GoodIn Ts (wsV own index C y wsC)) (hw : wsC = Cond.code y bytes maxL ret :: ws1) (hd : y.cls = C ∧ y.cls ≠ "java/lang/invoke/MethodHandle" ∧ y.cls ≠ "java/lang/invoke/VarHandle" ∧ (parseMethodDescriptor y.desc).map (fun d => d.parameters.length) = some n) (hn : As.length = n) (hR : fr + 1 ≤ R.frames ∧ 8 + (maxL + 11) + lc ≤ R.locals)
    (hJ : Jn D A ws (wd u0) (wd u1) w') (hcl : vwCl[ci]? = some (C, T, N)) (hrc : (wd u0)[0]? = some (b, .inr (ci, fs))) (hst : st0 = As.reverse ++ .ref b :: rest) (hW : (rest.map fun v => v.category).sum ≤ 8) (hdg : decode cc pc = .ok (.invokevirtual index, 3))
    (kk : ∀ (H1 : Heap) (locs1 : List Loc), va_P D vwCl w' H1 → va_D A w' → va_S A H0 H1 locs1 → W p l e R s m args below meth c H1 locs1 cells slots Q (F0 m (pc + 3) ls rest)) : W p l e R s m args below meth c H locs cells slots Q (F0 m pc ls st0) := by
  obtain ⟨⟨hPc, hDc, hFs⟩, hjoin⟩ := hJ H hP hD
  have hFc : ∀ q, va_A (wd u0) H.size q → A q := fun q h => h.elim (hFs q) (fun h => hA q (Nat.le_trans hS.1 h))
  refine va_callv (va_runV (As := As) (rest := rest) ⟨hx, hb, hml, hown, hts⟩ (hM H.size) (cwV n hts hG hw rfl rfl hd hR) ⟨PreX.blind, va_recv hK.1 hPc hcl hrc, fun U hU hW => ⟨rfl, by rw [hU], by rw [hU]; exact hPc, hK.warm hW, hDc⟩⟩ rfl hn hsz hst (lv_room hW) hdg ⟨hcs.1, hcs.2⟩) hS (fun q _ h => hFc q h) hFc (fun u t H1 locs1 ht hvm hw hB hz1 hk1 hS1 => ?_)
  obtain rfl := hw
  obtain ⟨hP1, hD1⟩ := hB
  rw [ht] at hP1
  obtain ⟨a1, a2⟩ := hjoin H1 hk1 hP1 hD1 hFc
  exact kk H1 locs1 a1 a2 hS1
set_option maxHeartbeats 4000000 in
theorem gc_SI (hx : p.tables.exec = Jvm.exec) (hb : c.code = cc) (hml : c.maxLocals = nL) (hown : s.vm.findClass own = some m.cls) (hts : ∀ w ∈ Ts, w.before args s = true) (hK : KX D cy s) (hP : va_P D vwCl ws H) (hD : va_D A ws) (hS : va_S A H0 H locs) (hA : ∀ q : Nat, H0.size ≤ q → A q) (hsz : ls.size = nL) (hcs : cells ≤ R.cells ∧ slots ≤ R.slots)
    (hM : ConI l y wsC fr lc D cy wd As u0 u1 r) (hG : GoodIn Ts (va_wsS own index y wsC)) (hw : wsC = Cond.code y bytes maxL ret :: ws1) (hd : y.cls ≠ "java/lang/invoke/MethodHandle" ∧ y.cls ≠ "java/lang/invoke/VarHandle" ∧ (parseMethodDescriptor y.desc).map (fun d => d.parameters.length) = some n) (hn : As.length = n) (hR : fr + 1 ≤ R.frames ∧ 8 + (maxL + 11) + lc ≤ R.locals)
    (hJ : Jn D A ws (wd u0) (wd u1) w') (hst : st0 = As.reverse ++ rest) (hW : (rest.map fun v => v.category).sum ≤ 8) (hdg : decode cc pc = .ok (.invokestatic index, 3))
    (kk : ∀ (H1 : Heap) (locs1 : List Loc), va_P D vwCl w' H1 → va_D A w' → va_S A H0 H1 locs1 → W p l e R s m args below meth c H1 locs1 cells slots Q (F0 m (pc + 3) ls (.int r :: rest))) : W p l e R s m args below meth c H locs cells slots Q (F0 m pc ls st0) := by
  obtain ⟨⟨hPc, hDc, hFs⟩, hjoin⟩ := hJ H hP hD
  have hFc : ∀ q, va_A (wd u0) H.size q → A q := fun q h => h.elim (hFs q) (fun h => hA q (Nat.le_trans hS.1 h))
  refine va_calli (va_runS (As := As) (rest := rest) ⟨hx, hb, hml, hown, hts⟩ (hM H.size) (va_cwS n hts hG hw rfl rfl hd hR) ⟨PreX.blind, fun U hU hW => ⟨rfl, by rw [hU], by rw [hU]; exact hPc, hK.warm hW, hDc⟩⟩ rfl hn hsz hst (lv_room hW) hdg ⟨hcs.1, hcs.2⟩) hS (fun q _ h => hFc q h) hFc (fun r2 u t H1 locs1 ht hvm hw hB hz1 hk1 hS1 => ?_)
  obtain ⟨rfl, rfl⟩ := hw
  obtain ⟨hP1, hD1⟩ := hB
  rw [ht] at hP1
  obtain ⟨a1, a2⟩ := hjoin H1 hk1 hP1 hD1 hFc
  exact kk H1 locs1 a1 a2 hS1
set_option maxHeartbeats 4000000 in
theorem gc_SV (hx : p.tables.exec = Jvm.exec) (hb : c.code = cc) (hml : c.maxLocals = nL) (hown : s.vm.findClass own = some m.cls) (hts : ∀ w ∈ Ts, w.before args s = true) (hK : KX D cy s) (hP : va_P D vwCl ws H) (hD : va_D A ws) (hS : va_S A H0 H locs) (hA : ∀ q : Nat, H0.size ≤ q → A q) (hsz : ls.size = nL) (hcs : cells ≤ R.cells ∧ slots ≤ R.slots)
    (hM : ConV l y wsC fr lc D cy wd As u0 u1) (hG : GoodIn Ts (va_wsS own index y wsC)) (hw : wsC = Cond.code y bytes maxL ret :: ws1) (hd : y.cls ≠ "java/lang/invoke/MethodHandle" ∧ y.cls ≠ "java/lang/invoke/VarHandle" ∧ (parseMethodDescriptor y.desc).map (fun d => d.parameters.length) = some n) (hn : As.length = n) (hR : fr + 1 ≤ R.frames ∧ 8 + (maxL + 11) + lc ≤ R.locals)
    (hJ : Jn D A ws (wd u0) (wd u1) w') (hst : st0 = As.reverse ++ rest) (hW : (rest.map fun v => v.category).sum ≤ 8) (hdg : decode cc pc = .ok (.invokestatic index, 3))
    (kk : ∀ (H1 : Heap) (locs1 : List Loc), va_P D vwCl w' H1 → va_D A w' → va_S A H0 H1 locs1 → W p l e R s m args below meth c H1 locs1 cells slots Q (F0 m (pc + 3) ls rest)) : W p l e R s m args below meth c H locs cells slots Q (F0 m pc ls st0) := by
  obtain ⟨⟨hPc, hDc, hFs⟩, hjoin⟩ := hJ H hP hD
  have hFc : ∀ q, va_A (wd u0) H.size q → A q := fun q h => h.elim (hFs q) (fun h => hA q (Nat.le_trans hS.1 h))
  refine va_callv (va_runS (As := As) (rest := rest) ⟨hx, hb, hml, hown, hts⟩ (hM H.size) (va_cwS n hts hG hw rfl rfl hd hR) ⟨PreX.blind, fun U hU hW => ⟨rfl, by rw [hU], by rw [hU]; exact hPc, hK.warm hW, hDc⟩⟩ rfl hn hsz hst (lv_room hW) hdg ⟨hcs.1, hcs.2⟩) hS (fun q _ h => hFc q h) hFc (fun u t H1 locs1 ht hvm hw hB hz1 hk1 hS1 => ?_)
  obtain rfl := hw
  obtain ⟨hP1, hD1⟩ := hB
  rw [ht] at hP1
  obtain ⟨a1, a2⟩ := hjoin H1 hk1 hP1 hD1 hFc
  exact kk H1 locs1 a1 a2 hS1
set_option maxHeartbeats 4000000 in
/-- a static member of a nest mate -/
theorem gc_SNI (hx : p.tables.exec = Jvm.exec) (hb : c.code = cc) (hml : c.maxLocals = nL) (hown : s.vm.findClass own = some m.cls) (hts : ∀ w ∈ Ts, w.before args s = true) (hK : KX D cy s) (hP : va_P D vwCl ws H) (hD : va_D A ws) (hS : va_S A H0 H locs) (hA : ∀ q : Nat, H0.size ≤ q → A q) (hsz : ls.size = nL) (hcs : cells ≤ R.cells ∧ slots ≤ R.slots)
    (hM : ConI l y wsC fr lc D cy wd As u0 u1 r) (hG : GoodIn Ts wsC) (hl : Cond.methodLinkNest own index y host ∈ NXl) (hini : (Cond.initialized y.cls).before args s = true) (hsta : (Cond.static y).before args s = true) (hw : wsC = Cond.code y bytes maxL ret :: ws1) (hd : y.cls ≠ "java/lang/invoke/MethodHandle" ∧ y.cls ≠ "java/lang/invoke/VarHandle" ∧ (parseMethodDescriptor y.desc).map (fun d => d.parameters.length) = some n) (hn : As.length = n) (hR : fr + 1 ≤ R.frames ∧ 8 + (maxL + 11) + lc ≤ R.locals)
    (hJ : Jn D A ws (wd u0) (wd u1) w') (hst : st0 = As.reverse ++ rest) (hW : (rest.map fun v => v.category).sum ≤ 8) (hdg : decode cc pc = .ok (.invokestatic index, 3))
    (kk : ∀ (H1 : Heap) (locs1 : List Loc), va_P D vwCl w' H1 → va_D A w' → va_S A H0 H1 locs1 → W p l e R s m args below meth c H1 locs1 cells slots Q (F0 m (pc + 3) ls (.int r :: rest))) : W p l e R s m args below meth c H locs cells slots Q (F0 m pc ls st0) := by
  obtain ⟨⟨hPc, hDc, hFs⟩, hjoin⟩ := hJ H hP hD
  have hFc : ∀ q, va_A (wd u0) H.size q → A q := fun q h => h.elim (hFs q) (fun h => hA q (Nat.le_trans hS.1 h))
  refine va_calli (va_runSN (As := As) (rest := rest) (host := host) ⟨hx, hb, hml, hown, hts⟩ (hM H.size) ⟨va_cnB n hts hG hw rfl rfl (hK.2 _ hl) hini hd hR, hsta, trivial⟩ ⟨PreX.blind, fun U hU hW => ⟨rfl, by rw [hU], by rw [hU]; exact hPc, hK.warm hW, hDc⟩⟩ rfl hn hsz hst (lv_room hW) hdg ⟨hcs.1, hcs.2⟩) hS (fun q _ h => hFc q h) hFc (fun r2 u t H1 locs1 ht hvm hw hB hz1 hk1 hS1 => ?_)
  obtain ⟨rfl, rfl⟩ := hw
  obtain ⟨hP1, hD1⟩ := hB
  rw [ht] at hP1
  obtain ⟨a1, a2⟩ := hjoin H1 hk1 hP1 hD1 hFc
  exact kk H1 locs1 a1 a2 hS1
/-! rows with the value, and the world behind, as wanted -/
theorem g_iald (hexec : p.tables.exec = Jvm.exec) (hb : c.code = cc) (hK : KX D cy s) (hP : va_P D vwCl ws H) (q0 : Nat) {n : Nat} {f : Nat → Int32} (ha : ws[q0]? = some (a, .inl (cy 0, n, .inl f))) {i x : Int32} (hin : vp_in i n) (hv : f i.toNatClampNeg = x) (hdg : decode cc pc = .ok (.iaload, 1))
    (kk : W p l e R s m args below meth c H locs cells slots Q (F0 m (pc + 1) ls (.int x :: rest))) : W p l e R s m args below meth c H locs cells slots Q (F0 m pc ls (.int i :: .ref a :: rest)) := by
  subst hv
  exact va_iald hexec hb hK.1 hP q0 0 ha rfl hin hdg kk
theorem g_cald (hexec : p.tables.exec = Jvm.exec) (hb : c.code = cc) (hK : KX D cy s) (hP : va_P D vwCl ws H) (q0 : Nat) {n : Nat} {f : Nat → Int32} (ha : ws[q0]? = some (a, .inl (cy 2, n, .inl f))) {i x : Int32} (hin : vp_in i n) (hv : f i.toNatClampNeg = x) (hdg : decode cc pc = .ok (.caload, 1))
    (kk : W p l e R s m args below meth c H locs cells slots Q (F0 m (pc + 1) ls (.int x :: rest))) : W p l e R s m args below meth c H locs cells slots Q (F0 m pc ls (.int i :: .ref a :: rest)) := by
  subst hv
  exact va_cald hexec hb hK.1 hP q0 2 ha rfl hin hdg kk
theorem g_iast (hexec : p.tables.exec = Jvm.exec) (hb : c.code = cc) (hK : KX D cy s) (hP : va_P D vwCl ws H) (hD : va_D A ws) (hS : va_S A H0 H locs) (q0 : Nat) {n : Nat} {f : Nat → Int32} (ha : ws[q0]? = some (a, .inl (cy 0, n, .inl f))) {i x : Int32} (hin : vp_in i n) (hw : ws.set q0 (a, .inl (cy 0, n, .inl (upd f i.toNatClampNeg x))) = w') (hdg : decode cc pc = .ok (.iastore, 1))
    (kk : ∀ (H1 : Heap) (locs1 : List Loc), va_P D vwCl w' H1 → va_D A w' → va_S A H0 H1 locs1 → W p l e R s m args below meth c H1 locs1 cells slots Q (F0 m (pc + 1) ls rest)) : W p l e R s m args below meth c H locs cells slots Q (F0 m pc ls (.int x :: .int i :: .ref a :: rest)) := by
  subst hw
  exact va_iast hexec hb hK.1 hP hD hS q0 0 ha rfl hin hdg kk
/-- an array of rows of numbers is read at an index -/
theorem g_aald (hexec : p.tables.exec = Jvm.exec) (hb : c.code = cc) (hK : KX D cy s) (hP : va_P D vwCl ws H) (q0 : Nat) {n v : Nat} {f : Nat → Option Nat} (ha : ws[q0]? = some (a, .inl (cy 1, n, .inr (.inr (.inr (.inr f)))))) {i : Int32} (hin : vp_in i n) (hv : f i.toNatClampNeg = some v) (hdg : decode cc pc = .ok (.aaload, 1))
    (kk : W p l e R s m args below meth c H locs cells slots Q (F0 m (pc + 1) ls (.ref v :: rest))) : W p l e R s m args below meth c H locs cells slots Q (F0 m pc ls (.int i :: .ref a :: rest)) := by
  have hlt : i.toNatClampNeg < n := Nat.not_le.mp fun q => hin (Or.inr q)
  exact W.aald (v := .ref v) (ty := .array .int) hexec hb (hP q0 _ ha) ((hK.1.2 1 _ rfl).1 n (fun j => va_rf (f j))) rfl (fun q => by cases q) (by show ¬ (i < 0 ∨ (arrV _ _ _).slots.size ≤ _); rw [arrV_size]; exact hin) (by show (arrV _ _ _).slots[_]? = _; rw [arrV_read _ _ hlt, hv]; rfl) rfl rfl hdg kk
theorem g_put (hexec : p.tables.exec = Jvm.exec) (hb : c.code = cc) {ref C : String} {T : u_T} {N ci index : Nat} {Ts : List Cond} (hts : ∀ w ∈ Ts, w.before args s = true) (hin : ∀ w ∈ u_ws C T N, w ∈ Ts) (ty0 : Nat → FieldType) (hty : ∀ k, k < N → parseFieldDescriptor (T k).2.2.1 = some (ty0 k)) (hnm : ∀ a, a < N → ∀ b, b < N → a ≠ b → (T a).2.1 ≠ (T b).2.1) (hown : s.vm.findClass own = some m.cls) (hK : KX D cy s) (hP : va_P D vwCl ws H) (hD : va_D A ws) (hS0 : va_S A H0 H locs) (q0 : Nat) {fs : List Value} (he : ws[q0]? = some (a, .inr (ci, fs))) (hc : vwCl[ci]? = some (C, T, N)) (k : Nat) (hk : k < N) (hlink : (Cond.fieldLink own index ref (T k).2.1 (T k).2.2.1).before args s = true) (hsame : ∀ x, s.fieldFound? (T k).1 (T k).2.1 (T k).2.2.1 = some x → s.fieldFound? ref (T k).2.1 (T k).2.2.1 = some x) (hfin : (T k).2.2.2 = false) {x : Int32} (hd : parseFieldDescriptor (T k).2.2.1 = some .int) (hl : k < fs.length) (hw : ws.set q0 (a, .inr (ci, fs.set k (.int x))) = w')
    (hdg : decode cc pc = .ok (.putfield index, 3)) (kk : ∀ (H1 : Heap) (locs1 : List Loc), va_P D vwCl w' H1 → va_D A w' → va_S A H0 H1 locs1 → W p l e R s m args below meth c H1 locs1 cells slots Q (F0 m (pc + 3) ls rest)) : W p l e R s m args below meth c H locs cells slots Q (F0 m pc ls (.int x :: .ref a :: rest)) := by
  subst hw
  exact va_put hexec hb hts hin ty0 hty hnm hown hK.1 hP hD hS0 q0 he hc k hk hlink hsame hfin hd rfl rfl hl hdg kk
end GC
theorem vp_lit {i : Int32} {n : Nat} (h : (decide (i < 0) || decide (n ≤ i.toNatClampNeg)) = false) : vp_in i n := by
  intro q
  rcases q with q | q
  · simp [q] at h
  · simp [q] at h
theorem FW_row {cy : Nat → ClassId} {a : Nat → Nat} {V : FV} : ∀ {i : Nat}, i < 13 → (FW cy a V)[6 + i]? = some (a (6 + i), .inl (cy 0, 12, .inl (V (6 + i)))) := by
  intro i h
  match i, h with
  | 0, _ => rfl | 1, _ => rfl | 2, _ => rfl | 3, _ => rfl | 4, _ => rfl | 5, _ => rfl | 6, _ => rfl | 7, _ => rfl | 8, _ => rfl | 9, _ => rfl | 10, _ => rfl | 11, _ => rfl | 12, _ => rfl
theorem FW_dry {cy : Nat → ClassId} {a : Nat → Nat} {V : FV} : ∀ {i : Nat}, i < 3 → (FW cy a V)[19 + i]? = some (a (19 + i), .inl (cy 0, 20, .inl (V (19 + i)))) := by
  intro i h
  match i, h with
  | 0, _ => rfl | 1, _ => rfl | 2, _ => rfl
theorem FW_req {cy : Nat → ClassId} {a : Nat → Nat} {V : FV} : ∀ {i : Nat}, i < 3 → (FW cy a V)[22 + i]? = some (a (22 + i), .inl (cy 0, 8, .inl (V (22 + i)))) := by
  intro i h
  match i, h with
  | 0, _ => rfl | 1, _ => rfl | 2, _ => rfl
theorem FW_reqS {cy : Nat → ClassId} {a : Nat → Nat} {V : FV} {j : Nat} {x : Int32} : ∀ {i : Nat}, i < 3 → (FW cy a V).set (22 + i) (a (22 + i), .inl (cy 0, 8, .inl (upd (V (22 + i)) j x))) = FW cy a (st V (22 + i) j x) := by
  intro i h
  match i, h with
  | 0, _ => rfl | 1, _ => rfl | 2, _ => rfl
/-! more of the ground: Math.min, Arrays.fill, worlds by permutation, switches -/
def jmin (x y : Int32) : Int32 := if y < x then y else x
def fillF (n : Nat) (f : Nat → Int32) (x : Int32) : Nat → Int32 := fun j => if j < n then x else f j
def fillV (V : FV) (k n : Nat) (x : Int32) : FV := fun a => if a = k then fillF n (V k) x else V a
def stG (G : Nat → FV) (g i j : Nat) (x : Int32) : Nat → FV := fun a => if a = g then st (G g) i j x else G a
theorem vp_all {D : va_G} {cl : List vw_C} {ws : va_W} {H : Heap} : va_P D cl ws H ↔ ∀ q ∈ ws, va_at D cl q H := by
  refine ⟨fun h q hq => ?_, fun h k q hk => h q (List.mem_of_getElem? hk)⟩
  obtain ⟨k, hk⟩ := List.getElem?_of_mem hq
  exact h k q hk
theorem vd_all {A : Nat → Prop} {ws : va_W} : va_D A ws ↔ (ws.map (fun q => q.1)).Nodup ∧ ∀ q ∈ ws, A q.1 := by
  constructor
  · intro h
    refine ⟨?_, fun q hq => ?_⟩
    · refine List.pairwise_iff_getElem.mpr (fun i j hi hj hij heq => ?_)
      rw [List.getElem_map, List.getElem_map] at heq
      have := h.1 i j _ _ (List.getElem?_eq_getElem (by simpa using hi)) (List.getElem?_eq_getElem (by simpa using hj)) heq
      omega
    · obtain ⟨k, hk⟩ := List.getElem?_of_mem hq
      exact h.2 k q hk
  · intro h
    refine ⟨fun i j p q hi hj hpq => ?_, fun k q hk => h.2 q (List.mem_of_getElem? hk)⟩
    have hn := List.pairwise_iff_getElem.mp h.1
    obtain ⟨li, ei⟩ := List.getElem?_eq_some_iff.mp hi
    obtain ⟨lj, ej⟩ := List.getElem?_eq_some_iff.mp hj
    rcases Nat.lt_trichotomy i j with c | c | c
    · exact absurd (by rw [List.getElem_map, List.getElem_map, ei, ej]; exact hpq) (hn i j (by rw [List.length_map]; exact li) (by rw [List.length_map]; exact lj) c)
    · exact c
    · exact absurd (by rw [List.getElem_map, List.getElem_map, ei, ej]; exact hpq.symm) (hn j i (by rw [List.length_map]; exact lj) (by rw [List.length_map]; exact li) c)
theorem va_in_A {ws : va_W} {sz : Nat} {q : Nat × va_E} (h : q ∈ ws) : va_A ws sz q.1 := by
  obtain ⟨k, hk⟩ := List.getElem?_of_mem h
  exact Or.inl ⟨k, q.2, hk⟩
theorem Jn.perm {D : va_G} {A : Nat → Prop} {ws wc w1 w' R : va_W} (h0 : ws.Perm (wc ++ R)) (h1 : w'.Perm (w1 ++ R)) : Jn D A ws wc w1 w' := fun H hP hD => by
  rw [vp_all] at hP
  rw [vd_all] at hD
  have hnd : ((wc ++ R).map (fun q => q.1)).Nodup := (List.Perm.nodup_iff (h0.map _)).mp hD.1
  rw [List.map_append, List.nodup_append] at hnd
  obtain ⟨n1, n2, n3⟩ := hnd
  have inC : ∀ q ∈ wc, q ∈ ws := fun q h => h0.mem_iff.mpr (List.mem_append_left _ h)
  have inR : ∀ q ∈ R, q ∈ ws := fun q h => h0.mem_iff.mpr (List.mem_append_right _ h)
  have apart : ∀ q ∈ R, q.1 < H.size ∧ ¬ va_A wc H.size q.1 := fun q h => by
    have hl := (hP q (inR q h)).lt
    refine ⟨hl, fun z => ?_⟩
    rcases z with ⟨k, e, hk⟩ | z
    · exact n3 q.1 (List.mem_map.mpr ⟨_, List.mem_of_getElem? hk, rfl⟩) q.1 (List.mem_map.mpr ⟨q, h, rfl⟩) rfl
    · omega
  refine ⟨⟨vp_all.mpr (fun q h => hP q (inC q h)), vd_all.mpr ⟨n1, fun _ _ => trivial⟩, fun q h => ?_⟩, fun H1 hk hP1 hD1 hF => ⟨?_, ?_⟩⟩
  · obtain ⟨k, e, hk⟩ := h
    exact hD.2 _ (inC _ (List.mem_of_getElem? hk))
  · rw [vp_all] at hP1 ⊢
    intro q hq
    rcases List.mem_append.mp (h1.mem_iff.mp hq) with h | h
    · exact hP1 q h
    · exact (hP q (inR q h)).kept (hk q.1 (apart q h).1 (apart q h).2)
  · rw [vd_all] at hD1 ⊢
    refine ⟨(List.Perm.nodup_iff (h1.map _)).mpr ?_, fun q hq => ?_⟩
    · rw [List.map_append, List.nodup_append]
      refine ⟨hD1.1, n2, fun x hx y hy hxy => ?_⟩
      obtain ⟨q1, g1, rfl⟩ := List.mem_map.mp hx
      obtain ⟨q2, g2, rfl⟩ := List.mem_map.mp hy
      have := hD1.2 q1 g1
      rw [hxy] at this
      exact (apart q2 g2).2 this
    · rcases List.mem_append.mp (h1.mem_iff.mp hq) with h | h
      · exact hF _ (hD1.2 q h)
      · exact hD.2 q (inR q h)
theorem NW_now {cy : Nat → ClassId} {aN : Nat → Nat → Nat} {v2 v3 : FV} {G : Nat → FV} {v1 : FV} : (NW cy aN v1 v2 G v3).Perm (FW cy (aN 1) v1 ++ (NOb aN ++ (FW cy (aN 2) v2 ++ (SW cy (aN 3) v3 ++ HW cy (fun i => aN (4 + i)) G)))) := List.perm_append_comm_assoc (NOb aN) _ _
theorem pm_3 {α : Type} (x a b c : List α) : (x ++ (a ++ (b ++ c))).Perm (b ++ (x ++ (a ++ c))) := by
  refine (List.Perm.append_left x (List.perm_append_comm_assoc a b c)).trans ?_
  exact List.perm_append_comm_assoc x b _
theorem NW_trial {cy : Nat → ClassId} {aN : Nat → Nat → Nat} {v1 v3 : FV} {G : Nat → FV} {v2 : FV} : (NW cy aN v1 v2 G v3).Perm (FW cy (aN 2) v2 ++ (NOb aN ++ (FW cy (aN 1) v1 ++ (SW cy (aN 3) v3 ++ HW cy (fun i => aN (4 + i)) G)))) := pm_3 (NOb aN) _ _ _
theorem pm_4 {α : Type} (x a b c d : List α) : (x ++ (a ++ (b ++ (c ++ d)))).Perm (c ++ (x ++ (a ++ (b ++ d)))) := by
  refine (List.Perm.append_left x (pm_3 a b c d)).trans ?_
  exact List.perm_append_comm_assoc x c _
theorem NW_script {cy : Nat → ClassId} {aN : Nat → Nat → Nat} {v1 v2 : FV} {G : Nat → FV} {v3 : FV} : (NW cy aN v1 v2 G v3).Perm (SW cy (aN 3) v3 ++ (NOb aN ++ (FW cy (aN 1) v1 ++ (FW cy (aN 2) v2 ++ HW cy (fun i => aN (4 + i)) G)))) := pm_4 (NOb aN) _ _ _ _
theorem pm_5 {α : Type} (x a b c d : List α) : (x ++ (a ++ (b ++ (c ++ d)))).Perm (d ++ (x ++ (a ++ (b ++ c)))) := by
  have h : (x ++ (a ++ (b ++ (c ++ d)))) = (x ++ (a ++ (b ++ c))) ++ d := by simp [List.append_assoc]
  rw [h]
  exact List.perm_append_comm
theorem NW_hist {cy : Nat → ClassId} {aN : Nat → Nat → Nat} {v1 v2 v3 : FV} {G : Nat → FV} : (NW cy aN v1 v2 G v3).Perm (HW cy (fun i => aN (4 + i)) G ++ (NOb aN ++ (FW cy (aN 1) v1 ++ (FW cy (aN 2) v2 ++ SW cy (aN 3) v3)))) := pm_5 (NOb aN) _ _ _ _
/-- the trial field and the text, the field first -/
theorem NW_ts {cy : Nat → ClassId} {aN : Nat → Nat → Nat} {v1 v2 v3 : FV} {G : Nat → FV} : (NW cy aN v1 v2 G v3).Perm ((FW cy (aN 2) v2 ++ SW cy (aN 3) v3) ++ (NOb aN ++ (FW cy (aN 1) v1 ++ HW cy (fun i => aN (4 + i)) G))) := by
  have h := pm_3 (NOb aN) (FW cy (aN 1) v1) (FW cy (aN 2) v2 ++ SW cy (aN 3) v3) (HW cy (fun i => aN (4 + i)) G)
  rw [List.append_assoc (FW cy (aN 2) v2)] at h
  exact h
/-- the field first, then the trial -/
theorem NW_nt {cy : Nat → ClassId} {aN : Nat → Nat → Nat} {v1 v2 v3 : FV} {G : Nat → FV} : (NW cy aN v1 v2 G v3).Perm ((FW cy (aN 1) v1 ++ FW cy (aN 2) v2) ++ (NOb aN ++ (SW cy (aN 3) v3 ++ HW cy (fun i => aN (4 + i)) G))) := by
  have h := List.perm_append_comm_assoc (NOb aN) (FW cy (aN 1) v1 ++ FW cy (aN 2) v2) (SW cy (aN 3) v3 ++ HW cy (fun i => aN (4 + i)) G)
  rw [List.append_assoc (FW cy (aN 1) v1)] at h
  exact h
theorem NW_tn {cy : Nat → ClassId} {aN : Nat → Nat → Nat} {v1 v2 v3 : FV} {G : Nat → FV} : (NW cy aN v1 v2 G v3).Perm ((FW cy (aN 2) v2 ++ FW cy (aN 1) v1) ++ (NOb aN ++ (SW cy (aN 3) v3 ++ HW cy (fun i => aN (4 + i)) G))) := NW_nt.trans (List.Perm.append_right _ List.perm_append_comm)
/-- the history, then the field -/
theorem NW_hn {cy : Nat → ClassId} {aN : Nat → Nat → Nat} {v1 v2 v3 : FV} {G : Nat → FV} : (NW cy aN v1 v2 G v3).Perm ((HW cy (fun i => aN (4 + i)) G ++ FW cy (aN 1) v1) ++ (NOb aN ++ (FW cy (aN 2) v2 ++ SW cy (aN 3) v3))) := by
  refine NW_hist.trans ?_
  rw [List.append_assoc]
  exact List.Perm.append_left _ (List.perm_append_comm_assoc (NOb aN) (FW cy (aN 1) v1) _)
section GD
variable {p : Program} {l : Launch} {e : Env} {R : Room} {s : State} {m : MethodId} {args : Array Value} {below : List Frame} {meth : Method} {c : Code} {H : Heap} {locs : List Loc} {cells slots : Nat} {Q : State → Prop}
variable {cc : ByteArray} {pc : Nat} {ls : Array Slot} {rest st0 : List Value} {D : va_G} {cy : Nat → ClassId} {A : Nat → Prop} {a : Nat} {ws w' : va_W} {H0 : Heap}
theorem g_min {x y v : Int32} (hv : jmin x y = v) {nL : Nat} (hexec : p.tables.exec = Jvm.exec) (hb : c.code = cc) (hml : c.maxLocals = nL) (hsz : ls.size = nL) {own : String} {index : Nat} (hown : s.vm.findClass own = some m.cls) (hlink : (Cond.methodLink own index Lib.Math.min.name).before args s = true) (hstat : (Cond.static Lib.Math.min.name).before args s = true) (hini : (Cond.initialized "java/lang/Math").before args s = true) (hcode : (Cond.code Lib.Math.min.name Lib.Math.min.code 2 (some .int)).before args s = true)
    (hframes : 1 ≤ R.frames) (hlocals : (rest.map fun v => v.category).sum + 13 ≤ R.locals) (hc : cells ≤ R.cells) (hs : slots ≤ R.slots) (hdg : decode cc pc = .ok (.invokestatic index, 3))
    (kk : W p l e R s m args below meth c H locs cells slots Q (F0 m (pc + 3) ls (.int v :: rest))) : W p l e R s m args below meth c H locs cells slots Q (F0 m pc ls (.int y :: .int x :: rest)) := by
  subst hv
  exact va_mmin hexec hb (hml.trans hsz.symm) hown hlink hstat hini hcode hframes hlocals hc hs hdg kk
theorem g_cast (hexec : p.tables.exec = Jvm.exec) (hb : c.code = cc) (hK : KX D cy s) (hP : va_P D vwCl ws H) (hD : va_D A ws) (hS : va_S A H0 H locs) (q0 : Nat) {n : Nat} {f : Nat → Int32} (ha : ws[q0]? = some (a, .inl (cy 2, n, .inl f))) {i x : Int32} (hin : vp_in i n) (hw : ws.set q0 (a, .inl (cy 2, n, .inl (upd f i.toNatClampNeg (vp_nar .char x)))) = w') (hdg : decode cc pc = .ok (.castore, 1))
    (kk : ∀ (H1 : Heap) (locs1 : List Loc), va_P D vwCl w' H1 → va_D A w' → va_S A H0 H1 locs1 → W p l e R s m args below meth c H1 locs1 cells slots Q (F0 m (pc + 1) ls rest)) : W p l e R s m args below meth c H locs cells slots Q (F0 m pc ls (.int x :: .int i :: .ref a :: rest)) := by
  subst hw
  exact va_cast hexec hb hK.1 hP hD hS q0 2 ha rfl hin hdg kk
theorem g_putN (hexec : p.tables.exec = Jvm.exec) (hb : c.code = cc) {own ref C host : String} {T : u_T} {N ci index : Nat} {Ts : List Cond} (hts : ∀ w ∈ Ts, w.before args s = true) (hin : ∀ w ∈ u_ws C T N, w ∈ Ts) (ty0 : Nat → FieldType) (hty : ∀ k, k < N → parseFieldDescriptor (T k).2.2.1 = some (ty0 k)) (hnm : ∀ a, a < N → ∀ b, b < N → a ≠ b → (T a).2.1 ≠ (T b).2.1) (hown : s.vm.findClass own = some m.cls) (hK : KX D cy s) (hP : va_P D vwCl ws H) (hD : va_D A ws) (hS0 : va_S A H0 H locs) (q0 : Nat) {fs : List Value} (he : ws[q0]? = some (a, .inr (ci, fs))) (hc : vwCl[ci]? = some (C, T, N)) (k : Nat) (hk : k < N) (hlink : (Cond.fieldLinkNest own index ref (T k).2.1 (T k).2.2.1 host).before args s = true) (hsame : ∀ x, s.fieldFound? (T k).1 (T k).2.1 (T k).2.2.1 = some x → s.fieldFound? ref (T k).2.1 (T k).2.2.1 = some x) (hfin : (T k).2.2.2 = false) {x : Int32} (hd : parseFieldDescriptor (T k).2.2.1 = some .int) (hl : k < fs.length) (hw : ws.set q0 (a, .inr (ci, fs.set k (.int x))) = w')
    (hdg : decode cc pc = .ok (.putfield index, 3)) (kk : ∀ (H1 : Heap) (locs1 : List Loc), va_P D vwCl w' H1 → va_D A w' → va_S A H0 H1 locs1 → W p l e R s m args below meth c H1 locs1 cells slots Q (F0 m (pc + 3) ls rest)) : W p l e R s m args below meth c H locs cells slots Q (F0 m pc ls (.int x :: .ref a :: rest)) := by
  subst hw
  exact va_putN hexec hb hts hin ty0 hty hnm hown hK.1 hP hD hS0 q0 he hc k hk hlink hsame hfin hd rfl rfl hl hdg kk
end GD
/-! what a switch's default means -/
theorem sw_ti {x : Int32} {k : Int} (K : Int32) (hK : K.toInt = k) (h : ¬ x = K) : x.toInt ≠ k := fun q => h (Int32.toInt_inj.mp (by rw [q, hK]))
def bz (y : Int32) : Option Unit := if y = 0 ∨ y = 1 then some () else none
theorem bz_some {y : Int32} {β : Type} {k : Unit → Option β} {z : β} (h : (bz y).bind k = some z) : (y = 0 ∨ y = 1) ∧ k () = some z := by
  unfold bz at h
  by_cases c : y = 0 ∨ y = 1
  · rw [if_pos c] at h; exact ⟨c, h⟩
  · rw [if_neg c] at h; cases h
end
section
theorem dX0_init_0 : decode cX0_init 0 = .ok (.aload_n 0, 1) := by decide +kernel
theorem dX0_init_1 : decode cX0_init 1 = .ok (.invokespecial 3, 3) := by decide +kernel
theorem dX0_init_4 : decode cX0_init 4 = .ok (.aload_n 0, 1) := by decide +kernel
theorem dX0_init_5 : decode cX0_init 5 = .ok (.bipush 13, 2) := by decide +kernel
theorem dX0_init_7 : decode cX0_init 7 = .ok (.bipush 12, 2) := by decide +kernel
theorem dX0_init_9 : decode cX0_init 9 = .ok (.multianewarray 9 2, 4) := by decide +kernel
theorem dX0_init_13 : decode cX0_init 13 = .ok (.putfield 11, 3) := by decide +kernel
theorem dX0_init_16 : decode cX0_init 16 = .ok (.aload_n 0, 1) := by decide +kernel
theorem dX0_init_17 : decode cX0_init 17 = .ok (.iconst 3, 1) := by decide +kernel
theorem dX0_init_18 : decode cX0_init 18 = .ok (.bipush 20, 2) := by decide +kernel
theorem dX0_init_20 : decode cX0_init 20 = .ok (.multianewarray 9 2, 4) := by decide +kernel
theorem dX0_init_24 : decode cX0_init 24 = .ok (.putfield 16, 3) := by decide +kernel
theorem dX0_init_27 : decode cX0_init 27 = .ok (.aload_n 0, 1) := by decide +kernel
theorem dX0_init_28 : decode cX0_init 28 = .ok (.iconst 3, 1) := by decide +kernel
theorem dX0_init_29 : decode cX0_init 29 = .ok (.bipush 8, 2) := by decide +kernel
theorem dX0_init_31 : decode cX0_init 31 = .ok (.multianewarray 9 2, 4) := by decide +kernel
theorem dX0_init_35 : decode cX0_init 35 = .ok (.putfield 19, 3) := by decide +kernel
theorem dX0_init_38 : decode cX0_init 38 = .ok (.aload_n 0, 1) := by decide +kernel
theorem dX0_init_39 : decode cX0_init 39 = .ok (.iconst 2, 1) := by decide +kernel
theorem dX0_init_40 : decode cX0_init 40 = .ok (.newarray .int, 2) := by decide +kernel
theorem dX0_init_42 : decode cX0_init 42 = .ok (.putfield 22, 3) := by decide +kernel
theorem dX0_init_45 : decode cX0_init 45 = .ok (.aload_n 0, 1) := by decide +kernel
theorem dX0_init_46 : decode cX0_init 46 = .ok (.bipush 12, 2) := by decide +kernel
theorem dX0_init_48 : decode cX0_init 48 = .ok (.newarray .int, 2) := by decide +kernel
theorem dX0_init_50 : decode cX0_init 50 = .ok (.putfield 26, 3) := by decide +kernel
theorem dX0_init_53 : decode cX0_init 53 = .ok (.aload_n 0, 1) := by decide +kernel
theorem dX0_init_54 : decode cX0_init 54 = .ok (.getfield 22, 3) := by decide +kernel
theorem dX0_init_57 : decode cX0_init 57 = .ok (.iconst 0, 1) := by decide +kernel
theorem dX0_init_58 : decode cX0_init 58 = .ok (.bipush 24, 2) := by decide +kernel
theorem dX0_init_60 : decode cX0_init 60 = .ok (.iastore, 1) := by decide +kernel
theorem dX0_init_61 : decode cX0_init 61 = .ok (.return_, 1) := by decide +kernel
set_option maxRecDepth 20000 in
theorem ggX0_copyFrom_X0_copyRows : GoodIn wsX0_copyFrom wsX0_copyRows := goodIn_r _ [13, 14, 15, 16, 17, 18, 19, 20, 21] (by decide +kernel) (by decide +kernel)
set_option maxRecDepth 20000 in
theorem gX0_copyFrom_X0_copyRows : GoodIn wsX0_copyFrom (va_wsS RX0 29 yX0_copyRows wsX0_copyRows) := goodIn_app (goodIn_of _ (by decide +kernel)) ggX0_copyFrom_X0_copyRows
theorem dX0_copyFrom_0 : decode cX0_copyFrom 0 = .ok (.aload_n 1, 1) := by decide +kernel
theorem dX0_copyFrom_1 : decode cX0_copyFrom 1 = .ok (.getfield 11, 3) := by decide +kernel
theorem dX0_copyFrom_4 : decode cX0_copyFrom 4 = .ok (.aload_n 0, 1) := by decide +kernel
theorem dX0_copyFrom_5 : decode cX0_copyFrom 5 = .ok (.getfield 11, 3) := by decide +kernel
theorem dX0_copyFrom_8 : decode cX0_copyFrom 8 = .ok (.invokestatic 29, 3) := by decide +kernel
theorem dX0_copyFrom_11 : decode cX0_copyFrom 11 = .ok (.aload_n 1, 1) := by decide +kernel
theorem dX0_copyFrom_12 : decode cX0_copyFrom 12 = .ok (.getfield 16, 3) := by decide +kernel
theorem dX0_copyFrom_15 : decode cX0_copyFrom 15 = .ok (.aload_n 0, 1) := by decide +kernel
theorem dX0_copyFrom_16 : decode cX0_copyFrom 16 = .ok (.getfield 16, 3) := by decide +kernel
theorem dX0_copyFrom_19 : decode cX0_copyFrom 19 = .ok (.invokestatic 29, 3) := by decide +kernel
theorem dX0_copyFrom_22 : decode cX0_copyFrom 22 = .ok (.aload_n 1, 1) := by decide +kernel
theorem dX0_copyFrom_23 : decode cX0_copyFrom 23 = .ok (.getfield 19, 3) := by decide +kernel
theorem dX0_copyFrom_26 : decode cX0_copyFrom 26 = .ok (.aload_n 0, 1) := by decide +kernel
theorem dX0_copyFrom_27 : decode cX0_copyFrom 27 = .ok (.getfield 19, 3) := by decide +kernel
theorem dX0_copyFrom_30 : decode cX0_copyFrom 30 = .ok (.invokestatic 29, 3) := by decide +kernel
theorem dX0_copyFrom_33 : decode cX0_copyFrom 33 = .ok (.aload_n 0, 1) := by decide +kernel
theorem dX0_copyFrom_34 : decode cX0_copyFrom 34 = .ok (.getfield 22, 3) := by decide +kernel
theorem dX0_copyFrom_37 : decode cX0_copyFrom 37 = .ok (.iconst 0, 1) := by decide +kernel
theorem dX0_copyFrom_38 : decode cX0_copyFrom 38 = .ok (.aload_n 1, 1) := by decide +kernel
theorem dX0_copyFrom_39 : decode cX0_copyFrom 39 = .ok (.getfield 22, 3) := by decide +kernel
theorem dX0_copyFrom_42 : decode cX0_copyFrom 42 = .ok (.iconst 0, 1) := by decide +kernel
theorem dX0_copyFrom_43 : decode cX0_copyFrom 43 = .ok (.iaload, 1) := by decide +kernel
theorem dX0_copyFrom_44 : decode cX0_copyFrom 44 = .ok (.iastore, 1) := by decide +kernel
theorem dX0_copyFrom_45 : decode cX0_copyFrom 45 = .ok (.aload_n 0, 1) := by decide +kernel
theorem dX0_copyFrom_46 : decode cX0_copyFrom 46 = .ok (.getfield 22, 3) := by decide +kernel
theorem dX0_copyFrom_49 : decode cX0_copyFrom 49 = .ok (.iconst 1, 1) := by decide +kernel
theorem dX0_copyFrom_50 : decode cX0_copyFrom 50 = .ok (.aload_n 1, 1) := by decide +kernel
theorem dX0_copyFrom_51 : decode cX0_copyFrom 51 = .ok (.getfield 22, 3) := by decide +kernel
theorem dX0_copyFrom_54 : decode cX0_copyFrom 54 = .ok (.iconst 1, 1) := by decide +kernel
theorem dX0_copyFrom_55 : decode cX0_copyFrom 55 = .ok (.iaload, 1) := by decide +kernel
theorem dX0_copyFrom_56 : decode cX0_copyFrom 56 = .ok (.iastore, 1) := by decide +kernel
theorem dX0_copyFrom_57 : decode cX0_copyFrom 57 = .ok (.aload_n 0, 1) := by decide +kernel
theorem dX0_copyFrom_58 : decode cX0_copyFrom 58 = .ok (.aload_n 1, 1) := by decide +kernel
theorem dX0_copyFrom_59 : decode cX0_copyFrom 59 = .ok (.getfield 33, 3) := by decide +kernel
theorem dX0_copyFrom_62 : decode cX0_copyFrom 62 = .ok (.putfield 33, 3) := by decide +kernel
theorem dX0_copyFrom_65 : decode cX0_copyFrom 65 = .ok (.aload_n 0, 1) := by decide +kernel
theorem dX0_copyFrom_66 : decode cX0_copyFrom 66 = .ok (.aload_n 1, 1) := by decide +kernel
theorem dX0_copyFrom_67 : decode cX0_copyFrom 67 = .ok (.getfield 37, 3) := by decide +kernel
theorem dX0_copyFrom_70 : decode cX0_copyFrom 70 = .ok (.putfield 37, 3) := by decide +kernel
theorem dX0_copyFrom_73 : decode cX0_copyFrom 73 = .ok (.aload_n 0, 1) := by decide +kernel
theorem dX0_copyFrom_74 : decode cX0_copyFrom 74 = .ok (.aload_n 1, 1) := by decide +kernel
theorem dX0_copyFrom_75 : decode cX0_copyFrom 75 = .ok (.getfield 40, 3) := by decide +kernel
theorem dX0_copyFrom_78 : decode cX0_copyFrom 78 = .ok (.putfield 40, 3) := by decide +kernel
theorem dX0_copyFrom_81 : decode cX0_copyFrom 81 = .ok (.aload_n 0, 1) := by decide +kernel
theorem dX0_copyFrom_82 : decode cX0_copyFrom 82 = .ok (.aload_n 1, 1) := by decide +kernel
theorem dX0_copyFrom_83 : decode cX0_copyFrom 83 = .ok (.getfield 43, 3) := by decide +kernel
theorem dX0_copyFrom_86 : decode cX0_copyFrom 86 = .ok (.putfield 43, 3) := by decide +kernel
theorem dX0_copyFrom_89 : decode cX0_copyFrom 89 = .ok (.aload_n 0, 1) := by decide +kernel
theorem dX0_copyFrom_90 : decode cX0_copyFrom 90 = .ok (.aload_n 1, 1) := by decide +kernel
theorem dX0_copyFrom_91 : decode cX0_copyFrom 91 = .ok (.getfield 46, 3) := by decide +kernel
theorem dX0_copyFrom_94 : decode cX0_copyFrom 94 = .ok (.putfield 46, 3) := by decide +kernel
theorem dX0_copyFrom_97 : decode cX0_copyFrom 97 = .ok (.return_, 1) := by decide +kernel
theorem dX0_copyRows_0 : decode cX0_copyRows 0 = .ok (.iconst 0, 1) := by decide +kernel
theorem dX0_copyRows_1 : decode cX0_copyRows 1 = .ok (.istore_n 2, 1) := by decide +kernel
theorem dX0_copyRows_2 : decode cX0_copyRows 2 = .ok (.iload_n 2, 1) := by decide +kernel
theorem dX0_copyRows_3 : decode cX0_copyRows 3 = .ok (.aload_n 0, 1) := by decide +kernel
theorem dX0_copyRows_4 : decode cX0_copyRows 4 = .ok (.arraylength, 1) := by decide +kernel
theorem dX0_copyRows_5 : decode cX0_copyRows 5 = .ok (.if_icmp .ge 39, 3) := by decide +kernel
theorem dX0_copyRows_8 : decode cX0_copyRows 8 = .ok (.iload_n 2, 1) := by decide +kernel
theorem dX0_copyRows_9 : decode cX0_copyRows 9 = .ok (.aload_n 1, 1) := by decide +kernel
theorem dX0_copyRows_10 : decode cX0_copyRows 10 = .ok (.arraylength, 1) := by decide +kernel
theorem dX0_copyRows_11 : decode cX0_copyRows 11 = .ok (.if_icmp .ge 33, 3) := by decide +kernel
theorem dX0_copyRows_14 : decode cX0_copyRows 14 = .ok (.aload_n 0, 1) := by decide +kernel
theorem dX0_copyRows_15 : decode cX0_copyRows 15 = .ok (.iload_n 2, 1) := by decide +kernel
theorem dX0_copyRows_16 : decode cX0_copyRows 16 = .ok (.aaload, 1) := by decide +kernel
theorem dX0_copyRows_17 : decode cX0_copyRows 17 = .ok (.arraylength, 1) := by decide +kernel
theorem dX0_copyRows_18 : decode cX0_copyRows 18 = .ok (.aload_n 1, 1) := by decide +kernel
theorem dX0_copyRows_19 : decode cX0_copyRows 19 = .ok (.iload_n 2, 1) := by decide +kernel
theorem dX0_copyRows_20 : decode cX0_copyRows 20 = .ok (.aaload, 1) := by decide +kernel
theorem dX0_copyRows_21 : decode cX0_copyRows 21 = .ok (.arraylength, 1) := by decide +kernel
theorem dX0_copyRows_22 : decode cX0_copyRows 22 = .ok (.invokestatic 49, 3) := by decide +kernel
theorem dX0_copyRows_25 : decode cX0_copyRows 25 = .ok (.istore_n 3, 1) := by decide +kernel
theorem dX0_copyRows_26 : decode cX0_copyRows 26 = .ok (.aload_n 0, 1) := by decide +kernel
theorem dX0_copyRows_27 : decode cX0_copyRows 27 = .ok (.iload_n 2, 1) := by decide +kernel
theorem dX0_copyRows_28 : decode cX0_copyRows 28 = .ok (.aaload, 1) := by decide +kernel
theorem dX0_copyRows_29 : decode cX0_copyRows 29 = .ok (.iconst 0, 1) := by decide +kernel
theorem dX0_copyRows_30 : decode cX0_copyRows 30 = .ok (.aload_n 1, 1) := by decide +kernel
theorem dX0_copyRows_31 : decode cX0_copyRows 31 = .ok (.iload_n 2, 1) := by decide +kernel
theorem dX0_copyRows_32 : decode cX0_copyRows 32 = .ok (.aaload, 1) := by decide +kernel
theorem dX0_copyRows_33 : decode cX0_copyRows 33 = .ok (.iconst 0, 1) := by decide +kernel
theorem dX0_copyRows_34 : decode cX0_copyRows 34 = .ok (.iload_n 3, 1) := by decide +kernel
theorem dX0_copyRows_35 : decode cX0_copyRows 35 = .ok (.invokestatic 55, 3) := by decide +kernel
theorem dX0_copyRows_38 : decode cX0_copyRows 38 = .ok (.iinc 2 1, 3) := by decide +kernel
theorem dX0_copyRows_41 : decode cX0_copyRows 41 = .ok (.goto (-39), 3) := by decide +kernel
theorem dX0_copyRows_44 : decode cX0_copyRows 44 = .ok (.return_, 1) := by decide +kernel
theorem dX0_isWell_0 : decode cX0_isWell 0 = .ok (.iload_n 1, 1) := by decide +kernel
theorem dX0_isWell_1 : decode cX0_isWell 1 = .ok (.ifCond .lt 15, 3) := by decide +kernel
theorem dX0_isWell_4 : decode cX0_isWell 4 = .ok (.iload_n 1, 1) := by decide +kernel
theorem dX0_isWell_5 : decode cX0_isWell 5 = .ok (.aload_n 0, 1) := by decide +kernel
theorem dX0_isWell_6 : decode cX0_isWell 6 = .ok (.getfield 33, 3) := by decide +kernel
theorem dX0_isWell_9 : decode cX0_isWell 9 = .ok (.if_icmp .ge 7, 3) := by decide +kernel
theorem dX0_isWell_12 : decode cX0_isWell 12 = .ok (.iconst 1, 1) := by decide +kernel
theorem dX0_isWell_13 : decode cX0_isWell 13 = .ok (.goto 4, 3) := by decide +kernel
theorem dX0_isWell_16 : decode cX0_isWell 16 = .ok (.iconst 0, 1) := by decide +kernel
theorem dX0_isWell_17 : decode cX0_isWell 17 = .ok (.ireturn, 1) := by decide +kernel
theorem dX0_isPlace_0 : decode cX0_isPlace 0 = .ok (.iload_n 1, 1) := by decide +kernel
theorem dX0_isPlace_1 : decode cX0_isPlace 1 = .ok (.iconst 1, 1) := by decide +kernel
theorem dX0_isPlace_2 : decode cX0_isPlace 2 = .ok (.if_icmp .lt 15, 3) := by decide +kernel
theorem dX0_isPlace_5 : decode cX0_isPlace 5 = .ok (.iload_n 1, 1) := by decide +kernel
theorem dX0_isPlace_6 : decode cX0_isPlace 6 = .ok (.aload_n 0, 1) := by decide +kernel
theorem dX0_isPlace_7 : decode cX0_isPlace 7 = .ok (.getfield 40, 3) := by decide +kernel
theorem dX0_isPlace_10 : decode cX0_isPlace 10 = .ok (.if_icmp .gt 7, 3) := by decide +kernel
theorem dX0_isPlace_13 : decode cX0_isPlace 13 = .ok (.iconst 1, 1) := by decide +kernel
theorem dX0_isPlace_14 : decode cX0_isPlace 14 = .ok (.goto 4, 3) := by decide +kernel
theorem dX0_isPlace_17 : decode cX0_isPlace 17 = .ok (.iconst 0, 1) := by decide +kernel
theorem dX0_isPlace_18 : decode cX0_isPlace 18 = .ok (.ireturn, 1) := by decide +kernel
theorem dX0_sumOf_0 : decode cX0_sumOf 0 = .ok (.iconst 0, 1) := by decide +kernel
theorem dX0_sumOf_1 : decode cX0_sumOf 1 = .ok (.istore_n 2, 1) := by decide +kernel
theorem dX0_sumOf_2 : decode cX0_sumOf 2 = .ok (.iconst 0, 1) := by decide +kernel
theorem dX0_sumOf_3 : decode cX0_sumOf 3 = .ok (.istore_n 3, 1) := by decide +kernel
theorem dX0_sumOf_4 : decode cX0_sumOf 4 = .ok (.iload_n 3, 1) := by decide +kernel
theorem dX0_sumOf_5 : decode cX0_sumOf 5 = .ok (.aload_n 0, 1) := by decide +kernel
theorem dX0_sumOf_6 : decode cX0_sumOf 6 = .ok (.getfield 33, 3) := by decide +kernel
theorem dX0_sumOf_9 : decode cX0_sumOf 9 = .ok (.if_icmp .ge 20, 3) := by decide +kernel
theorem dX0_sumOf_12 : decode cX0_sumOf 12 = .ok (.iload_n 2, 1) := by decide +kernel
theorem dX0_sumOf_13 : decode cX0_sumOf 13 = .ok (.aload_n 0, 1) := by decide +kernel
theorem dX0_sumOf_14 : decode cX0_sumOf 14 = .ok (.getfield 11, 3) := by decide +kernel
theorem dX0_sumOf_17 : decode cX0_sumOf 17 = .ok (.iload_n 1, 1) := by decide +kernel
theorem dX0_sumOf_18 : decode cX0_sumOf 18 = .ok (.aaload, 1) := by decide +kernel
theorem dX0_sumOf_19 : decode cX0_sumOf 19 = .ok (.iload_n 3, 1) := by decide +kernel
theorem dX0_sumOf_20 : decode cX0_sumOf 20 = .ok (.iaload, 1) := by decide +kernel
theorem dX0_sumOf_21 : decode cX0_sumOf 21 = .ok (.iadd, 1) := by decide +kernel
theorem dX0_sumOf_22 : decode cX0_sumOf 22 = .ok (.istore_n 2, 1) := by decide +kernel
theorem dX0_sumOf_23 : decode cX0_sumOf 23 = .ok (.iinc 3 1, 3) := by decide +kernel
theorem dX0_sumOf_26 : decode cX0_sumOf 26 = .ok (.goto (-22), 3) := by decide +kernel
theorem dX0_sumOf_29 : decode cX0_sumOf 29 = .ok (.iload_n 2, 1) := by decide +kernel
theorem dX0_sumOf_30 : decode cX0_sumOf 30 = .ok (.ireturn, 1) := by decide +kernel
theorem dX0_timeOfDay_0 : decode cX0_timeOfDay 0 = .ok (.aload_n 0, 1) := by decide +kernel
theorem dX0_timeOfDay_1 : decode cX0_timeOfDay 1 = .ok (.getfield 22, 3) := by decide +kernel
theorem dX0_timeOfDay_4 : decode cX0_timeOfDay 4 = .ok (.iconst 0, 1) := by decide +kernel
theorem dX0_timeOfDay_5 : decode cX0_timeOfDay 5 = .ok (.iaload, 1) := by decide +kernel
theorem dX0_timeOfDay_6 : decode cX0_timeOfDay 6 = .ok (.istore_n 1, 1) := by decide +kernel
theorem dX0_timeOfDay_7 : decode cX0_timeOfDay 7 = .ok (.iload_n 1, 1) := by decide +kernel
theorem dX0_timeOfDay_8 : decode cX0_timeOfDay 8 = .ok (.ifCond .le 12, 3) := by decide +kernel
theorem dX0_timeOfDay_11 : decode cX0_timeOfDay 11 = .ok (.aload_n 0, 1) := by decide +kernel
theorem dX0_timeOfDay_12 : decode cX0_timeOfDay 12 = .ok (.getfield 43, 3) := by decide +kernel
theorem dX0_timeOfDay_15 : decode cX0_timeOfDay 15 = .ok (.iload_n 1, 1) := by decide +kernel
theorem dX0_timeOfDay_16 : decode cX0_timeOfDay 16 = .ok (.irem, 1) := by decide +kernel
theorem dX0_timeOfDay_17 : decode cX0_timeOfDay 17 = .ok (.goto 4, 3) := by decide +kernel
theorem dX0_timeOfDay_20 : decode cX0_timeOfDay 20 = .ok (.iconst 0, 1) := by decide +kernel
theorem dX0_timeOfDay_21 : decode cX0_timeOfDay 21 = .ok (.ireturn, 1) := by decide +kernel
set_option maxRecDepth 20000 in
theorem ggX0_addWell_X0_isWell : GoodIn wsX0_addWell wsX0_isWell := goodIn_r _ [7, 1, 8, 9, 10, 11, 12, 13, 14, 15, 16, 17] (by decide +kernel) (by decide +kernel)
set_option maxRecDepth 20000 in
theorem gX0_addWell_X0_isWell : GoodIn wsX0_addWell (wsV RX0 61 RX0 yX0_isWell wsX0_isWell) := goodIn_app (goodIn_of _ (by decide +kernel)) ggX0_addWell_X0_isWell
theorem dX0_addWell_0 : decode cX0_addWell 0 = .ok (.aload_n 0, 1) := by decide +kernel
theorem dX0_addWell_1 : decode cX0_addWell 1 = .ok (.getfield 33, 3) := by decide +kernel
theorem dX0_addWell_4 : decode cX0_addWell 4 = .ok (.ifCond .ne 16, 3) := by decide +kernel
theorem dX0_addWell_7 : decode cX0_addWell 7 = .ok (.iload_n 1, 1) := by decide +kernel
theorem dX0_addWell_8 : decode cX0_addWell 8 = .ok (.iconst (-1), 1) := by decide +kernel
theorem dX0_addWell_9 : decode cX0_addWell 9 = .ok (.if_icmp .ne 7, 3) := by decide +kernel
theorem dX0_addWell_12 : decode cX0_addWell 12 = .ok (.iconst 1, 1) := by decide +kernel
theorem dX0_addWell_13 : decode cX0_addWell 13 = .ok (.goto 12, 3) := by decide +kernel
theorem dX0_addWell_16 : decode cX0_addWell 16 = .ok (.iconst 0, 1) := by decide +kernel
theorem dX0_addWell_17 : decode cX0_addWell 17 = .ok (.goto 8, 3) := by decide +kernel
theorem dX0_addWell_20 : decode cX0_addWell 20 = .ok (.aload_n 0, 1) := by decide +kernel
theorem dX0_addWell_21 : decode cX0_addWell 21 = .ok (.iload_n 1, 1) := by decide +kernel
theorem dX0_addWell_22 : decode cX0_addWell 22 = .ok (.invokevirtual 61, 3) := by decide +kernel
theorem dX0_addWell_25 : decode cX0_addWell 25 = .ok (.istore 5, 2) := by decide +kernel
theorem dX0_addWell_27 : decode cX0_addWell 27 = .ok (.iload 5, 2) := by decide +kernel
theorem dX0_addWell_29 : decode cX0_addWell 29 = .ok (.ifCond .eq 38, 3) := by decide +kernel
theorem dX0_addWell_32 : decode cX0_addWell 32 = .ok (.iload_n 2, 1) := by decide +kernel
theorem dX0_addWell_33 : decode cX0_addWell 33 = .ok (.iconst 1, 1) := by decide +kernel
theorem dX0_addWell_34 : decode cX0_addWell 34 = .ok (.if_icmp .lt 33, 3) := by decide +kernel
theorem dX0_addWell_37 : decode cX0_addWell 37 = .ok (.iload_n 2, 1) := by decide +kernel
theorem dX0_addWell_38 : decode cX0_addWell 38 = .ok (.sipush 1000, 3) := by decide +kernel
theorem dX0_addWell_41 : decode cX0_addWell 41 = .ok (.if_icmp .gt 26, 3) := by decide +kernel
theorem dX0_addWell_44 : decode cX0_addWell 44 = .ok (.iload_n 3, 1) := by decide +kernel
theorem dX0_addWell_45 : decode cX0_addWell 45 = .ok (.ifCond .lt 22, 3) := by decide +kernel
theorem dX0_addWell_48 : decode cX0_addWell 48 = .ok (.iload_n 3, 1) := by decide +kernel
theorem dX0_addWell_49 : decode cX0_addWell 49 = .ok (.bipush 100, 2) := by decide +kernel
theorem dX0_addWell_51 : decode cX0_addWell 51 = .ok (.if_icmp .gt 16, 3) := by decide +kernel
theorem dX0_addWell_54 : decode cX0_addWell 54 = .ok (.iload 4, 2) := by decide +kernel
theorem dX0_addWell_56 : decode cX0_addWell 56 = .ok (.ifCond .lt 11, 3) := by decide +kernel
theorem dX0_addWell_59 : decode cX0_addWell 59 = .ok (.iload 4, 2) := by decide +kernel
theorem dX0_addWell_61 : decode cX0_addWell 61 = .ok (.sipush 1000, 3) := by decide +kernel
theorem dX0_addWell_64 : decode cX0_addWell 64 = .ok (.if_icmp .le 5, 3) := by decide +kernel
theorem dX0_addWell_67 : decode cX0_addWell 67 = .ok (.iconst (-1), 1) := by decide +kernel
theorem dX0_addWell_68 : decode cX0_addWell 68 = .ok (.ireturn, 1) := by decide +kernel
theorem dX0_addWell_69 : decode cX0_addWell 69 = .ok (.aload_n 0, 1) := by decide +kernel
theorem dX0_addWell_70 : decode cX0_addWell 70 = .ok (.getfield 33, 3) := by decide +kernel
theorem dX0_addWell_73 : decode cX0_addWell 73 = .ok (.bipush 12, 2) := by decide +kernel
theorem dX0_addWell_75 : decode cX0_addWell 75 = .ok (.if_icmp .lt 6, 3) := by decide +kernel
theorem dX0_addWell_78 : decode cX0_addWell 78 = .ok (.bipush (-3), 2) := by decide +kernel
theorem dX0_addWell_80 : decode cX0_addWell 80 = .ok (.ireturn, 1) := by decide +kernel
theorem dX0_addWell_81 : decode cX0_addWell 81 = .ok (.aload_n 0, 1) := by decide +kernel
theorem dX0_addWell_82 : decode cX0_addWell 82 = .ok (.getfield 11, 3) := by decide +kernel
theorem dX0_addWell_85 : decode cX0_addWell 85 = .ok (.iconst 0, 1) := by decide +kernel
theorem dX0_addWell_86 : decode cX0_addWell 86 = .ok (.aaload, 1) := by decide +kernel
theorem dX0_addWell_87 : decode cX0_addWell 87 = .ok (.aload_n 0, 1) := by decide +kernel
theorem dX0_addWell_88 : decode cX0_addWell 88 = .ok (.getfield 33, 3) := by decide +kernel
theorem dX0_addWell_91 : decode cX0_addWell 91 = .ok (.iload_n 1, 1) := by decide +kernel
theorem dX0_addWell_92 : decode cX0_addWell 92 = .ok (.iastore, 1) := by decide +kernel
theorem dX0_addWell_93 : decode cX0_addWell 93 = .ok (.aload_n 0, 1) := by decide +kernel
theorem dX0_addWell_94 : decode cX0_addWell 94 = .ok (.getfield 11, 3) := by decide +kernel
theorem dX0_addWell_97 : decode cX0_addWell 97 = .ok (.iconst 1, 1) := by decide +kernel
theorem dX0_addWell_98 : decode cX0_addWell 98 = .ok (.aaload, 1) := by decide +kernel
theorem dX0_addWell_99 : decode cX0_addWell 99 = .ok (.aload_n 0, 1) := by decide +kernel
theorem dX0_addWell_100 : decode cX0_addWell 100 = .ok (.getfield 33, 3) := by decide +kernel
theorem dX0_addWell_103 : decode cX0_addWell 103 = .ok (.iload_n 2, 1) := by decide +kernel
theorem dX0_addWell_104 : decode cX0_addWell 104 = .ok (.iastore, 1) := by decide +kernel
theorem dX0_addWell_105 : decode cX0_addWell 105 = .ok (.aload_n 0, 1) := by decide +kernel
theorem dX0_addWell_106 : decode cX0_addWell 106 = .ok (.getfield 11, 3) := by decide +kernel
theorem dX0_addWell_109 : decode cX0_addWell 109 = .ok (.iconst 2, 1) := by decide +kernel
theorem dX0_addWell_110 : decode cX0_addWell 110 = .ok (.aaload, 1) := by decide +kernel
theorem dX0_addWell_111 : decode cX0_addWell 111 = .ok (.aload_n 0, 1) := by decide +kernel
theorem dX0_addWell_112 : decode cX0_addWell 112 = .ok (.getfield 33, 3) := by decide +kernel
theorem dX0_addWell_115 : decode cX0_addWell 115 = .ok (.iload_n 3, 1) := by decide +kernel
theorem dX0_addWell_116 : decode cX0_addWell 116 = .ok (.iastore, 1) := by decide +kernel
theorem dX0_addWell_117 : decode cX0_addWell 117 = .ok (.aload_n 0, 1) := by decide +kernel
theorem dX0_addWell_118 : decode cX0_addWell 118 = .ok (.getfield 11, 3) := by decide +kernel
theorem dX0_addWell_121 : decode cX0_addWell 121 = .ok (.iconst 3, 1) := by decide +kernel
theorem dX0_addWell_122 : decode cX0_addWell 122 = .ok (.aaload, 1) := by decide +kernel
theorem dX0_addWell_123 : decode cX0_addWell 123 = .ok (.aload_n 0, 1) := by decide +kernel
theorem dX0_addWell_124 : decode cX0_addWell 124 = .ok (.getfield 33, 3) := by decide +kernel
theorem dX0_addWell_127 : decode cX0_addWell 127 = .ok (.iload 4, 2) := by decide +kernel
theorem dX0_addWell_129 : decode cX0_addWell 129 = .ok (.iastore, 1) := by decide +kernel
theorem dX0_addWell_130 : decode cX0_addWell 130 = .ok (.aload_n 0, 1) := by decide +kernel
theorem dX0_addWell_131 : decode cX0_addWell 131 = .ok (.iload_n 1, 1) := by decide +kernel
theorem dX0_addWell_132 : decode cX0_addWell 132 = .ok (.invokevirtual 61, 3) := by decide +kernel
theorem dX0_addWell_135 : decode cX0_addWell 135 = .ok (.ifCond .eq 16, 3) := by decide +kernel
theorem dX0_addWell_138 : decode cX0_addWell 138 = .ok (.aload_n 0, 1) := by decide +kernel
theorem dX0_addWell_139 : decode cX0_addWell 139 = .ok (.getfield 11, 3) := by decide +kernel
theorem dX0_addWell_142 : decode cX0_addWell 142 = .ok (.bipush 12, 2) := by decide +kernel
theorem dX0_addWell_144 : decode cX0_addWell 144 = .ok (.aaload, 1) := by decide +kernel
theorem dX0_addWell_145 : decode cX0_addWell 145 = .ok (.iload_n 1, 1) := by decide +kernel
theorem dX0_addWell_146 : decode cX0_addWell 146 = .ok (.dup2, 1) := by decide +kernel
theorem dX0_addWell_147 : decode cX0_addWell 147 = .ok (.iaload, 1) := by decide +kernel
theorem dX0_addWell_148 : decode cX0_addWell 148 = .ok (.iconst 1, 1) := by decide +kernel
theorem dX0_addWell_149 : decode cX0_addWell 149 = .ok (.iadd, 1) := by decide +kernel
theorem dX0_addWell_150 : decode cX0_addWell 150 = .ok (.iastore, 1) := by decide +kernel
theorem dX0_addWell_151 : decode cX0_addWell 151 = .ok (.aload_n 0, 1) := by decide +kernel
theorem dX0_addWell_152 : decode cX0_addWell 152 = .ok (.dup, 1) := by decide +kernel
theorem dX0_addWell_153 : decode cX0_addWell 153 = .ok (.getfield 33, 3) := by decide +kernel
theorem dX0_addWell_156 : decode cX0_addWell 156 = .ok (.dup_x1, 1) := by decide +kernel
theorem dX0_addWell_157 : decode cX0_addWell 157 = .ok (.iconst 1, 1) := by decide +kernel
theorem dX0_addWell_158 : decode cX0_addWell 158 = .ok (.iadd, 1) := by decide +kernel
theorem dX0_addWell_159 : decode cX0_addWell 159 = .ok (.putfield 33, 3) := by decide +kernel
theorem dX0_addWell_162 : decode cX0_addWell 162 = .ok (.ireturn, 1) := by decide +kernel
set_option maxRecDepth 20000 in
theorem ggX0_wellAbove_X0_isWell : GoodIn wsX0_wellAbove wsX0_isWell := goodIn_r _ [10, 11, 12, 13, 14, 15, 16, 17, 18, 19, 20, 21] (by decide +kernel) (by decide +kernel)
set_option maxRecDepth 20000 in
theorem gX0_wellAbove_X0_isWell : GoodIn wsX0_wellAbove (wsV RX0 61 RX0 yX0_isWell wsX0_isWell) := goodIn_app (goodIn_of _ (by decide +kernel)) ggX0_wellAbove_X0_isWell
theorem dX0_wellAbove_0 : decode cX0_wellAbove 0 = .ok (.iload_n 2, 1) := by decide +kernel
theorem dX0_wellAbove_1 : decode cX0_wellAbove 1 = .ok (.bipush 12, 2) := by decide +kernel
theorem dX0_wellAbove_3 : decode cX0_wellAbove 3 = .ok (.invokestatic 49, 3) := by decide +kernel
theorem dX0_wellAbove_6 : decode cX0_wellAbove 6 = .ok (.istore_n 3, 1) := by decide +kernel
theorem dX0_wellAbove_7 : decode cX0_wellAbove 7 = .ok (.aload_n 0, 1) := by decide +kernel
theorem dX0_wellAbove_8 : decode cX0_wellAbove 8 = .ok (.getfield 11, 3) := by decide +kernel
theorem dX0_wellAbove_11 : decode cX0_wellAbove 11 = .ok (.iconst 0, 1) := by decide +kernel
theorem dX0_wellAbove_12 : decode cX0_wellAbove 12 = .ok (.aaload, 1) := by decide +kernel
theorem dX0_wellAbove_13 : decode cX0_wellAbove 13 = .ok (.iload_n 1, 1) := by decide +kernel
theorem dX0_wellAbove_14 : decode cX0_wellAbove 14 = .ok (.iaload, 1) := by decide +kernel
theorem dX0_wellAbove_15 : decode cX0_wellAbove 15 = .ok (.istore 4, 2) := by decide +kernel
theorem dX0_wellAbove_17 : decode cX0_wellAbove 17 = .ok (.iconst 0, 1) := by decide +kernel
theorem dX0_wellAbove_18 : decode cX0_wellAbove 18 = .ok (.istore 5, 2) := by decide +kernel
theorem dX0_wellAbove_20 : decode cX0_wellAbove 20 = .ok (.iload 5, 2) := by decide +kernel
theorem dX0_wellAbove_22 : decode cX0_wellAbove 22 = .ok (.iload_n 3, 1) := by decide +kernel
theorem dX0_wellAbove_23 : decode cX0_wellAbove 23 = .ok (.if_icmp .ge 29, 3) := by decide +kernel
theorem dX0_wellAbove_26 : decode cX0_wellAbove 26 = .ok (.aload_n 0, 1) := by decide +kernel
theorem dX0_wellAbove_27 : decode cX0_wellAbove 27 = .ok (.iload 4, 2) := by decide +kernel
theorem dX0_wellAbove_29 : decode cX0_wellAbove 29 = .ok (.invokevirtual 61, 3) := by decide +kernel
theorem dX0_wellAbove_32 : decode cX0_wellAbove 32 = .ok (.ifCond .eq 20, 3) := by decide +kernel
theorem dX0_wellAbove_35 : decode cX0_wellAbove 35 = .ok (.aload_n 0, 1) := by decide +kernel
theorem dX0_wellAbove_36 : decode cX0_wellAbove 36 = .ok (.getfield 11, 3) := by decide +kernel
theorem dX0_wellAbove_39 : decode cX0_wellAbove 39 = .ok (.iconst 0, 1) := by decide +kernel
theorem dX0_wellAbove_40 : decode cX0_wellAbove 40 = .ok (.aaload, 1) := by decide +kernel
theorem dX0_wellAbove_41 : decode cX0_wellAbove 41 = .ok (.iload 4, 2) := by decide +kernel
theorem dX0_wellAbove_43 : decode cX0_wellAbove 43 = .ok (.iaload, 1) := by decide +kernel
theorem dX0_wellAbove_44 : decode cX0_wellAbove 44 = .ok (.istore 4, 2) := by decide +kernel
theorem dX0_wellAbove_46 : decode cX0_wellAbove 46 = .ok (.iinc 5 1, 3) := by decide +kernel
theorem dX0_wellAbove_49 : decode cX0_wellAbove 49 = .ok (.goto (-29), 3) := by decide +kernel
theorem dX0_wellAbove_52 : decode cX0_wellAbove 52 = .ok (.iload 4, 2) := by decide +kernel
theorem dX0_wellAbove_54 : decode cX0_wellAbove 54 = .ok (.ireturn, 1) := by decide +kernel
set_option maxRecDepth 20000 in
theorem ggX0_addDrought_X0_isWell : GoodIn wsX0_addDrought wsX0_isWell := goodIn_r _ [9, 10, 11, 12, 13, 14, 15, 16, 17, 18, 19, 20] (by decide +kernel) (by decide +kernel)
set_option maxRecDepth 20000 in
theorem gX0_addDrought_X0_isWell : GoodIn wsX0_addDrought (wsV RX0 61 RX0 yX0_isWell wsX0_isWell) := goodIn_app (goodIn_of _ (by decide +kernel)) ggX0_addDrought_X0_isWell
theorem dX0_addDrought_0 : decode cX0_addDrought 0 = .ok (.aload_n 0, 1) := by decide +kernel
theorem dX0_addDrought_1 : decode cX0_addDrought 1 = .ok (.iload_n 1, 1) := by decide +kernel
theorem dX0_addDrought_2 : decode cX0_addDrought 2 = .ok (.invokevirtual 61, 3) := by decide +kernel
theorem dX0_addDrought_5 : decode cX0_addDrought 5 = .ok (.ifCond .eq 28, 3) := by decide +kernel
theorem dX0_addDrought_8 : decode cX0_addDrought 8 = .ok (.iload_n 2, 1) := by decide +kernel
theorem dX0_addDrought_9 : decode cX0_addDrought 9 = .ok (.aload_n 0, 1) := by decide +kernel
theorem dX0_addDrought_10 : decode cX0_addDrought 10 = .ok (.getfield 43, 3) := by decide +kernel
theorem dX0_addDrought_13 : decode cX0_addDrought 13 = .ok (.if_icmp .le 20, 3) := by decide +kernel
theorem dX0_addDrought_16 : decode cX0_addDrought 16 = .ok (.iload_n 2, 1) := by decide +kernel
theorem dX0_addDrought_17 : decode cX0_addDrought 17 = .ok (.ldc 65, 2) := by decide +kernel
theorem dX0_addDrought_19 : decode cX0_addDrought 19 = .ok (.if_icmp .gt 14, 3) := by decide +kernel
theorem dX0_addDrought_22 : decode cX0_addDrought 22 = .ok (.iload_n 3, 1) := by decide +kernel
theorem dX0_addDrought_23 : decode cX0_addDrought 23 = .ok (.iload_n 2, 1) := by decide +kernel
theorem dX0_addDrought_24 : decode cX0_addDrought 24 = .ok (.if_icmp .lt 9, 3) := by decide +kernel
theorem dX0_addDrought_27 : decode cX0_addDrought 27 = .ok (.iload_n 3, 1) := by decide +kernel
theorem dX0_addDrought_28 : decode cX0_addDrought 28 = .ok (.ldc 65, 2) := by decide +kernel
theorem dX0_addDrought_30 : decode cX0_addDrought 30 = .ok (.if_icmp .le 5, 3) := by decide +kernel
theorem dX0_addDrought_33 : decode cX0_addDrought 33 = .ok (.iconst (-1), 1) := by decide +kernel
theorem dX0_addDrought_34 : decode cX0_addDrought 34 = .ok (.ireturn, 1) := by decide +kernel
theorem dX0_addDrought_35 : decode cX0_addDrought 35 = .ok (.aload_n 0, 1) := by decide +kernel
theorem dX0_addDrought_36 : decode cX0_addDrought 36 = .ok (.getfield 37, 3) := by decide +kernel
theorem dX0_addDrought_39 : decode cX0_addDrought 39 = .ok (.bipush 20, 2) := by decide +kernel
theorem dX0_addDrought_41 : decode cX0_addDrought 41 = .ok (.if_icmp .lt 6, 3) := by decide +kernel
theorem dX0_addDrought_44 : decode cX0_addDrought 44 = .ok (.bipush (-3), 2) := by decide +kernel
theorem dX0_addDrought_46 : decode cX0_addDrought 46 = .ok (.ireturn, 1) := by decide +kernel
theorem dX0_addDrought_47 : decode cX0_addDrought 47 = .ok (.aload_n 0, 1) := by decide +kernel
theorem dX0_addDrought_48 : decode cX0_addDrought 48 = .ok (.getfield 16, 3) := by decide +kernel
theorem dX0_addDrought_51 : decode cX0_addDrought 51 = .ok (.iconst 0, 1) := by decide +kernel
theorem dX0_addDrought_52 : decode cX0_addDrought 52 = .ok (.aaload, 1) := by decide +kernel
theorem dX0_addDrought_53 : decode cX0_addDrought 53 = .ok (.aload_n 0, 1) := by decide +kernel
theorem dX0_addDrought_54 : decode cX0_addDrought 54 = .ok (.getfield 37, 3) := by decide +kernel
theorem dX0_addDrought_57 : decode cX0_addDrought 57 = .ok (.iload_n 1, 1) := by decide +kernel
theorem dX0_addDrought_58 : decode cX0_addDrought 58 = .ok (.iastore, 1) := by decide +kernel
theorem dX0_addDrought_59 : decode cX0_addDrought 59 = .ok (.aload_n 0, 1) := by decide +kernel
theorem dX0_addDrought_60 : decode cX0_addDrought 60 = .ok (.getfield 16, 3) := by decide +kernel
theorem dX0_addDrought_63 : decode cX0_addDrought 63 = .ok (.iconst 1, 1) := by decide +kernel
theorem dX0_addDrought_64 : decode cX0_addDrought 64 = .ok (.aaload, 1) := by decide +kernel
theorem dX0_addDrought_65 : decode cX0_addDrought 65 = .ok (.aload_n 0, 1) := by decide +kernel
theorem dX0_addDrought_66 : decode cX0_addDrought 66 = .ok (.getfield 37, 3) := by decide +kernel
theorem dX0_addDrought_69 : decode cX0_addDrought 69 = .ok (.iload_n 2, 1) := by decide +kernel
theorem dX0_addDrought_70 : decode cX0_addDrought 70 = .ok (.iastore, 1) := by decide +kernel
theorem dX0_addDrought_71 : decode cX0_addDrought 71 = .ok (.aload_n 0, 1) := by decide +kernel
theorem dX0_addDrought_72 : decode cX0_addDrought 72 = .ok (.getfield 16, 3) := by decide +kernel
theorem dX0_addDrought_75 : decode cX0_addDrought 75 = .ok (.iconst 2, 1) := by decide +kernel
theorem dX0_addDrought_76 : decode cX0_addDrought 76 = .ok (.aaload, 1) := by decide +kernel
theorem dX0_addDrought_77 : decode cX0_addDrought 77 = .ok (.aload_n 0, 1) := by decide +kernel
theorem dX0_addDrought_78 : decode cX0_addDrought 78 = .ok (.getfield 37, 3) := by decide +kernel
theorem dX0_addDrought_81 : decode cX0_addDrought 81 = .ok (.iload_n 3, 1) := by decide +kernel
theorem dX0_addDrought_82 : decode cX0_addDrought 82 = .ok (.iastore, 1) := by decide +kernel
theorem dX0_addDrought_83 : decode cX0_addDrought 83 = .ok (.aload_n 0, 1) := by decide +kernel
theorem dX0_addDrought_84 : decode cX0_addDrought 84 = .ok (.dup, 1) := by decide +kernel
theorem dX0_addDrought_85 : decode cX0_addDrought 85 = .ok (.getfield 37, 3) := by decide +kernel
theorem dX0_addDrought_88 : decode cX0_addDrought 88 = .ok (.dup_x1, 1) := by decide +kernel
theorem dX0_addDrought_89 : decode cX0_addDrought 89 = .ok (.iconst 1, 1) := by decide +kernel
theorem dX0_addDrought_90 : decode cX0_addDrought 90 = .ok (.iadd, 1) := by decide +kernel
theorem dX0_addDrought_91 : decode cX0_addDrought 91 = .ok (.putfield 37, 3) := by decide +kernel
theorem dX0_addDrought_94 : decode cX0_addDrought 94 = .ok (.ireturn, 1) := by decide +kernel
set_option maxRecDepth 20000 in
theorem ggX0_isDry_X0_dryWells : GoodIn wsX0_isDry wsX0_dryWells := goodIn_r _ [5, 6, 7, 8, 9, 10, 11, 12, 13, 14, 15, 16, 17] (by decide +kernel) (by decide +kernel)
set_option maxRecDepth 20000 in
theorem gX0_isDry_X0_dryWells : GoodIn wsX0_isDry (wsV RX0 66 RX0 yX0_dryWells wsX0_dryWells) := goodIn_app (goodIn_of _ (by decide +kernel)) ggX0_isDry_X0_dryWells
theorem dX0_isDry_0 : decode cX0_isDry 0 = .ok (.aload_n 0, 1) := by decide +kernel
theorem dX0_isDry_1 : decode cX0_isDry 1 = .ok (.iload_n 2, 1) := by decide +kernel
theorem dX0_isDry_2 : decode cX0_isDry 2 = .ok (.invokevirtual 66, 3) := by decide +kernel
theorem dX0_isDry_5 : decode cX0_isDry 5 = .ok (.iload_n 1, 1) := by decide +kernel
theorem dX0_isDry_6 : decode cX0_isDry 6 = .ok (.ishr, 1) := by decide +kernel
theorem dX0_isDry_7 : decode cX0_isDry 7 = .ok (.iconst 1, 1) := by decide +kernel
theorem dX0_isDry_8 : decode cX0_isDry 8 = .ok (.iand, 1) := by decide +kernel
theorem dX0_isDry_9 : decode cX0_isDry 9 = .ok (.iconst 1, 1) := by decide +kernel
theorem dX0_isDry_10 : decode cX0_isDry 10 = .ok (.if_icmp .ne 7, 3) := by decide +kernel
theorem dX0_isDry_13 : decode cX0_isDry 13 = .ok (.iconst 1, 1) := by decide +kernel
theorem dX0_isDry_14 : decode cX0_isDry 14 = .ok (.goto 4, 3) := by decide +kernel
theorem dX0_isDry_17 : decode cX0_isDry 17 = .ok (.iconst 0, 1) := by decide +kernel
theorem dX0_isDry_18 : decode cX0_isDry 18 = .ok (.ireturn, 1) := by decide +kernel
theorem dX0_dryWells_0 : decode cX0_dryWells 0 = .ok (.iconst 0, 1) := by decide +kernel
theorem dX0_dryWells_1 : decode cX0_dryWells 1 = .ok (.istore_n 2, 1) := by decide +kernel
theorem dX0_dryWells_2 : decode cX0_dryWells 2 = .ok (.iconst 0, 1) := by decide +kernel
theorem dX0_dryWells_3 : decode cX0_dryWells 3 = .ok (.istore_n 3, 1) := by decide +kernel
theorem dX0_dryWells_4 : decode cX0_dryWells 4 = .ok (.iload_n 3, 1) := by decide +kernel
theorem dX0_dryWells_5 : decode cX0_dryWells 5 = .ok (.aload_n 0, 1) := by decide +kernel
theorem dX0_dryWells_6 : decode cX0_dryWells 6 = .ok (.getfield 37, 3) := by decide +kernel
theorem dX0_dryWells_9 : decode cX0_dryWells 9 = .ok (.if_icmp .ge 46, 3) := by decide +kernel
theorem dX0_dryWells_12 : decode cX0_dryWells 12 = .ok (.aload_n 0, 1) := by decide +kernel
theorem dX0_dryWells_13 : decode cX0_dryWells 13 = .ok (.getfield 16, 3) := by decide +kernel
theorem dX0_dryWells_16 : decode cX0_dryWells 16 = .ok (.iconst 1, 1) := by decide +kernel
theorem dX0_dryWells_17 : decode cX0_dryWells 17 = .ok (.aaload, 1) := by decide +kernel
theorem dX0_dryWells_18 : decode cX0_dryWells 18 = .ok (.iload_n 3, 1) := by decide +kernel
theorem dX0_dryWells_19 : decode cX0_dryWells 19 = .ok (.iaload, 1) := by decide +kernel
theorem dX0_dryWells_20 : decode cX0_dryWells 20 = .ok (.iload_n 1, 1) := by decide +kernel
theorem dX0_dryWells_21 : decode cX0_dryWells 21 = .ok (.if_icmp .gt 28, 3) := by decide +kernel
theorem dX0_dryWells_24 : decode cX0_dryWells 24 = .ok (.iload_n 1, 1) := by decide +kernel
theorem dX0_dryWells_25 : decode cX0_dryWells 25 = .ok (.aload_n 0, 1) := by decide +kernel
theorem dX0_dryWells_26 : decode cX0_dryWells 26 = .ok (.getfield 16, 3) := by decide +kernel
theorem dX0_dryWells_29 : decode cX0_dryWells 29 = .ok (.iconst 2, 1) := by decide +kernel
theorem dX0_dryWells_30 : decode cX0_dryWells 30 = .ok (.aaload, 1) := by decide +kernel
theorem dX0_dryWells_31 : decode cX0_dryWells 31 = .ok (.iload_n 3, 1) := by decide +kernel
theorem dX0_dryWells_32 : decode cX0_dryWells 32 = .ok (.iaload, 1) := by decide +kernel
theorem dX0_dryWells_33 : decode cX0_dryWells 33 = .ok (.if_icmp .gt 16, 3) := by decide +kernel
theorem dX0_dryWells_36 : decode cX0_dryWells 36 = .ok (.iload_n 2, 1) := by decide +kernel
theorem dX0_dryWells_37 : decode cX0_dryWells 37 = .ok (.iconst 1, 1) := by decide +kernel
theorem dX0_dryWells_38 : decode cX0_dryWells 38 = .ok (.aload_n 0, 1) := by decide +kernel
theorem dX0_dryWells_39 : decode cX0_dryWells 39 = .ok (.getfield 16, 3) := by decide +kernel
theorem dX0_dryWells_42 : decode cX0_dryWells 42 = .ok (.iconst 0, 1) := by decide +kernel
theorem dX0_dryWells_43 : decode cX0_dryWells 43 = .ok (.aaload, 1) := by decide +kernel
theorem dX0_dryWells_44 : decode cX0_dryWells 44 = .ok (.iload_n 3, 1) := by decide +kernel
theorem dX0_dryWells_45 : decode cX0_dryWells 45 = .ok (.iaload, 1) := by decide +kernel
theorem dX0_dryWells_46 : decode cX0_dryWells 46 = .ok (.ishl, 1) := by decide +kernel
theorem dX0_dryWells_47 : decode cX0_dryWells 47 = .ok (.ior, 1) := by decide +kernel
theorem dX0_dryWells_48 : decode cX0_dryWells 48 = .ok (.istore_n 2, 1) := by decide +kernel
theorem dX0_dryWells_49 : decode cX0_dryWells 49 = .ok (.iinc 3 1, 3) := by decide +kernel
theorem dX0_dryWells_52 : decode cX0_dryWells 52 = .ok (.goto (-48), 3) := by decide +kernel
theorem dX0_dryWells_55 : decode cX0_dryWells 55 = .ok (.iload_n 2, 1) := by decide +kernel
theorem dX0_dryWells_56 : decode cX0_dryWells 56 = .ok (.ireturn, 1) := by decide +kernel
set_option maxRecDepth 20000 in
theorem ggX0_shareOut_J7_fill_53178 : GoodIn wsX0_shareOut wsJ7_fill_53178 := goodIn_r _ [10] (by decide +kernel) (by decide +kernel)
set_option maxRecDepth 20000 in
theorem gX0_shareOut_J7_fill_53178 : GoodIn wsX0_shareOut (va_wsS RX0 70 yJ7_fill_53178 wsJ7_fill_53178) := goodIn_app (goodIn_of _ (by decide +kernel)) ggX0_shareOut_J7_fill_53178
set_option maxRecDepth 20000 in
theorem ggX0_shareOut_X0_isWell : GoodIn wsX0_shareOut wsX0_isWell := goodIn_r _ [15, 16, 17, 18, 19, 20, 21, 22, 23, 24, 25, 26] (by decide +kernel) (by decide +kernel)
set_option maxRecDepth 20000 in
theorem gX0_shareOut_X0_isWell : GoodIn wsX0_shareOut (wsV RX0 61 RX0 yX0_isWell wsX0_isWell) := goodIn_app (goodIn_of _ (by decide +kernel)) ggX0_shareOut_X0_isWell
theorem dX0_shareOut_0 : decode cX0_shareOut 0 = .ok (.aload_n 0, 1) := by decide +kernel
theorem dX0_shareOut_1 : decode cX0_shareOut 1 = .ok (.getfield 26, 3) := by decide +kernel
theorem dX0_shareOut_4 : decode cX0_shareOut 4 = .ok (.iconst 0, 1) := by decide +kernel
theorem dX0_shareOut_5 : decode cX0_shareOut 5 = .ok (.invokestatic 70, 3) := by decide +kernel
theorem dX0_shareOut_8 : decode cX0_shareOut 8 = .ok (.iload_n 2, 1) := by decide +kernel
theorem dX0_shareOut_9 : decode cX0_shareOut 9 = .ok (.istore_n 3, 1) := by decide +kernel
theorem dX0_shareOut_10 : decode cX0_shareOut 10 = .ok (.iload_n 1, 1) := by decide +kernel
theorem dX0_shareOut_11 : decode cX0_shareOut 11 = .ok (.istore 4, 2) := by decide +kernel
theorem dX0_shareOut_13 : decode cX0_shareOut 13 = .ok (.iconst 0, 1) := by decide +kernel
theorem dX0_shareOut_14 : decode cX0_shareOut 14 = .ok (.istore 5, 2) := by decide +kernel
theorem dX0_shareOut_16 : decode cX0_shareOut 16 = .ok (.iload 5, 2) := by decide +kernel
theorem dX0_shareOut_18 : decode cX0_shareOut 18 = .ok (.bipush 12, 2) := by decide +kernel
theorem dX0_shareOut_20 : decode cX0_shareOut 20 = .ok (.if_icmp .ge 90, 3) := by decide +kernel
theorem dX0_shareOut_23 : decode cX0_shareOut 23 = .ok (.aload_n 0, 1) := by decide +kernel
theorem dX0_shareOut_24 : decode cX0_shareOut 24 = .ok (.iload 4, 2) := by decide +kernel
theorem dX0_shareOut_26 : decode cX0_shareOut 26 = .ok (.invokevirtual 61, 3) := by decide +kernel
theorem dX0_shareOut_29 : decode cX0_shareOut 29 = .ok (.ifCond .eq 81, 3) := by decide +kernel
theorem dX0_shareOut_32 : decode cX0_shareOut 32 = .ok (.aload_n 0, 1) := by decide +kernel
theorem dX0_shareOut_33 : decode cX0_shareOut 33 = .ok (.getfield 11, 3) := by decide +kernel
theorem dX0_shareOut_36 : decode cX0_shareOut 36 = .ok (.iconst 4, 1) := by decide +kernel
theorem dX0_shareOut_37 : decode cX0_shareOut 37 = .ok (.aaload, 1) := by decide +kernel
theorem dX0_shareOut_38 : decode cX0_shareOut 38 = .ok (.iload 4, 2) := by decide +kernel
theorem dX0_shareOut_40 : decode cX0_shareOut 40 = .ok (.iaload, 1) := by decide +kernel
theorem dX0_shareOut_41 : decode cX0_shareOut 41 = .ok (.istore 6, 2) := by decide +kernel
theorem dX0_shareOut_43 : decode cX0_shareOut 43 = .ok (.iload 4, 2) := by decide +kernel
theorem dX0_shareOut_45 : decode cX0_shareOut 45 = .ok (.iload_n 1, 1) := by decide +kernel
theorem dX0_shareOut_46 : decode cX0_shareOut 46 = .ok (.if_icmp .ne 8, 3) := by decide +kernel
theorem dX0_shareOut_49 : decode cX0_shareOut 49 = .ok (.iload 6, 2) := by decide +kernel
theorem dX0_shareOut_51 : decode cX0_shareOut 51 = .ok (.goto 17, 3) := by decide +kernel
theorem dX0_shareOut_54 : decode cX0_shareOut 54 = .ok (.iload 6, 2) := by decide +kernel
theorem dX0_shareOut_56 : decode cX0_shareOut 56 = .ok (.aload_n 0, 1) := by decide +kernel
theorem dX0_shareOut_57 : decode cX0_shareOut 57 = .ok (.getfield 11, 3) := by decide +kernel
theorem dX0_shareOut_60 : decode cX0_shareOut 60 = .ok (.iconst 3, 1) := by decide +kernel
theorem dX0_shareOut_61 : decode cX0_shareOut 61 = .ok (.aaload, 1) := by decide +kernel
theorem dX0_shareOut_62 : decode cX0_shareOut 62 = .ok (.iload 4, 2) := by decide +kernel
theorem dX0_shareOut_64 : decode cX0_shareOut 64 = .ok (.iaload, 1) := by decide +kernel
theorem dX0_shareOut_65 : decode cX0_shareOut 65 = .ok (.invokestatic 49, 3) := by decide +kernel
theorem dX0_shareOut_68 : decode cX0_shareOut 68 = .ok (.istore 7, 2) := by decide +kernel
theorem dX0_shareOut_70 : decode cX0_shareOut 70 = .ok (.aload_n 0, 1) := by decide +kernel
theorem dX0_shareOut_71 : decode cX0_shareOut 71 = .ok (.getfield 26, 3) := by decide +kernel
theorem dX0_shareOut_74 : decode cX0_shareOut 74 = .ok (.iload 4, 2) := by decide +kernel
theorem dX0_shareOut_76 : decode cX0_shareOut 76 = .ok (.iload_n 3, 1) := by decide +kernel
theorem dX0_shareOut_77 : decode cX0_shareOut 77 = .ok (.iload 7, 2) := by decide +kernel
theorem dX0_shareOut_79 : decode cX0_shareOut 79 = .ok (.invokestatic 49, 3) := by decide +kernel
theorem dX0_shareOut_82 : decode cX0_shareOut 82 = .ok (.iastore, 1) := by decide +kernel
theorem dX0_shareOut_83 : decode cX0_shareOut 83 = .ok (.iload_n 3, 1) := by decide +kernel
theorem dX0_shareOut_84 : decode cX0_shareOut 84 = .ok (.aload_n 0, 1) := by decide +kernel
theorem dX0_shareOut_85 : decode cX0_shareOut 85 = .ok (.getfield 26, 3) := by decide +kernel
theorem dX0_shareOut_88 : decode cX0_shareOut 88 = .ok (.iload 4, 2) := by decide +kernel
theorem dX0_shareOut_90 : decode cX0_shareOut 90 = .ok (.iaload, 1) := by decide +kernel
theorem dX0_shareOut_91 : decode cX0_shareOut 91 = .ok (.isub, 1) := by decide +kernel
theorem dX0_shareOut_92 : decode cX0_shareOut 92 = .ok (.istore_n 3, 1) := by decide +kernel
theorem dX0_shareOut_93 : decode cX0_shareOut 93 = .ok (.aload_n 0, 1) := by decide +kernel
theorem dX0_shareOut_94 : decode cX0_shareOut 94 = .ok (.getfield 11, 3) := by decide +kernel
theorem dX0_shareOut_97 : decode cX0_shareOut 97 = .ok (.iconst 0, 1) := by decide +kernel
theorem dX0_shareOut_98 : decode cX0_shareOut 98 = .ok (.aaload, 1) := by decide +kernel
theorem dX0_shareOut_99 : decode cX0_shareOut 99 = .ok (.iload 4, 2) := by decide +kernel
theorem dX0_shareOut_101 : decode cX0_shareOut 101 = .ok (.iaload, 1) := by decide +kernel
theorem dX0_shareOut_102 : decode cX0_shareOut 102 = .ok (.istore 4, 2) := by decide +kernel
theorem dX0_shareOut_104 : decode cX0_shareOut 104 = .ok (.iinc 5 1, 3) := by decide +kernel
theorem dX0_shareOut_107 : decode cX0_shareOut 107 = .ok (.goto (-91), 3) := by decide +kernel
theorem dX0_shareOut_110 : decode cX0_shareOut 110 = .ok (.iload_n 2, 1) := by decide +kernel
theorem dX0_shareOut_111 : decode cX0_shareOut 111 = .ok (.iload_n 3, 1) := by decide +kernel
theorem dX0_shareOut_112 : decode cX0_shareOut 112 = .ok (.isub, 1) := by decide +kernel
theorem dX0_shareOut_113 : decode cX0_shareOut 113 = .ok (.ireturn, 1) := by decide +kernel
theorem dX0_pourShares_0 : decode cX0_pourShares 0 = .ok (.iconst 0, 1) := by decide +kernel
theorem dX0_pourShares_1 : decode cX0_pourShares 1 = .ok (.istore_n 2, 1) := by decide +kernel
theorem dX0_pourShares_2 : decode cX0_pourShares 2 = .ok (.iconst 0, 1) := by decide +kernel
theorem dX0_pourShares_3 : decode cX0_pourShares 3 = .ok (.istore_n 3, 1) := by decide +kernel
theorem dX0_pourShares_4 : decode cX0_pourShares 4 = .ok (.iload_n 3, 1) := by decide +kernel
theorem dX0_pourShares_5 : decode cX0_pourShares 5 = .ok (.aload_n 0, 1) := by decide +kernel
theorem dX0_pourShares_6 : decode cX0_pourShares 6 = .ok (.getfield 33, 3) := by decide +kernel
theorem dX0_pourShares_9 : decode cX0_pourShares 9 = .ok (.if_icmp .ge 71, 3) := by decide +kernel
theorem dX0_pourShares_12 : decode cX0_pourShares 12 = .ok (.aload_n 0, 1) := by decide +kernel
theorem dX0_pourShares_13 : decode cX0_pourShares 13 = .ok (.getfield 26, 3) := by decide +kernel
theorem dX0_pourShares_16 : decode cX0_pourShares 16 = .ok (.iload_n 3, 1) := by decide +kernel
theorem dX0_pourShares_17 : decode cX0_pourShares 17 = .ok (.iaload, 1) := by decide +kernel
theorem dX0_pourShares_18 : decode cX0_pourShares 18 = .ok (.istore 4, 2) := by decide +kernel
theorem dX0_pourShares_20 : decode cX0_pourShares 20 = .ok (.aload_n 0, 1) := by decide +kernel
theorem dX0_pourShares_21 : decode cX0_pourShares 21 = .ok (.getfield 11, 3) := by decide +kernel
theorem dX0_pourShares_24 : decode cX0_pourShares 24 = .ok (.iconst 4, 1) := by decide +kernel
theorem dX0_pourShares_25 : decode cX0_pourShares 25 = .ok (.aaload, 1) := by decide +kernel
theorem dX0_pourShares_26 : decode cX0_pourShares 26 = .ok (.iload_n 3, 1) := by decide +kernel
theorem dX0_pourShares_27 : decode cX0_pourShares 27 = .ok (.dup2, 1) := by decide +kernel
theorem dX0_pourShares_28 : decode cX0_pourShares 28 = .ok (.iaload, 1) := by decide +kernel
theorem dX0_pourShares_29 : decode cX0_pourShares 29 = .ok (.iload 4, 2) := by decide +kernel
theorem dX0_pourShares_31 : decode cX0_pourShares 31 = .ok (.isub, 1) := by decide +kernel
theorem dX0_pourShares_32 : decode cX0_pourShares 32 = .ok (.iastore, 1) := by decide +kernel
theorem dX0_pourShares_33 : decode cX0_pourShares 33 = .ok (.iload_n 3, 1) := by decide +kernel
theorem dX0_pourShares_34 : decode cX0_pourShares 34 = .ok (.iload_n 1, 1) := by decide +kernel
theorem dX0_pourShares_35 : decode cX0_pourShares 35 = .ok (.if_icmp .ne 20, 3) := by decide +kernel
theorem dX0_pourShares_38 : decode cX0_pourShares 38 = .ok (.aload_n 0, 1) := by decide +kernel
theorem dX0_pourShares_39 : decode cX0_pourShares 39 = .ok (.getfield 11, 3) := by decide +kernel
theorem dX0_pourShares_42 : decode cX0_pourShares 42 = .ok (.bipush 8, 2) := by decide +kernel
theorem dX0_pourShares_44 : decode cX0_pourShares 44 = .ok (.aaload, 1) := by decide +kernel
theorem dX0_pourShares_45 : decode cX0_pourShares 45 = .ok (.iload_n 3, 1) := by decide +kernel
theorem dX0_pourShares_46 : decode cX0_pourShares 46 = .ok (.dup2, 1) := by decide +kernel
theorem dX0_pourShares_47 : decode cX0_pourShares 47 = .ok (.iaload, 1) := by decide +kernel
theorem dX0_pourShares_48 : decode cX0_pourShares 48 = .ok (.iload 4, 2) := by decide +kernel
theorem dX0_pourShares_50 : decode cX0_pourShares 50 = .ok (.iadd, 1) := by decide +kernel
theorem dX0_pourShares_51 : decode cX0_pourShares 51 = .ok (.iastore, 1) := by decide +kernel
theorem dX0_pourShares_52 : decode cX0_pourShares 52 = .ok (.goto 22, 3) := by decide +kernel
theorem dX0_pourShares_55 : decode cX0_pourShares 55 = .ok (.aload_n 0, 1) := by decide +kernel
theorem dX0_pourShares_56 : decode cX0_pourShares 56 = .ok (.getfield 11, 3) := by decide +kernel
theorem dX0_pourShares_59 : decode cX0_pourShares 59 = .ok (.bipush 9, 2) := by decide +kernel
theorem dX0_pourShares_61 : decode cX0_pourShares 61 = .ok (.aaload, 1) := by decide +kernel
theorem dX0_pourShares_62 : decode cX0_pourShares 62 = .ok (.iload_n 3, 1) := by decide +kernel
theorem dX0_pourShares_63 : decode cX0_pourShares 63 = .ok (.dup2, 1) := by decide +kernel
theorem dX0_pourShares_64 : decode cX0_pourShares 64 = .ok (.iaload, 1) := by decide +kernel
theorem dX0_pourShares_65 : decode cX0_pourShares 65 = .ok (.iload 4, 2) := by decide +kernel
theorem dX0_pourShares_67 : decode cX0_pourShares 67 = .ok (.iadd, 1) := by decide +kernel
theorem dX0_pourShares_68 : decode cX0_pourShares 68 = .ok (.iastore, 1) := by decide +kernel
theorem dX0_pourShares_69 : decode cX0_pourShares 69 = .ok (.iload_n 2, 1) := by decide +kernel
theorem dX0_pourShares_70 : decode cX0_pourShares 70 = .ok (.iload 4, 2) := by decide +kernel
theorem dX0_pourShares_72 : decode cX0_pourShares 72 = .ok (.iadd, 1) := by decide +kernel
theorem dX0_pourShares_73 : decode cX0_pourShares 73 = .ok (.istore_n 2, 1) := by decide +kernel
theorem dX0_pourShares_74 : decode cX0_pourShares 74 = .ok (.iinc 3 1, 3) := by decide +kernel
theorem dX0_pourShares_77 : decode cX0_pourShares 77 = .ok (.goto (-73), 3) := by decide +kernel
theorem dX0_pourShares_80 : decode cX0_pourShares 80 = .ok (.iload_n 2, 1) := by decide +kernel
theorem dX0_pourShares_81 : decode cX0_pourShares 81 = .ok (.ireturn, 1) := by decide +kernel
set_option maxRecDepth 20000 in
theorem ggX0_takeDraw_X0_isWell : GoodIn wsX0_takeDraw wsX0_isWell := goodIn_r _ [5, 6, 28, 29, 30, 31, 32, 33, 34, 35, 36, 37] (by decide +kernel) (by decide +kernel)
set_option maxRecDepth 20000 in
theorem gX0_takeDraw_X0_isWell : GoodIn wsX0_takeDraw (wsV RX0 61 RX0 yX0_isWell wsX0_isWell) := goodIn_app (goodIn_of _ (by decide +kernel)) ggX0_takeDraw_X0_isWell
set_option maxRecDepth 20000 in
theorem ggX0_takeDraw_X3_areBuckets : GoodIn wsX0_takeDraw wsX3_areBuckets := goodIn_r _ [9] (by decide +kernel) (by decide +kernel)
set_option maxRecDepth 20000 in
theorem gX0_takeDraw_X3_areBuckets_n76 : GoodIn wsX0_takeDraw (wsX3_areBuckets) := ggX0_takeDraw_X3_areBuckets
set_option maxRecDepth 20000 in
theorem ggX0_takeDraw_X0_shareOut : GoodIn wsX0_takeDraw wsX0_shareOut := goodIn_r _ [13, 14, 15, 16, 17, 18, 19, 20, 21, 22, 23, 1, 2, 3, 4, 5, 6, 28, 29, 30, 31, 32, 33, 34, 35, 36, 37] (by decide +kernel) (by decide +kernel)
set_option maxRecDepth 20000 in
theorem gX0_takeDraw_X0_shareOut : GoodIn wsX0_takeDraw (wsV RX0 79 RX0 yX0_shareOut wsX0_shareOut) := goodIn_app (goodIn_of _ (by decide +kernel)) ggX0_takeDraw_X0_shareOut
set_option maxRecDepth 20000 in
theorem ggX0_takeDraw_X0_pourShares : GoodIn wsX0_takeDraw wsX0_pourShares := goodIn_r _ [27, 6, 14, 15, 28, 29, 30, 31, 32, 33, 34, 35, 36, 37] (by decide +kernel) (by decide +kernel)
set_option maxRecDepth 20000 in
theorem gX0_takeDraw_X0_pourShares : GoodIn wsX0_takeDraw (wsV RX0 82 RX0 yX0_pourShares wsX0_pourShares) := goodIn_app (goodIn_of _ (by decide +kernel)) ggX0_takeDraw_X0_pourShares
theorem dX0_takeDraw_0 : decode cX0_takeDraw 0 = .ok (.aload_n 0, 1) := by decide +kernel
theorem dX0_takeDraw_1 : decode cX0_takeDraw 1 = .ok (.iload_n 1, 1) := by decide +kernel
theorem dX0_takeDraw_2 : decode cX0_takeDraw 2 = .ok (.invokevirtual 61, 3) := by decide +kernel
theorem dX0_takeDraw_5 : decode cX0_takeDraw 5 = .ok (.ifCond .eq 10, 3) := by decide +kernel
theorem dX0_takeDraw_8 : decode cX0_takeDraw 8 = .ok (.iload_n 2, 1) := by decide +kernel
theorem dX0_takeDraw_9 : decode cX0_takeDraw 9 = .ok (.invokestatic 76, 3) := by decide +kernel
theorem dX0_takeDraw_12 : decode cX0_takeDraw 12 = .ok (.ifCond .ne 5, 3) := by decide +kernel
theorem dX0_takeDraw_15 : decode cX0_takeDraw 15 = .ok (.iconst (-1), 1) := by decide +kernel
theorem dX0_takeDraw_16 : decode cX0_takeDraw 16 = .ok (.ireturn, 1) := by decide +kernel
theorem dX0_takeDraw_17 : decode cX0_takeDraw 17 = .ok (.aload_n 0, 1) := by decide +kernel
theorem dX0_takeDraw_18 : decode cX0_takeDraw 18 = .ok (.iload_n 1, 1) := by decide +kernel
theorem dX0_takeDraw_19 : decode cX0_takeDraw 19 = .ok (.iload_n 2, 1) := by decide +kernel
theorem dX0_takeDraw_20 : decode cX0_takeDraw 20 = .ok (.invokevirtual 79, 3) := by decide +kernel
theorem dX0_takeDraw_23 : decode cX0_takeDraw 23 = .ok (.iload_n 2, 1) := by decide +kernel
theorem dX0_takeDraw_24 : decode cX0_takeDraw 24 = .ok (.if_icmp .ne 11, 3) := by decide +kernel
theorem dX0_takeDraw_27 : decode cX0_takeDraw 27 = .ok (.aload_n 0, 1) := by decide +kernel
theorem dX0_takeDraw_28 : decode cX0_takeDraw 28 = .ok (.iload_n 1, 1) := by decide +kernel
theorem dX0_takeDraw_29 : decode cX0_takeDraw 29 = .ok (.invokevirtual 82, 3) := by decide +kernel
theorem dX0_takeDraw_32 : decode cX0_takeDraw 32 = .ok (.goto 5, 3) := by decide +kernel
theorem dX0_takeDraw_35 : decode cX0_takeDraw 35 = .ok (.bipush (-2), 2) := by decide +kernel
theorem dX0_takeDraw_37 : decode cX0_takeDraw 37 = .ok (.ireturn, 1) := by decide +kernel
set_option maxRecDepth 20000 in
theorem ggX0_takeRequest_X0_isWell : GoodIn wsX0_takeRequest wsX0_isWell := goodIn_r _ [8, 9, 31, 32, 33, 34, 35, 36, 37, 38, 39, 40] (by decide +kernel) (by decide +kernel)
set_option maxRecDepth 20000 in
theorem gX0_takeRequest_X0_isWell : GoodIn wsX0_takeRequest (wsV RX0 61 RX0 yX0_isWell wsX0_isWell) := goodIn_app (goodIn_of _ (by decide +kernel)) ggX0_takeRequest_X0_isWell
set_option maxRecDepth 20000 in
theorem ggX0_takeRequest_X3_areBuckets : GoodIn wsX0_takeRequest wsX3_areBuckets := goodIn_r _ [12] (by decide +kernel) (by decide +kernel)
set_option maxRecDepth 20000 in
theorem gX0_takeRequest_X3_areBuckets_n76 : GoodIn wsX0_takeRequest (wsX3_areBuckets) := ggX0_takeRequest_X3_areBuckets
set_option maxRecDepth 20000 in
theorem ggX0_takeRequest_X0_shareOut : GoodIn wsX0_takeRequest wsX0_shareOut := goodIn_r _ [16, 17, 18, 19, 20, 21, 22, 23, 24, 25, 26, 4, 5, 6, 7, 8, 9, 31, 32, 33, 34, 35, 36, 37, 38, 39, 40] (by decide +kernel) (by decide +kernel)
set_option maxRecDepth 20000 in
theorem gX0_takeRequest_X0_shareOut : GoodIn wsX0_takeRequest (wsV RX0 79 RX0 yX0_shareOut wsX0_shareOut) := goodIn_app (goodIn_of _ (by decide +kernel)) ggX0_takeRequest_X0_shareOut
set_option maxRecDepth 20000 in
theorem ggX0_takeRequest_X0_pourShares : GoodIn wsX0_takeRequest wsX0_pourShares := goodIn_r _ [30, 9, 17, 18, 31, 32, 33, 34, 35, 36, 37, 38, 39, 40] (by decide +kernel) (by decide +kernel)
set_option maxRecDepth 20000 in
theorem gX0_takeRequest_X0_pourShares : GoodIn wsX0_takeRequest (wsV RX0 82 RX0 yX0_pourShares wsX0_pourShares) := goodIn_app (goodIn_of _ (by decide +kernel)) ggX0_takeRequest_X0_pourShares
theorem dX0_takeRequest_0 : decode cX0_takeRequest 0 = .ok (.aload_n 0, 1) := by decide +kernel
theorem dX0_takeRequest_1 : decode cX0_takeRequest 1 = .ok (.iload_n 1, 1) := by decide +kernel
theorem dX0_takeRequest_2 : decode cX0_takeRequest 2 = .ok (.invokevirtual 61, 3) := by decide +kernel
theorem dX0_takeRequest_5 : decode cX0_takeRequest 5 = .ok (.ifCond .eq 10, 3) := by decide +kernel
theorem dX0_takeRequest_8 : decode cX0_takeRequest 8 = .ok (.iload_n 2, 1) := by decide +kernel
theorem dX0_takeRequest_9 : decode cX0_takeRequest 9 = .ok (.invokestatic 76, 3) := by decide +kernel
theorem dX0_takeRequest_12 : decode cX0_takeRequest 12 = .ok (.ifCond .ne 5, 3) := by decide +kernel
theorem dX0_takeRequest_15 : decode cX0_takeRequest 15 = .ok (.iconst (-1), 1) := by decide +kernel
theorem dX0_takeRequest_16 : decode cX0_takeRequest 16 = .ok (.ireturn, 1) := by decide +kernel
theorem dX0_takeRequest_17 : decode cX0_takeRequest 17 = .ok (.aload_n 0, 1) := by decide +kernel
theorem dX0_takeRequest_18 : decode cX0_takeRequest 18 = .ok (.getfield 40, 3) := by decide +kernel
theorem dX0_takeRequest_21 : decode cX0_takeRequest 21 = .ok (.ifCond .ne 21, 3) := by decide +kernel
theorem dX0_takeRequest_24 : decode cX0_takeRequest 24 = .ok (.aload_n 0, 1) := by decide +kernel
theorem dX0_takeRequest_25 : decode cX0_takeRequest 25 = .ok (.iload_n 1, 1) := by decide +kernel
theorem dX0_takeRequest_26 : decode cX0_takeRequest 26 = .ok (.iload_n 2, 1) := by decide +kernel
theorem dX0_takeRequest_27 : decode cX0_takeRequest 27 = .ok (.invokevirtual 79, 3) := by decide +kernel
theorem dX0_takeRequest_30 : decode cX0_takeRequest 30 = .ok (.iload_n 2, 1) := by decide +kernel
theorem dX0_takeRequest_31 : decode cX0_takeRequest 31 = .ok (.if_icmp .ne 11, 3) := by decide +kernel
theorem dX0_takeRequest_34 : decode cX0_takeRequest 34 = .ok (.aload_n 0, 1) := by decide +kernel
theorem dX0_takeRequest_35 : decode cX0_takeRequest 35 = .ok (.iload_n 1, 1) := by decide +kernel
theorem dX0_takeRequest_36 : decode cX0_takeRequest 36 = .ok (.invokevirtual 82, 3) := by decide +kernel
theorem dX0_takeRequest_39 : decode cX0_takeRequest 39 = .ok (.pop, 1) := by decide +kernel
theorem dX0_takeRequest_40 : decode cX0_takeRequest 40 = .ok (.iconst 0, 1) := by decide +kernel
theorem dX0_takeRequest_41 : decode cX0_takeRequest 41 = .ok (.ireturn, 1) := by decide +kernel
theorem dX0_takeRequest_42 : decode cX0_takeRequest 42 = .ok (.aload_n 0, 1) := by decide +kernel
theorem dX0_takeRequest_43 : decode cX0_takeRequest 43 = .ok (.getfield 40, 3) := by decide +kernel
theorem dX0_takeRequest_46 : decode cX0_takeRequest 46 = .ok (.bipush 8, 2) := by decide +kernel
theorem dX0_takeRequest_48 : decode cX0_takeRequest 48 = .ok (.if_icmp .lt 6, 3) := by decide +kernel
theorem dX0_takeRequest_51 : decode cX0_takeRequest 51 = .ok (.bipush (-3), 2) := by decide +kernel
theorem dX0_takeRequest_53 : decode cX0_takeRequest 53 = .ok (.ireturn, 1) := by decide +kernel
theorem dX0_takeRequest_54 : decode cX0_takeRequest 54 = .ok (.aload_n 0, 1) := by decide +kernel
theorem dX0_takeRequest_55 : decode cX0_takeRequest 55 = .ok (.getfield 19, 3) := by decide +kernel
theorem dX0_takeRequest_58 : decode cX0_takeRequest 58 = .ok (.iconst 0, 1) := by decide +kernel
theorem dX0_takeRequest_59 : decode cX0_takeRequest 59 = .ok (.aaload, 1) := by decide +kernel
theorem dX0_takeRequest_60 : decode cX0_takeRequest 60 = .ok (.aload_n 0, 1) := by decide +kernel
theorem dX0_takeRequest_61 : decode cX0_takeRequest 61 = .ok (.getfield 40, 3) := by decide +kernel
theorem dX0_takeRequest_64 : decode cX0_takeRequest 64 = .ok (.iload_n 1, 1) := by decide +kernel
theorem dX0_takeRequest_65 : decode cX0_takeRequest 65 = .ok (.iastore, 1) := by decide +kernel
theorem dX0_takeRequest_66 : decode cX0_takeRequest 66 = .ok (.aload_n 0, 1) := by decide +kernel
theorem dX0_takeRequest_67 : decode cX0_takeRequest 67 = .ok (.getfield 19, 3) := by decide +kernel
theorem dX0_takeRequest_70 : decode cX0_takeRequest 70 = .ok (.iconst 1, 1) := by decide +kernel
theorem dX0_takeRequest_71 : decode cX0_takeRequest 71 = .ok (.aaload, 1) := by decide +kernel
theorem dX0_takeRequest_72 : decode cX0_takeRequest 72 = .ok (.aload_n 0, 1) := by decide +kernel
theorem dX0_takeRequest_73 : decode cX0_takeRequest 73 = .ok (.getfield 40, 3) := by decide +kernel
theorem dX0_takeRequest_76 : decode cX0_takeRequest 76 = .ok (.iload_n 2, 1) := by decide +kernel
theorem dX0_takeRequest_77 : decode cX0_takeRequest 77 = .ok (.iastore, 1) := by decide +kernel
theorem dX0_takeRequest_78 : decode cX0_takeRequest 78 = .ok (.aload_n 0, 1) := by decide +kernel
theorem dX0_takeRequest_79 : decode cX0_takeRequest 79 = .ok (.getfield 19, 3) := by decide +kernel
theorem dX0_takeRequest_82 : decode cX0_takeRequest 82 = .ok (.iconst 2, 1) := by decide +kernel
theorem dX0_takeRequest_83 : decode cX0_takeRequest 83 = .ok (.aaload, 1) := by decide +kernel
theorem dX0_takeRequest_84 : decode cX0_takeRequest 84 = .ok (.aload_n 0, 1) := by decide +kernel
theorem dX0_takeRequest_85 : decode cX0_takeRequest 85 = .ok (.getfield 40, 3) := by decide +kernel
theorem dX0_takeRequest_88 : decode cX0_takeRequest 88 = .ok (.aload_n 0, 1) := by decide +kernel
theorem dX0_takeRequest_89 : decode cX0_takeRequest 89 = .ok (.getfield 43, 3) := by decide +kernel
theorem dX0_takeRequest_92 : decode cX0_takeRequest 92 = .ok (.iastore, 1) := by decide +kernel
theorem dX0_takeRequest_93 : decode cX0_takeRequest 93 = .ok (.aload_n 0, 1) := by decide +kernel
theorem dX0_takeRequest_94 : decode cX0_takeRequest 94 = .ok (.dup, 1) := by decide +kernel
theorem dX0_takeRequest_95 : decode cX0_takeRequest 95 = .ok (.getfield 40, 3) := by decide +kernel
theorem dX0_takeRequest_98 : decode cX0_takeRequest 98 = .ok (.iconst 1, 1) := by decide +kernel
theorem dX0_takeRequest_99 : decode cX0_takeRequest 99 = .ok (.iadd, 1) := by decide +kernel
theorem dX0_takeRequest_100 : decode cX0_takeRequest 100 = .ok (.putfield 40, 3) := by decide +kernel
theorem dX0_takeRequest_103 : decode cX0_takeRequest 103 = .ok (.aload_n 0, 1) := by decide +kernel
theorem dX0_takeRequest_104 : decode cX0_takeRequest 104 = .ok (.getfield 40, 3) := by decide +kernel
theorem dX0_takeRequest_107 : decode cX0_takeRequest 107 = .ok (.ireturn, 1) := by decide +kernel
set_option maxRecDepth 20000 in
theorem ggX0_dropRequest_X0_isPlace : GoodIn wsX0_dropRequest wsX0_isPlace := goodIn_r _ [7, 2, 12, 13, 14, 15, 16, 17, 18, 19, 20, 21] (by decide +kernel) (by decide +kernel)
set_option maxRecDepth 20000 in
theorem gX0_dropRequest_X0_isPlace : GoodIn wsX0_dropRequest (wsV RX0 85 RX0 yX0_isPlace wsX0_isPlace) := goodIn_app (goodIn_of _ (by decide +kernel)) ggX0_dropRequest_X0_isPlace
set_option maxRecDepth 20000 in
theorem ggX0_dropRequest_X0_moveRequest : GoodIn wsX0_dropRequest wsX0_moveRequest := goodIn_r _ [11, 1, 12, 13, 14, 15, 16, 17, 18, 19, 20, 21] (by decide +kernel) (by decide +kernel)
set_option maxRecDepth 20000 in
theorem gX0_dropRequest_X0_moveRequest : GoodIn wsX0_dropRequest (wsV RX0 88 RX0 yX0_moveRequest wsX0_moveRequest) := goodIn_app (goodIn_of _ (by decide +kernel)) ggX0_dropRequest_X0_moveRequest
theorem dX0_dropRequest_0 : decode cX0_dropRequest 0 = .ok (.aload_n 0, 1) := by decide +kernel
theorem dX0_dropRequest_1 : decode cX0_dropRequest 1 = .ok (.iload_n 1, 1) := by decide +kernel
theorem dX0_dropRequest_2 : decode cX0_dropRequest 2 = .ok (.invokevirtual 85, 3) := by decide +kernel
theorem dX0_dropRequest_5 : decode cX0_dropRequest 5 = .ok (.ifCond .ne 5, 3) := by decide +kernel
theorem dX0_dropRequest_8 : decode cX0_dropRequest 8 = .ok (.iconst (-1), 1) := by decide +kernel
theorem dX0_dropRequest_9 : decode cX0_dropRequest 9 = .ok (.ireturn, 1) := by decide +kernel
theorem dX0_dropRequest_10 : decode cX0_dropRequest 10 = .ok (.aload_n 0, 1) := by decide +kernel
theorem dX0_dropRequest_11 : decode cX0_dropRequest 11 = .ok (.getfield 19, 3) := by decide +kernel
theorem dX0_dropRequest_14 : decode cX0_dropRequest 14 = .ok (.iconst 1, 1) := by decide +kernel
theorem dX0_dropRequest_15 : decode cX0_dropRequest 15 = .ok (.aaload, 1) := by decide +kernel
theorem dX0_dropRequest_16 : decode cX0_dropRequest 16 = .ok (.iload_n 1, 1) := by decide +kernel
theorem dX0_dropRequest_17 : decode cX0_dropRequest 17 = .ok (.iconst 1, 1) := by decide +kernel
theorem dX0_dropRequest_18 : decode cX0_dropRequest 18 = .ok (.isub, 1) := by decide +kernel
theorem dX0_dropRequest_19 : decode cX0_dropRequest 19 = .ok (.iaload, 1) := by decide +kernel
theorem dX0_dropRequest_20 : decode cX0_dropRequest 20 = .ok (.istore_n 2, 1) := by decide +kernel
theorem dX0_dropRequest_21 : decode cX0_dropRequest 21 = .ok (.iload_n 1, 1) := by decide +kernel
theorem dX0_dropRequest_22 : decode cX0_dropRequest 22 = .ok (.istore_n 3, 1) := by decide +kernel
theorem dX0_dropRequest_23 : decode cX0_dropRequest 23 = .ok (.iload_n 3, 1) := by decide +kernel
theorem dX0_dropRequest_24 : decode cX0_dropRequest 24 = .ok (.aload_n 0, 1) := by decide +kernel
theorem dX0_dropRequest_25 : decode cX0_dropRequest 25 = .ok (.getfield 40, 3) := by decide +kernel
theorem dX0_dropRequest_28 : decode cX0_dropRequest 28 = .ok (.if_icmp .ge 17, 3) := by decide +kernel
theorem dX0_dropRequest_31 : decode cX0_dropRequest 31 = .ok (.aload_n 0, 1) := by decide +kernel
theorem dX0_dropRequest_32 : decode cX0_dropRequest 32 = .ok (.iload_n 3, 1) := by decide +kernel
theorem dX0_dropRequest_33 : decode cX0_dropRequest 33 = .ok (.iload_n 3, 1) := by decide +kernel
theorem dX0_dropRequest_34 : decode cX0_dropRequest 34 = .ok (.iconst 1, 1) := by decide +kernel
theorem dX0_dropRequest_35 : decode cX0_dropRequest 35 = .ok (.isub, 1) := by decide +kernel
theorem dX0_dropRequest_36 : decode cX0_dropRequest 36 = .ok (.invokevirtual 88, 3) := by decide +kernel
theorem dX0_dropRequest_39 : decode cX0_dropRequest 39 = .ok (.iinc 3 1, 3) := by decide +kernel
theorem dX0_dropRequest_42 : decode cX0_dropRequest 42 = .ok (.goto (-19), 3) := by decide +kernel
theorem dX0_dropRequest_45 : decode cX0_dropRequest 45 = .ok (.aload_n 0, 1) := by decide +kernel
theorem dX0_dropRequest_46 : decode cX0_dropRequest 46 = .ok (.dup, 1) := by decide +kernel
theorem dX0_dropRequest_47 : decode cX0_dropRequest 47 = .ok (.getfield 40, 3) := by decide +kernel
theorem dX0_dropRequest_50 : decode cX0_dropRequest 50 = .ok (.iconst 1, 1) := by decide +kernel
theorem dX0_dropRequest_51 : decode cX0_dropRequest 51 = .ok (.isub, 1) := by decide +kernel
theorem dX0_dropRequest_52 : decode cX0_dropRequest 52 = .ok (.putfield 40, 3) := by decide +kernel
theorem dX0_dropRequest_55 : decode cX0_dropRequest 55 = .ok (.iload_n 2, 1) := by decide +kernel
theorem dX0_dropRequest_56 : decode cX0_dropRequest 56 = .ok (.ireturn, 1) := by decide +kernel
theorem dX0_moveRequest_0 : decode cX0_moveRequest 0 = .ok (.iconst 0, 1) := by decide +kernel
theorem dX0_moveRequest_1 : decode cX0_moveRequest 1 = .ok (.istore_n 3, 1) := by decide +kernel
theorem dX0_moveRequest_2 : decode cX0_moveRequest 2 = .ok (.iload_n 3, 1) := by decide +kernel
theorem dX0_moveRequest_3 : decode cX0_moveRequest 3 = .ok (.iconst 3, 1) := by decide +kernel
theorem dX0_moveRequest_4 : decode cX0_moveRequest 4 = .ok (.if_icmp .ge 25, 3) := by decide +kernel
theorem dX0_moveRequest_7 : decode cX0_moveRequest 7 = .ok (.aload_n 0, 1) := by decide +kernel
theorem dX0_moveRequest_8 : decode cX0_moveRequest 8 = .ok (.getfield 19, 3) := by decide +kernel
theorem dX0_moveRequest_11 : decode cX0_moveRequest 11 = .ok (.iload_n 3, 1) := by decide +kernel
theorem dX0_moveRequest_12 : decode cX0_moveRequest 12 = .ok (.aaload, 1) := by decide +kernel
theorem dX0_moveRequest_13 : decode cX0_moveRequest 13 = .ok (.iload_n 2, 1) := by decide +kernel
theorem dX0_moveRequest_14 : decode cX0_moveRequest 14 = .ok (.aload_n 0, 1) := by decide +kernel
theorem dX0_moveRequest_15 : decode cX0_moveRequest 15 = .ok (.getfield 19, 3) := by decide +kernel
theorem dX0_moveRequest_18 : decode cX0_moveRequest 18 = .ok (.iload_n 3, 1) := by decide +kernel
theorem dX0_moveRequest_19 : decode cX0_moveRequest 19 = .ok (.aaload, 1) := by decide +kernel
theorem dX0_moveRequest_20 : decode cX0_moveRequest 20 = .ok (.iload_n 1, 1) := by decide +kernel
theorem dX0_moveRequest_21 : decode cX0_moveRequest 21 = .ok (.iaload, 1) := by decide +kernel
theorem dX0_moveRequest_22 : decode cX0_moveRequest 22 = .ok (.iastore, 1) := by decide +kernel
theorem dX0_moveRequest_23 : decode cX0_moveRequest 23 = .ok (.iinc 3 1, 3) := by decide +kernel
theorem dX0_moveRequest_26 : decode cX0_moveRequest 26 = .ok (.goto (-24), 3) := by decide +kernel
theorem dX0_moveRequest_29 : decode cX0_moveRequest 29 = .ok (.return_, 1) := by decide +kernel
theorem dX0_changeSetting_0 : decode cX0_changeSetting 0 = .ok (.iload_n 1, 1) := by decide +kernel
theorem dX0_changeSetting_1 : decode cX0_changeSetting 1 = .ok (.ifCond .ne 22, 3) := by decide +kernel
theorem dX0_changeSetting_4 : decode cX0_changeSetting 4 = .ok (.iload_n 2, 1) := by decide +kernel
theorem dX0_changeSetting_5 : decode cX0_changeSetting 5 = .ok (.iconst 4, 1) := by decide +kernel
theorem dX0_changeSetting_6 : decode cX0_changeSetting 6 = .ok (.if_icmp .lt 13, 3) := by decide +kernel
theorem dX0_changeSetting_9 : decode cX0_changeSetting 9 = .ok (.iload_n 2, 1) := by decide +kernel
theorem dX0_changeSetting_10 : decode cX0_changeSetting 10 = .ok (.bipush 100, 2) := by decide +kernel
theorem dX0_changeSetting_12 : decode cX0_changeSetting 12 = .ok (.if_icmp .gt 7, 3) := by decide +kernel
theorem dX0_changeSetting_15 : decode cX0_changeSetting 15 = .ok (.iconst 1, 1) := by decide +kernel
theorem dX0_changeSetting_16 : decode cX0_changeSetting 16 = .ok (.goto 26, 3) := by decide +kernel
theorem dX0_changeSetting_19 : decode cX0_changeSetting 19 = .ok (.iconst 0, 1) := by decide +kernel
theorem dX0_changeSetting_20 : decode cX0_changeSetting 20 = .ok (.goto 22, 3) := by decide +kernel
theorem dX0_changeSetting_23 : decode cX0_changeSetting 23 = .ok (.iload_n 1, 1) := by decide +kernel
theorem dX0_changeSetting_24 : decode cX0_changeSetting 24 = .ok (.iconst 1, 1) := by decide +kernel
theorem dX0_changeSetting_25 : decode cX0_changeSetting 25 = .ok (.if_icmp .ne 16, 3) := by decide +kernel
theorem dX0_changeSetting_28 : decode cX0_changeSetting 28 = .ok (.iload_n 2, 1) := by decide +kernel
theorem dX0_changeSetting_29 : decode cX0_changeSetting 29 = .ok (.ifCond .eq 8, 3) := by decide +kernel
theorem dX0_changeSetting_32 : decode cX0_changeSetting 32 = .ok (.iload_n 2, 1) := by decide +kernel
theorem dX0_changeSetting_33 : decode cX0_changeSetting 33 = .ok (.iconst 1, 1) := by decide +kernel
theorem dX0_changeSetting_34 : decode cX0_changeSetting 34 = .ok (.if_icmp .ne 7, 3) := by decide +kernel
theorem dX0_changeSetting_37 : decode cX0_changeSetting 37 = .ok (.iconst 1, 1) := by decide +kernel
theorem dX0_changeSetting_38 : decode cX0_changeSetting 38 = .ok (.goto 4, 3) := by decide +kernel
theorem dX0_changeSetting_41 : decode cX0_changeSetting 41 = .ok (.iconst 0, 1) := by decide +kernel
theorem dX0_changeSetting_42 : decode cX0_changeSetting 42 = .ok (.istore_n 3, 1) := by decide +kernel
theorem dX0_changeSetting_43 : decode cX0_changeSetting 43 = .ok (.iload_n 3, 1) := by decide +kernel
theorem dX0_changeSetting_44 : decode cX0_changeSetting 44 = .ok (.ifCond .ne 5, 3) := by decide +kernel
theorem dX0_changeSetting_47 : decode cX0_changeSetting 47 = .ok (.iconst (-1), 1) := by decide +kernel
theorem dX0_changeSetting_48 : decode cX0_changeSetting 48 = .ok (.ireturn, 1) := by decide +kernel
theorem dX0_changeSetting_49 : decode cX0_changeSetting 49 = .ok (.aload_n 0, 1) := by decide +kernel
theorem dX0_changeSetting_50 : decode cX0_changeSetting 50 = .ok (.getfield 22, 3) := by decide +kernel
theorem dX0_changeSetting_53 : decode cX0_changeSetting 53 = .ok (.iload_n 1, 1) := by decide +kernel
theorem dX0_changeSetting_54 : decode cX0_changeSetting 54 = .ok (.iaload, 1) := by decide +kernel
theorem dX0_changeSetting_55 : decode cX0_changeSetting 55 = .ok (.istore 4, 2) := by decide +kernel
theorem dX0_changeSetting_57 : decode cX0_changeSetting 57 = .ok (.aload_n 0, 1) := by decide +kernel
theorem dX0_changeSetting_58 : decode cX0_changeSetting 58 = .ok (.getfield 22, 3) := by decide +kernel
theorem dX0_changeSetting_61 : decode cX0_changeSetting 61 = .ok (.iload_n 1, 1) := by decide +kernel
theorem dX0_changeSetting_62 : decode cX0_changeSetting 62 = .ok (.iload_n 2, 1) := by decide +kernel
theorem dX0_changeSetting_63 : decode cX0_changeSetting 63 = .ok (.iastore, 1) := by decide +kernel
theorem dX0_changeSetting_64 : decode cX0_changeSetting 64 = .ok (.iload 4, 2) := by decide +kernel
theorem dX0_changeSetting_66 : decode cX0_changeSetting 66 = .ok (.ireturn, 1) := by decide +kernel
set_option maxRecDepth 20000 in
theorem ggX0_passTicks_X0_passTick : GoodIn wsX0_passTicks wsX0_passTick := goodIn_r _ [7, 1, 8, 9, 10, 11, 6, 12, 13, 14, 15, 16, 17, 18, 19, 20, 21, 22, 23, 24, 25, 26, 27, 28, 29, 30, 31, 32, 33, 34, 35, 36, 37, 38, 39, 40, 41, 42, 43, 44, 45, 46, 47, 48, 49, 50, 51, 52, 53, 54, 55, 56, 57, 58, 59, 60, 61, 62, 63, 64, 65, 66, 67, 68, 69, 70, 71, 72, 73, 74, 75, 76, 77, 78, 79, 80, 81, 82] (by decide +kernel) (by decide +kernel)
set_option maxRecDepth 20000 in
theorem gX0_passTicks_X0_passTick : GoodIn wsX0_passTicks (wsV RX0 93 RX0 yX0_passTick wsX0_passTick) := goodIn_app (goodIn_of _ (by decide +kernel)) ggX0_passTicks_X0_passTick
theorem dX0_passTicks_0 : decode cX0_passTicks 0 = .ok (.iload_n 1, 1) := by decide +kernel
theorem dX0_passTicks_1 : decode cX0_passTicks 1 = .ok (.iconst 1, 1) := by decide +kernel
theorem dX0_passTicks_2 : decode cX0_passTicks 2 = .ok (.if_icmp .lt 10, 3) := by decide +kernel
theorem dX0_passTicks_5 : decode cX0_passTicks 5 = .ok (.iload_n 1, 1) := by decide +kernel
theorem dX0_passTicks_6 : decode cX0_passTicks 6 = .ok (.sipush 200, 3) := by decide +kernel
theorem dX0_passTicks_9 : decode cX0_passTicks 9 = .ok (.if_icmp .le 5, 3) := by decide +kernel
theorem dX0_passTicks_12 : decode cX0_passTicks 12 = .ok (.iconst (-1), 1) := by decide +kernel
theorem dX0_passTicks_13 : decode cX0_passTicks 13 = .ok (.ireturn, 1) := by decide +kernel
theorem dX0_passTicks_14 : decode cX0_passTicks 14 = .ok (.aload_n 0, 1) := by decide +kernel
theorem dX0_passTicks_15 : decode cX0_passTicks 15 = .ok (.getfield 43, 3) := by decide +kernel
theorem dX0_passTicks_18 : decode cX0_passTicks 18 = .ok (.iload_n 1, 1) := by decide +kernel
theorem dX0_passTicks_19 : decode cX0_passTicks 19 = .ok (.iadd, 1) := by decide +kernel
theorem dX0_passTicks_20 : decode cX0_passTicks 20 = .ok (.ldc 92, 2) := by decide +kernel
theorem dX0_passTicks_22 : decode cX0_passTicks 22 = .ok (.if_icmp .le 6, 3) := by decide +kernel
theorem dX0_passTicks_25 : decode cX0_passTicks 25 = .ok (.bipush (-3), 2) := by decide +kernel
theorem dX0_passTicks_27 : decode cX0_passTicks 27 = .ok (.ireturn, 1) := by decide +kernel
theorem dX0_passTicks_28 : decode cX0_passTicks 28 = .ok (.iconst 0, 1) := by decide +kernel
theorem dX0_passTicks_29 : decode cX0_passTicks 29 = .ok (.istore_n 2, 1) := by decide +kernel
theorem dX0_passTicks_30 : decode cX0_passTicks 30 = .ok (.iconst 0, 1) := by decide +kernel
theorem dX0_passTicks_31 : decode cX0_passTicks 31 = .ok (.istore_n 3, 1) := by decide +kernel
theorem dX0_passTicks_32 : decode cX0_passTicks 32 = .ok (.iload_n 3, 1) := by decide +kernel
theorem dX0_passTicks_33 : decode cX0_passTicks 33 = .ok (.iload_n 1, 1) := by decide +kernel
theorem dX0_passTicks_34 : decode cX0_passTicks 34 = .ok (.if_icmp .ge 16, 3) := by decide +kernel
theorem dX0_passTicks_37 : decode cX0_passTicks 37 = .ok (.iload_n 2, 1) := by decide +kernel
theorem dX0_passTicks_38 : decode cX0_passTicks 38 = .ok (.aload_n 0, 1) := by decide +kernel
theorem dX0_passTicks_39 : decode cX0_passTicks 39 = .ok (.invokevirtual 93, 3) := by decide +kernel
theorem dX0_passTicks_42 : decode cX0_passTicks 42 = .ok (.iadd, 1) := by decide +kernel
theorem dX0_passTicks_43 : decode cX0_passTicks 43 = .ok (.istore_n 2, 1) := by decide +kernel
theorem dX0_passTicks_44 : decode cX0_passTicks 44 = .ok (.iinc 3 1, 3) := by decide +kernel
theorem dX0_passTicks_47 : decode cX0_passTicks 47 = .ok (.goto (-15), 3) := by decide +kernel
theorem dX0_passTicks_50 : decode cX0_passTicks 50 = .ok (.iload_n 2, 1) := by decide +kernel
theorem dX0_passTicks_51 : decode cX0_passTicks 51 = .ok (.ireturn, 1) := by decide +kernel
set_option maxRecDepth 20000 in
theorem ggX0_passTick_X0_flowIn : GoodIn wsX0_passTick wsX0_flowIn := goodIn_r _ [7, 1, 8, 9, 10, 11, 12, 13, 14, 15, 16, 6, 17, 18, 19, 20, 21, 22, 23, 68, 69, 70, 71, 72, 73, 74, 75, 76, 77] (by decide +kernel) (by decide +kernel)
set_option maxRecDepth 20000 in
theorem gX0_passTick_X0_flowIn : GoodIn wsX0_passTick (wsV RX0 97 RX0 yX0_flowIn wsX0_flowIn) := goodIn_app (goodIn_of _ (by decide +kernel)) ggX0_passTick_X0_flowIn
set_option maxRecDepth 20000 in
theorem ggX0_passTick_X0_timeOfDay : GoodIn wsX0_passTick wsX0_timeOfDay := goodIn_r _ [27, 2, 1, 68, 69, 70, 71, 72, 73, 74, 75, 76, 77] (by decide +kernel) (by decide +kernel)
set_option maxRecDepth 20000 in
theorem gX0_passTick_X0_timeOfDay : GoodIn wsX0_passTick (wsV RX0 100 RX0 yX0_timeOfDay wsX0_timeOfDay) := goodIn_app (goodIn_of _ (by decide +kernel)) ggX0_passTick_X0_timeOfDay
set_option maxRecDepth 20000 in
theorem ggX0_passTick_X0_lendAtNoon : GoodIn wsX0_passTick wsX0_lendAtNoon := goodIn_r _ [31, 8, 9, 10, 11, 12, 13, 32, 33, 34, 6, 35, 20, 21, 22, 23, 68, 69, 70, 71, 72, 73, 74, 75, 76, 77] (by decide +kernel) (by decide +kernel)
set_option maxRecDepth 20000 in
theorem gX0_passTick_X0_lendAtNoon : GoodIn wsX0_passTick (wsV RX0 103 RX0 yX0_lendAtNoon wsX0_lendAtNoon) := goodIn_app (goodIn_of _ (by decide +kernel)) ggX0_passTick_X0_lendAtNoon
set_option maxRecDepth 20000 in
theorem ggX0_passTick_X0_payBackInEvening : GoodIn wsX0_passTick wsX0_payBackInEvening := goodIn_r _ [39, 8, 9, 40, 41, 42, 6, 43, 10, 11, 12, 13, 20, 21, 22, 23, 68, 69, 70, 71, 72, 73, 74, 75, 76, 77] (by decide +kernel) (by decide +kernel)
set_option maxRecDepth 20000 in
theorem gX0_passTick_X0_payBackInEvening : GoodIn wsX0_passTick (wsV RX0 106 RX0 yX0_payBackInEvening wsX0_payBackInEvening) := goodIn_app (goodIn_of _ (by decide +kernel)) ggX0_passTick_X0_payBackInEvening
set_option maxRecDepth 20000 in
theorem ggX0_passTick_X0_serveWaiting : GoodIn wsX0_passTick wsX0_serveWaiting := goodIn_r _ [47, 48, 49, 2, 50, 51, 52, 53, 6, 54, 55, 9, 10, 11, 12, 13, 56, 57, 58, 59, 32, 33, 34, 35, 8, 60, 61, 62, 63, 64, 65, 66, 67, 68, 69, 70, 71, 72, 73, 74, 75, 76, 77] (by decide +kernel) (by decide +kernel)
set_option maxRecDepth 20000 in
theorem gX0_passTick_X0_serveWaiting : GoodIn wsX0_passTick (wsV RX0 109 RX0 yX0_serveWaiting wsX0_serveWaiting) := goodIn_app (goodIn_of _ (by decide +kernel)) ggX0_passTick_X0_serveWaiting
theorem dX0_passTick_0 : decode cX0_passTick 0 = .ok (.aload_n 0, 1) := by decide +kernel
theorem dX0_passTick_1 : decode cX0_passTick 1 = .ok (.dup, 1) := by decide +kernel
theorem dX0_passTick_2 : decode cX0_passTick 2 = .ok (.getfield 43, 3) := by decide +kernel
theorem dX0_passTick_5 : decode cX0_passTick 5 = .ok (.iconst 1, 1) := by decide +kernel
theorem dX0_passTick_6 : decode cX0_passTick 6 = .ok (.iadd, 1) := by decide +kernel
theorem dX0_passTick_7 : decode cX0_passTick 7 = .ok (.putfield 43, 3) := by decide +kernel
theorem dX0_passTick_10 : decode cX0_passTick 10 = .ok (.aload_n 0, 1) := by decide +kernel
theorem dX0_passTick_11 : decode cX0_passTick 11 = .ok (.invokevirtual 97, 3) := by decide +kernel
theorem dX0_passTick_14 : decode cX0_passTick 14 = .ok (.aload_n 0, 1) := by decide +kernel
theorem dX0_passTick_15 : decode cX0_passTick 15 = .ok (.invokevirtual 100, 3) := by decide +kernel
theorem dX0_passTick_18 : decode cX0_passTick 18 = .ok (.ifCond .ne 11, 3) := by decide +kernel
theorem dX0_passTick_21 : decode cX0_passTick 21 = .ok (.aload_n 0, 1) := by decide +kernel
theorem dX0_passTick_22 : decode cX0_passTick 22 = .ok (.invokevirtual 103, 3) := by decide +kernel
theorem dX0_passTick_25 : decode cX0_passTick 25 = .ok (.pop, 1) := by decide +kernel
theorem dX0_passTick_26 : decode cX0_passTick 26 = .ok (.goto 22, 3) := by decide +kernel
theorem dX0_passTick_29 : decode cX0_passTick 29 = .ok (.aload_n 0, 1) := by decide +kernel
theorem dX0_passTick_30 : decode cX0_passTick 30 = .ok (.invokevirtual 100, 3) := by decide +kernel
theorem dX0_passTick_33 : decode cX0_passTick 33 = .ok (.aload_n 0, 1) := by decide +kernel
theorem dX0_passTick_34 : decode cX0_passTick 34 = .ok (.getfield 22, 3) := by decide +kernel
theorem dX0_passTick_37 : decode cX0_passTick 37 = .ok (.iconst 0, 1) := by decide +kernel
theorem dX0_passTick_38 : decode cX0_passTick 38 = .ok (.iaload, 1) := by decide +kernel
theorem dX0_passTick_39 : decode cX0_passTick 39 = .ok (.iconst 2, 1) := by decide +kernel
theorem dX0_passTick_40 : decode cX0_passTick 40 = .ok (.idiv, 1) := by decide +kernel
theorem dX0_passTick_41 : decode cX0_passTick 41 = .ok (.if_icmp .ne 7, 3) := by decide +kernel
theorem dX0_passTick_44 : decode cX0_passTick 44 = .ok (.aload_n 0, 1) := by decide +kernel
theorem dX0_passTick_45 : decode cX0_passTick 45 = .ok (.invokevirtual 106, 3) := by decide +kernel
theorem dX0_passTick_48 : decode cX0_passTick 48 = .ok (.aload_n 0, 1) := by decide +kernel
theorem dX0_passTick_49 : decode cX0_passTick 49 = .ok (.invokevirtual 109, 3) := by decide +kernel
theorem dX0_passTick_52 : decode cX0_passTick 52 = .ok (.ireturn, 1) := by decide +kernel
set_option maxRecDepth 20000 in
theorem ggX0_flowIn_X0_dryWells : GoodIn wsX0_flowIn wsX0_dryWells := goodIn_r _ [12, 13, 14, 19, 20, 21, 22, 23, 24, 25, 26, 27, 28] (by decide +kernel) (by decide +kernel)
set_option maxRecDepth 20000 in
theorem gX0_flowIn_X0_dryWells : GoodIn wsX0_flowIn (wsV RX0 66 RX0 yX0_dryWells wsX0_dryWells) := goodIn_app (goodIn_of _ (by decide +kernel)) ggX0_flowIn_X0_dryWells
set_option maxRecDepth 20000 in
theorem ggX0_flowIn_X0_roomIn : GoodIn wsX0_flowIn wsX0_roomIn := goodIn_r _ [18, 3, 19, 20, 21, 22, 23, 24, 25, 26, 27, 28] (by decide +kernel) (by decide +kernel)
set_option maxRecDepth 20000 in
theorem gX0_flowIn_X0_roomIn : GoodIn wsX0_flowIn (wsV RX0 112 RX0 yX0_roomIn wsX0_roomIn) := goodIn_app (goodIn_of _ (by decide +kernel)) ggX0_flowIn_X0_roomIn
theorem dX0_flowIn_0 : decode cX0_flowIn 0 = .ok (.aload_n 0, 1) := by decide +kernel
theorem dX0_flowIn_1 : decode cX0_flowIn 1 = .ok (.aload_n 0, 1) := by decide +kernel
theorem dX0_flowIn_2 : decode cX0_flowIn 2 = .ok (.getfield 43, 3) := by decide +kernel
theorem dX0_flowIn_5 : decode cX0_flowIn 5 = .ok (.invokevirtual 66, 3) := by decide +kernel
theorem dX0_flowIn_8 : decode cX0_flowIn 8 = .ok (.istore_n 1, 1) := by decide +kernel
theorem dX0_flowIn_9 : decode cX0_flowIn 9 = .ok (.iconst 0, 1) := by decide +kernel
theorem dX0_flowIn_10 : decode cX0_flowIn 10 = .ok (.istore_n 2, 1) := by decide +kernel
theorem dX0_flowIn_11 : decode cX0_flowIn 11 = .ok (.iload_n 2, 1) := by decide +kernel
theorem dX0_flowIn_12 : decode cX0_flowIn 12 = .ok (.aload_n 0, 1) := by decide +kernel
theorem dX0_flowIn_13 : decode cX0_flowIn 13 = .ok (.getfield 33, 3) := by decide +kernel
theorem dX0_flowIn_16 : decode cX0_flowIn 16 = .ok (.if_icmp .ge 80, 3) := by decide +kernel
theorem dX0_flowIn_19 : decode cX0_flowIn 19 = .ok (.iload_n 1, 1) := by decide +kernel
theorem dX0_flowIn_20 : decode cX0_flowIn 20 = .ok (.iload_n 2, 1) := by decide +kernel
theorem dX0_flowIn_21 : decode cX0_flowIn 21 = .ok (.ishr, 1) := by decide +kernel
theorem dX0_flowIn_22 : decode cX0_flowIn 22 = .ok (.iconst 1, 1) := by decide +kernel
theorem dX0_flowIn_23 : decode cX0_flowIn 23 = .ok (.iand, 1) := by decide +kernel
theorem dX0_flowIn_24 : decode cX0_flowIn 24 = .ok (.ifCond .ne 66, 3) := by decide +kernel
theorem dX0_flowIn_27 : decode cX0_flowIn 27 = .ok (.aload_n 0, 1) := by decide +kernel
theorem dX0_flowIn_28 : decode cX0_flowIn 28 = .ok (.getfield 11, 3) := by decide +kernel
theorem dX0_flowIn_31 : decode cX0_flowIn 31 = .ok (.iconst 2, 1) := by decide +kernel
theorem dX0_flowIn_32 : decode cX0_flowIn 32 = .ok (.aaload, 1) := by decide +kernel
theorem dX0_flowIn_33 : decode cX0_flowIn 33 = .ok (.iload_n 2, 1) := by decide +kernel
theorem dX0_flowIn_34 : decode cX0_flowIn 34 = .ok (.iaload, 1) := by decide +kernel
theorem dX0_flowIn_35 : decode cX0_flowIn 35 = .ok (.istore_n 3, 1) := by decide +kernel
theorem dX0_flowIn_36 : decode cX0_flowIn 36 = .ok (.iload_n 3, 1) := by decide +kernel
theorem dX0_flowIn_37 : decode cX0_flowIn 37 = .ok (.aload_n 0, 1) := by decide +kernel
theorem dX0_flowIn_38 : decode cX0_flowIn 38 = .ok (.iload_n 2, 1) := by decide +kernel
theorem dX0_flowIn_39 : decode cX0_flowIn 39 = .ok (.invokevirtual 112, 3) := by decide +kernel
theorem dX0_flowIn_42 : decode cX0_flowIn 42 = .ok (.invokestatic 49, 3) := by decide +kernel
theorem dX0_flowIn_45 : decode cX0_flowIn 45 = .ok (.istore 4, 2) := by decide +kernel
theorem dX0_flowIn_47 : decode cX0_flowIn 47 = .ok (.aload_n 0, 1) := by decide +kernel
theorem dX0_flowIn_48 : decode cX0_flowIn 48 = .ok (.getfield 11, 3) := by decide +kernel
theorem dX0_flowIn_51 : decode cX0_flowIn 51 = .ok (.iconst 4, 1) := by decide +kernel
theorem dX0_flowIn_52 : decode cX0_flowIn 52 = .ok (.aaload, 1) := by decide +kernel
theorem dX0_flowIn_53 : decode cX0_flowIn 53 = .ok (.iload_n 2, 1) := by decide +kernel
theorem dX0_flowIn_54 : decode cX0_flowIn 54 = .ok (.dup2, 1) := by decide +kernel
theorem dX0_flowIn_55 : decode cX0_flowIn 55 = .ok (.iaload, 1) := by decide +kernel
theorem dX0_flowIn_56 : decode cX0_flowIn 56 = .ok (.iload 4, 2) := by decide +kernel
theorem dX0_flowIn_58 : decode cX0_flowIn 58 = .ok (.iadd, 1) := by decide +kernel
theorem dX0_flowIn_59 : decode cX0_flowIn 59 = .ok (.iastore, 1) := by decide +kernel
theorem dX0_flowIn_60 : decode cX0_flowIn 60 = .ok (.aload_n 0, 1) := by decide +kernel
theorem dX0_flowIn_61 : decode cX0_flowIn 61 = .ok (.getfield 11, 3) := by decide +kernel
theorem dX0_flowIn_64 : decode cX0_flowIn 64 = .ok (.bipush 6, 2) := by decide +kernel
theorem dX0_flowIn_66 : decode cX0_flowIn 66 = .ok (.aaload, 1) := by decide +kernel
theorem dX0_flowIn_67 : decode cX0_flowIn 67 = .ok (.iload_n 2, 1) := by decide +kernel
theorem dX0_flowIn_68 : decode cX0_flowIn 68 = .ok (.dup2, 1) := by decide +kernel
theorem dX0_flowIn_69 : decode cX0_flowIn 69 = .ok (.iaload, 1) := by decide +kernel
theorem dX0_flowIn_70 : decode cX0_flowIn 70 = .ok (.iload 4, 2) := by decide +kernel
theorem dX0_flowIn_72 : decode cX0_flowIn 72 = .ok (.iadd, 1) := by decide +kernel
theorem dX0_flowIn_73 : decode cX0_flowIn 73 = .ok (.iastore, 1) := by decide +kernel
theorem dX0_flowIn_74 : decode cX0_flowIn 74 = .ok (.aload_n 0, 1) := by decide +kernel
theorem dX0_flowIn_75 : decode cX0_flowIn 75 = .ok (.getfield 11, 3) := by decide +kernel
theorem dX0_flowIn_78 : decode cX0_flowIn 78 = .ok (.bipush 7, 2) := by decide +kernel
theorem dX0_flowIn_80 : decode cX0_flowIn 80 = .ok (.aaload, 1) := by decide +kernel
theorem dX0_flowIn_81 : decode cX0_flowIn 81 = .ok (.iload_n 2, 1) := by decide +kernel
theorem dX0_flowIn_82 : decode cX0_flowIn 82 = .ok (.dup2, 1) := by decide +kernel
theorem dX0_flowIn_83 : decode cX0_flowIn 83 = .ok (.iaload, 1) := by decide +kernel
theorem dX0_flowIn_84 : decode cX0_flowIn 84 = .ok (.iload_n 3, 1) := by decide +kernel
theorem dX0_flowIn_85 : decode cX0_flowIn 85 = .ok (.iload 4, 2) := by decide +kernel
theorem dX0_flowIn_87 : decode cX0_flowIn 87 = .ok (.isub, 1) := by decide +kernel
theorem dX0_flowIn_88 : decode cX0_flowIn 88 = .ok (.iadd, 1) := by decide +kernel
theorem dX0_flowIn_89 : decode cX0_flowIn 89 = .ok (.iastore, 1) := by decide +kernel
theorem dX0_flowIn_90 : decode cX0_flowIn 90 = .ok (.iinc 2 1, 3) := by decide +kernel
theorem dX0_flowIn_93 : decode cX0_flowIn 93 = .ok (.goto (-82), 3) := by decide +kernel
theorem dX0_flowIn_96 : decode cX0_flowIn 96 = .ok (.return_, 1) := by decide +kernel
theorem dX0_roomIn_0 : decode cX0_roomIn 0 = .ok (.aload_n 0, 1) := by decide +kernel
theorem dX0_roomIn_1 : decode cX0_roomIn 1 = .ok (.getfield 11, 3) := by decide +kernel
theorem dX0_roomIn_4 : decode cX0_roomIn 4 = .ok (.iconst 1, 1) := by decide +kernel
theorem dX0_roomIn_5 : decode cX0_roomIn 5 = .ok (.aaload, 1) := by decide +kernel
theorem dX0_roomIn_6 : decode cX0_roomIn 6 = .ok (.iload_n 1, 1) := by decide +kernel
theorem dX0_roomIn_7 : decode cX0_roomIn 7 = .ok (.iaload, 1) := by decide +kernel
theorem dX0_roomIn_8 : decode cX0_roomIn 8 = .ok (.aload_n 0, 1) := by decide +kernel
theorem dX0_roomIn_9 : decode cX0_roomIn 9 = .ok (.getfield 11, 3) := by decide +kernel
theorem dX0_roomIn_12 : decode cX0_roomIn 12 = .ok (.iconst 4, 1) := by decide +kernel
theorem dX0_roomIn_13 : decode cX0_roomIn 13 = .ok (.aaload, 1) := by decide +kernel
theorem dX0_roomIn_14 : decode cX0_roomIn 14 = .ok (.iload_n 1, 1) := by decide +kernel
theorem dX0_roomIn_15 : decode cX0_roomIn 15 = .ok (.iaload, 1) := by decide +kernel
theorem dX0_roomIn_16 : decode cX0_roomIn 16 = .ok (.isub, 1) := by decide +kernel
theorem dX0_roomIn_17 : decode cX0_roomIn 17 = .ok (.ireturn, 1) := by decide +kernel
set_option maxRecDepth 20000 in
theorem ggX0_lendAtNoon_X0_isWell : GoodIn wsX0_lendAtNoon wsX0_isWell := goodIn_r _ [11, 1, 16, 17, 18, 19, 20, 21, 22, 23, 24, 25] (by decide +kernel) (by decide +kernel)
set_option maxRecDepth 20000 in
theorem gX0_lendAtNoon_X0_isWell : GoodIn wsX0_lendAtNoon (wsV RX0 61 RX0 yX0_isWell wsX0_isWell) := goodIn_app (goodIn_of _ (by decide +kernel)) ggX0_lendAtNoon_X0_isWell
set_option maxRecDepth 20000 in
theorem ggX0_lendAtNoon_X0_roomIn : GoodIn wsX0_lendAtNoon wsX0_roomIn := goodIn_r _ [15, 2, 16, 17, 18, 19, 20, 21, 22, 23, 24, 25] (by decide +kernel) (by decide +kernel)
set_option maxRecDepth 20000 in
theorem gX0_lendAtNoon_X0_roomIn : GoodIn wsX0_lendAtNoon (wsV RX0 112 RX0 yX0_roomIn wsX0_roomIn) := goodIn_app (goodIn_of _ (by decide +kernel)) ggX0_lendAtNoon_X0_roomIn
theorem dX0_lendAtNoon_0 : decode cX0_lendAtNoon 0 = .ok (.iconst 0, 1) := by decide +kernel
theorem dX0_lendAtNoon_1 : decode cX0_lendAtNoon 1 = .ok (.istore_n 1, 1) := by decide +kernel
theorem dX0_lendAtNoon_2 : decode cX0_lendAtNoon 2 = .ok (.aload_n 0, 1) := by decide +kernel
theorem dX0_lendAtNoon_3 : decode cX0_lendAtNoon 3 = .ok (.getfield 33, 3) := by decide +kernel
theorem dX0_lendAtNoon_6 : decode cX0_lendAtNoon 6 = .ok (.iconst 1, 1) := by decide +kernel
theorem dX0_lendAtNoon_7 : decode cX0_lendAtNoon 7 = .ok (.isub, 1) := by decide +kernel
theorem dX0_lendAtNoon_8 : decode cX0_lendAtNoon 8 = .ok (.istore_n 2, 1) := by decide +kernel
theorem dX0_lendAtNoon_9 : decode cX0_lendAtNoon 9 = .ok (.iload_n 2, 1) := by decide +kernel
theorem dX0_lendAtNoon_10 : decode cX0_lendAtNoon 10 = .ok (.ifCond .le 127, 3) := by decide +kernel
theorem dX0_lendAtNoon_13 : decode cX0_lendAtNoon 13 = .ok (.aload_n 0, 1) := by decide +kernel
theorem dX0_lendAtNoon_14 : decode cX0_lendAtNoon 14 = .ok (.getfield 11, 3) := by decide +kernel
theorem dX0_lendAtNoon_17 : decode cX0_lendAtNoon 17 = .ok (.iconst 0, 1) := by decide +kernel
theorem dX0_lendAtNoon_18 : decode cX0_lendAtNoon 18 = .ok (.aaload, 1) := by decide +kernel
theorem dX0_lendAtNoon_19 : decode cX0_lendAtNoon 19 = .ok (.iload_n 2, 1) := by decide +kernel
theorem dX0_lendAtNoon_20 : decode cX0_lendAtNoon 20 = .ok (.iaload, 1) := by decide +kernel
theorem dX0_lendAtNoon_21 : decode cX0_lendAtNoon 21 = .ok (.istore_n 3, 1) := by decide +kernel
theorem dX0_lendAtNoon_22 : decode cX0_lendAtNoon 22 = .ok (.aload_n 0, 1) := by decide +kernel
theorem dX0_lendAtNoon_23 : decode cX0_lendAtNoon 23 = .ok (.getfield 11, 3) := by decide +kernel
theorem dX0_lendAtNoon_26 : decode cX0_lendAtNoon 26 = .ok (.iconst 4, 1) := by decide +kernel
theorem dX0_lendAtNoon_27 : decode cX0_lendAtNoon 27 = .ok (.aaload, 1) := by decide +kernel
theorem dX0_lendAtNoon_28 : decode cX0_lendAtNoon 28 = .ok (.iload_n 2, 1) := by decide +kernel
theorem dX0_lendAtNoon_29 : decode cX0_lendAtNoon 29 = .ok (.iaload, 1) := by decide +kernel
theorem dX0_lendAtNoon_30 : decode cX0_lendAtNoon 30 = .ok (.aload_n 0, 1) := by decide +kernel
theorem dX0_lendAtNoon_31 : decode cX0_lendAtNoon 31 = .ok (.getfield 11, 3) := by decide +kernel
theorem dX0_lendAtNoon_34 : decode cX0_lendAtNoon 34 = .ok (.iconst 1, 1) := by decide +kernel
theorem dX0_lendAtNoon_35 : decode cX0_lendAtNoon 35 = .ok (.aaload, 1) := by decide +kernel
theorem dX0_lendAtNoon_36 : decode cX0_lendAtNoon 36 = .ok (.iload_n 2, 1) := by decide +kernel
theorem dX0_lendAtNoon_37 : decode cX0_lendAtNoon 37 = .ok (.iaload, 1) := by decide +kernel
theorem dX0_lendAtNoon_38 : decode cX0_lendAtNoon 38 = .ok (.iconst 2, 1) := by decide +kernel
theorem dX0_lendAtNoon_39 : decode cX0_lendAtNoon 39 = .ok (.idiv, 1) := by decide +kernel
theorem dX0_lendAtNoon_40 : decode cX0_lendAtNoon 40 = .ok (.isub, 1) := by decide +kernel
theorem dX0_lendAtNoon_41 : decode cX0_lendAtNoon 41 = .ok (.istore 4, 2) := by decide +kernel
theorem dX0_lendAtNoon_43 : decode cX0_lendAtNoon 43 = .ok (.aload_n 0, 1) := by decide +kernel
theorem dX0_lendAtNoon_44 : decode cX0_lendAtNoon 44 = .ok (.iload_n 3, 1) := by decide +kernel
theorem dX0_lendAtNoon_45 : decode cX0_lendAtNoon 45 = .ok (.invokevirtual 61, 3) := by decide +kernel
theorem dX0_lendAtNoon_48 : decode cX0_lendAtNoon 48 = .ok (.ifCond .eq 16, 3) := by decide +kernel
theorem dX0_lendAtNoon_51 : decode cX0_lendAtNoon 51 = .ok (.iload 4, 2) := by decide +kernel
theorem dX0_lendAtNoon_53 : decode cX0_lendAtNoon 53 = .ok (.aload_n 0, 1) := by decide +kernel
theorem dX0_lendAtNoon_54 : decode cX0_lendAtNoon 54 = .ok (.iload_n 3, 1) := by decide +kernel
theorem dX0_lendAtNoon_55 : decode cX0_lendAtNoon 55 = .ok (.invokevirtual 112, 3) := by decide +kernel
theorem dX0_lendAtNoon_58 : decode cX0_lendAtNoon 58 = .ok (.invokestatic 49, 3) := by decide +kernel
theorem dX0_lendAtNoon_61 : decode cX0_lendAtNoon 61 = .ok (.goto 4, 3) := by decide +kernel
theorem dX0_lendAtNoon_64 : decode cX0_lendAtNoon 64 = .ok (.iconst 0, 1) := by decide +kernel
theorem dX0_lendAtNoon_65 : decode cX0_lendAtNoon 65 = .ok (.istore 5, 2) := by decide +kernel
theorem dX0_lendAtNoon_67 : decode cX0_lendAtNoon 67 = .ok (.iload 5, 2) := by decide +kernel
theorem dX0_lendAtNoon_69 : decode cX0_lendAtNoon 69 = .ok (.ifCond .le 62, 3) := by decide +kernel
theorem dX0_lendAtNoon_72 : decode cX0_lendAtNoon 72 = .ok (.aload_n 0, 1) := by decide +kernel
theorem dX0_lendAtNoon_73 : decode cX0_lendAtNoon 73 = .ok (.getfield 11, 3) := by decide +kernel
theorem dX0_lendAtNoon_76 : decode cX0_lendAtNoon 76 = .ok (.iconst 4, 1) := by decide +kernel
theorem dX0_lendAtNoon_77 : decode cX0_lendAtNoon 77 = .ok (.aaload, 1) := by decide +kernel
theorem dX0_lendAtNoon_78 : decode cX0_lendAtNoon 78 = .ok (.iload_n 2, 1) := by decide +kernel
theorem dX0_lendAtNoon_79 : decode cX0_lendAtNoon 79 = .ok (.dup2, 1) := by decide +kernel
theorem dX0_lendAtNoon_80 : decode cX0_lendAtNoon 80 = .ok (.iaload, 1) := by decide +kernel
theorem dX0_lendAtNoon_81 : decode cX0_lendAtNoon 81 = .ok (.iload 5, 2) := by decide +kernel
theorem dX0_lendAtNoon_83 : decode cX0_lendAtNoon 83 = .ok (.isub, 1) := by decide +kernel
theorem dX0_lendAtNoon_84 : decode cX0_lendAtNoon 84 = .ok (.iastore, 1) := by decide +kernel
theorem dX0_lendAtNoon_85 : decode cX0_lendAtNoon 85 = .ok (.aload_n 0, 1) := by decide +kernel
theorem dX0_lendAtNoon_86 : decode cX0_lendAtNoon 86 = .ok (.getfield 11, 3) := by decide +kernel
theorem dX0_lendAtNoon_89 : decode cX0_lendAtNoon 89 = .ok (.iconst 4, 1) := by decide +kernel
theorem dX0_lendAtNoon_90 : decode cX0_lendAtNoon 90 = .ok (.aaload, 1) := by decide +kernel
theorem dX0_lendAtNoon_91 : decode cX0_lendAtNoon 91 = .ok (.iload_n 3, 1) := by decide +kernel
theorem dX0_lendAtNoon_92 : decode cX0_lendAtNoon 92 = .ok (.dup2, 1) := by decide +kernel
theorem dX0_lendAtNoon_93 : decode cX0_lendAtNoon 93 = .ok (.iaload, 1) := by decide +kernel
theorem dX0_lendAtNoon_94 : decode cX0_lendAtNoon 94 = .ok (.iload 5, 2) := by decide +kernel
theorem dX0_lendAtNoon_96 : decode cX0_lendAtNoon 96 = .ok (.iadd, 1) := by decide +kernel
theorem dX0_lendAtNoon_97 : decode cX0_lendAtNoon 97 = .ok (.iastore, 1) := by decide +kernel
theorem dX0_lendAtNoon_98 : decode cX0_lendAtNoon 98 = .ok (.aload_n 0, 1) := by decide +kernel
theorem dX0_lendAtNoon_99 : decode cX0_lendAtNoon 99 = .ok (.getfield 11, 3) := by decide +kernel
theorem dX0_lendAtNoon_102 : decode cX0_lendAtNoon 102 = .ok (.iconst 5, 1) := by decide +kernel
theorem dX0_lendAtNoon_103 : decode cX0_lendAtNoon 103 = .ok (.aaload, 1) := by decide +kernel
theorem dX0_lendAtNoon_104 : decode cX0_lendAtNoon 104 = .ok (.iload_n 2, 1) := by decide +kernel
theorem dX0_lendAtNoon_105 : decode cX0_lendAtNoon 105 = .ok (.dup2, 1) := by decide +kernel
theorem dX0_lendAtNoon_106 : decode cX0_lendAtNoon 106 = .ok (.iaload, 1) := by decide +kernel
theorem dX0_lendAtNoon_107 : decode cX0_lendAtNoon 107 = .ok (.iload 5, 2) := by decide +kernel
theorem dX0_lendAtNoon_109 : decode cX0_lendAtNoon 109 = .ok (.iadd, 1) := by decide +kernel
theorem dX0_lendAtNoon_110 : decode cX0_lendAtNoon 110 = .ok (.iastore, 1) := by decide +kernel
theorem dX0_lendAtNoon_111 : decode cX0_lendAtNoon 111 = .ok (.aload_n 0, 1) := by decide +kernel
theorem dX0_lendAtNoon_112 : decode cX0_lendAtNoon 112 = .ok (.getfield 11, 3) := by decide +kernel
theorem dX0_lendAtNoon_115 : decode cX0_lendAtNoon 115 = .ok (.bipush 10, 2) := by decide +kernel
theorem dX0_lendAtNoon_117 : decode cX0_lendAtNoon 117 = .ok (.aaload, 1) := by decide +kernel
theorem dX0_lendAtNoon_118 : decode cX0_lendAtNoon 118 = .ok (.iload_n 3, 1) := by decide +kernel
theorem dX0_lendAtNoon_119 : decode cX0_lendAtNoon 119 = .ok (.dup2, 1) := by decide +kernel
theorem dX0_lendAtNoon_120 : decode cX0_lendAtNoon 120 = .ok (.iaload, 1) := by decide +kernel
theorem dX0_lendAtNoon_121 : decode cX0_lendAtNoon 121 = .ok (.iload 5, 2) := by decide +kernel
theorem dX0_lendAtNoon_123 : decode cX0_lendAtNoon 123 = .ok (.iadd, 1) := by decide +kernel
theorem dX0_lendAtNoon_124 : decode cX0_lendAtNoon 124 = .ok (.iastore, 1) := by decide +kernel
theorem dX0_lendAtNoon_125 : decode cX0_lendAtNoon 125 = .ok (.iload_n 1, 1) := by decide +kernel
theorem dX0_lendAtNoon_126 : decode cX0_lendAtNoon 126 = .ok (.iconst 1, 1) := by decide +kernel
theorem dX0_lendAtNoon_127 : decode cX0_lendAtNoon 127 = .ok (.iload_n 2, 1) := by decide +kernel
theorem dX0_lendAtNoon_128 : decode cX0_lendAtNoon 128 = .ok (.ishl, 1) := by decide +kernel
theorem dX0_lendAtNoon_129 : decode cX0_lendAtNoon 129 = .ok (.ior, 1) := by decide +kernel
theorem dX0_lendAtNoon_130 : decode cX0_lendAtNoon 130 = .ok (.istore_n 1, 1) := by decide +kernel
theorem dX0_lendAtNoon_131 : decode cX0_lendAtNoon 131 = .ok (.iinc 2 (-1), 3) := by decide +kernel
theorem dX0_lendAtNoon_134 : decode cX0_lendAtNoon 134 = .ok (.goto (-125), 3) := by decide +kernel
theorem dX0_lendAtNoon_137 : decode cX0_lendAtNoon 137 = .ok (.iload_n 1, 1) := by decide +kernel
theorem dX0_lendAtNoon_138 : decode cX0_lendAtNoon 138 = .ok (.ireturn, 1) := by decide +kernel
set_option maxRecDepth 20000 in
theorem ggX0_payBackInEvening_X0_payBack : GoodIn wsX0_payBackInEvening wsX0_payBack := goodIn_r _ [7, 2, 8, 9, 10, 11, 12, 13, 14, 6, 15, 16, 17, 18, 19, 20, 21, 22, 23, 24, 25] (by decide +kernel) (by decide +kernel)
set_option maxRecDepth 20000 in
theorem gX0_payBackInEvening_X0_payBack : GoodIn wsX0_payBackInEvening (wsV RX0 115 RX0 yX0_payBack wsX0_payBack) := goodIn_app (goodIn_of _ (by decide +kernel)) ggX0_payBackInEvening_X0_payBack
theorem dX0_payBackInEvening_0 : decode cX0_payBackInEvening 0 = .ok (.iconst 0, 1) := by decide +kernel
theorem dX0_payBackInEvening_1 : decode cX0_payBackInEvening 1 = .ok (.istore_n 1, 1) := by decide +kernel
theorem dX0_payBackInEvening_2 : decode cX0_payBackInEvening 2 = .ok (.iload_n 1, 1) := by decide +kernel
theorem dX0_payBackInEvening_3 : decode cX0_payBackInEvening 3 = .ok (.aload_n 0, 1) := by decide +kernel
theorem dX0_payBackInEvening_4 : decode cX0_payBackInEvening 4 = .ok (.getfield 33, 3) := by decide +kernel
theorem dX0_payBackInEvening_7 : decode cX0_payBackInEvening 7 = .ok (.if_icmp .ge 45, 3) := by decide +kernel
theorem dX0_payBackInEvening_10 : decode cX0_payBackInEvening 10 = .ok (.iload_n 1, 1) := by decide +kernel
theorem dX0_payBackInEvening_11 : decode cX0_payBackInEvening 11 = .ok (.iconst 1, 1) := by decide +kernel
theorem dX0_payBackInEvening_12 : decode cX0_payBackInEvening 12 = .ok (.iadd, 1) := by decide +kernel
theorem dX0_payBackInEvening_13 : decode cX0_payBackInEvening 13 = .ok (.istore_n 2, 1) := by decide +kernel
theorem dX0_payBackInEvening_14 : decode cX0_payBackInEvening 14 = .ok (.iload_n 2, 1) := by decide +kernel
theorem dX0_payBackInEvening_15 : decode cX0_payBackInEvening 15 = .ok (.aload_n 0, 1) := by decide +kernel
theorem dX0_payBackInEvening_16 : decode cX0_payBackInEvening 16 = .ok (.getfield 33, 3) := by decide +kernel
theorem dX0_payBackInEvening_19 : decode cX0_payBackInEvening 19 = .ok (.if_icmp .ge 27, 3) := by decide +kernel
theorem dX0_payBackInEvening_22 : decode cX0_payBackInEvening 22 = .ok (.aload_n 0, 1) := by decide +kernel
theorem dX0_payBackInEvening_23 : decode cX0_payBackInEvening 23 = .ok (.getfield 11, 3) := by decide +kernel
theorem dX0_payBackInEvening_26 : decode cX0_payBackInEvening 26 = .ok (.iconst 0, 1) := by decide +kernel
theorem dX0_payBackInEvening_27 : decode cX0_payBackInEvening 27 = .ok (.aaload, 1) := by decide +kernel
theorem dX0_payBackInEvening_28 : decode cX0_payBackInEvening 28 = .ok (.iload_n 2, 1) := by decide +kernel
theorem dX0_payBackInEvening_29 : decode cX0_payBackInEvening 29 = .ok (.iaload, 1) := by decide +kernel
theorem dX0_payBackInEvening_30 : decode cX0_payBackInEvening 30 = .ok (.iload_n 1, 1) := by decide +kernel
theorem dX0_payBackInEvening_31 : decode cX0_payBackInEvening 31 = .ok (.if_icmp .ne 9, 3) := by decide +kernel
theorem dX0_payBackInEvening_34 : decode cX0_payBackInEvening 34 = .ok (.aload_n 0, 1) := by decide +kernel
theorem dX0_payBackInEvening_35 : decode cX0_payBackInEvening 35 = .ok (.iload_n 1, 1) := by decide +kernel
theorem dX0_payBackInEvening_36 : decode cX0_payBackInEvening 36 = .ok (.iload_n 2, 1) := by decide +kernel
theorem dX0_payBackInEvening_37 : decode cX0_payBackInEvening 37 = .ok (.invokevirtual 115, 3) := by decide +kernel
theorem dX0_payBackInEvening_40 : decode cX0_payBackInEvening 40 = .ok (.iinc 2 1, 3) := by decide +kernel
theorem dX0_payBackInEvening_43 : decode cX0_payBackInEvening 43 = .ok (.goto (-29), 3) := by decide +kernel
theorem dX0_payBackInEvening_46 : decode cX0_payBackInEvening 46 = .ok (.iinc 1 1, 3) := by decide +kernel
theorem dX0_payBackInEvening_49 : decode cX0_payBackInEvening 49 = .ok (.goto (-47), 3) := by decide +kernel
theorem dX0_payBackInEvening_52 : decode cX0_payBackInEvening 52 = .ok (.return_, 1) := by decide +kernel
set_option maxRecDepth 20000 in
theorem ggX0_payBack_X0_roomIn : GoodIn wsX0_payBack wsX0_roomIn := goodIn_r _ [10, 1, 11, 12, 13, 14, 15, 16, 17, 18, 19, 20] (by decide +kernel) (by decide +kernel)
set_option maxRecDepth 20000 in
theorem gX0_payBack_X0_roomIn : GoodIn wsX0_payBack (wsV RX0 112 RX0 yX0_roomIn wsX0_roomIn) := goodIn_app (goodIn_of _ (by decide +kernel)) ggX0_payBack_X0_roomIn
theorem dX0_payBack_0 : decode cX0_payBack 0 = .ok (.aload_n 0, 1) := by decide +kernel
theorem dX0_payBack_1 : decode cX0_payBack 1 = .ok (.getfield 11, 3) := by decide +kernel
theorem dX0_payBack_4 : decode cX0_payBack 4 = .ok (.iconst 5, 1) := by decide +kernel
theorem dX0_payBack_5 : decode cX0_payBack 5 = .ok (.aaload, 1) := by decide +kernel
theorem dX0_payBack_6 : decode cX0_payBack 6 = .ok (.iload_n 2, 1) := by decide +kernel
theorem dX0_payBack_7 : decode cX0_payBack 7 = .ok (.iaload, 1) := by decide +kernel
theorem dX0_payBack_8 : decode cX0_payBack 8 = .ok (.aload_n 0, 1) := by decide +kernel
theorem dX0_payBack_9 : decode cX0_payBack 9 = .ok (.getfield 11, 3) := by decide +kernel
theorem dX0_payBack_12 : decode cX0_payBack 12 = .ok (.iconst 4, 1) := by decide +kernel
theorem dX0_payBack_13 : decode cX0_payBack 13 = .ok (.aaload, 1) := by decide +kernel
theorem dX0_payBack_14 : decode cX0_payBack 14 = .ok (.iload_n 1, 1) := by decide +kernel
theorem dX0_payBack_15 : decode cX0_payBack 15 = .ok (.iaload, 1) := by decide +kernel
theorem dX0_payBack_16 : decode cX0_payBack 16 = .ok (.aload_n 0, 1) := by decide +kernel
theorem dX0_payBack_17 : decode cX0_payBack 17 = .ok (.iload_n 2, 1) := by decide +kernel
theorem dX0_payBack_18 : decode cX0_payBack 18 = .ok (.invokevirtual 112, 3) := by decide +kernel
theorem dX0_payBack_21 : decode cX0_payBack 21 = .ok (.invokestatic 49, 3) := by decide +kernel
theorem dX0_payBack_24 : decode cX0_payBack 24 = .ok (.invokestatic 49, 3) := by decide +kernel
theorem dX0_payBack_27 : decode cX0_payBack 27 = .ok (.istore_n 3, 1) := by decide +kernel
theorem dX0_payBack_28 : decode cX0_payBack 28 = .ok (.aload_n 0, 1) := by decide +kernel
theorem dX0_payBack_29 : decode cX0_payBack 29 = .ok (.getfield 11, 3) := by decide +kernel
theorem dX0_payBack_32 : decode cX0_payBack 32 = .ok (.iconst 4, 1) := by decide +kernel
theorem dX0_payBack_33 : decode cX0_payBack 33 = .ok (.aaload, 1) := by decide +kernel
theorem dX0_payBack_34 : decode cX0_payBack 34 = .ok (.iload_n 1, 1) := by decide +kernel
theorem dX0_payBack_35 : decode cX0_payBack 35 = .ok (.dup2, 1) := by decide +kernel
theorem dX0_payBack_36 : decode cX0_payBack 36 = .ok (.iaload, 1) := by decide +kernel
theorem dX0_payBack_37 : decode cX0_payBack 37 = .ok (.iload_n 3, 1) := by decide +kernel
theorem dX0_payBack_38 : decode cX0_payBack 38 = .ok (.isub, 1) := by decide +kernel
theorem dX0_payBack_39 : decode cX0_payBack 39 = .ok (.iastore, 1) := by decide +kernel
theorem dX0_payBack_40 : decode cX0_payBack 40 = .ok (.aload_n 0, 1) := by decide +kernel
theorem dX0_payBack_41 : decode cX0_payBack 41 = .ok (.getfield 11, 3) := by decide +kernel
theorem dX0_payBack_44 : decode cX0_payBack 44 = .ok (.iconst 4, 1) := by decide +kernel
theorem dX0_payBack_45 : decode cX0_payBack 45 = .ok (.aaload, 1) := by decide +kernel
theorem dX0_payBack_46 : decode cX0_payBack 46 = .ok (.iload_n 2, 1) := by decide +kernel
theorem dX0_payBack_47 : decode cX0_payBack 47 = .ok (.dup2, 1) := by decide +kernel
theorem dX0_payBack_48 : decode cX0_payBack 48 = .ok (.iaload, 1) := by decide +kernel
theorem dX0_payBack_49 : decode cX0_payBack 49 = .ok (.iload_n 3, 1) := by decide +kernel
theorem dX0_payBack_50 : decode cX0_payBack 50 = .ok (.iadd, 1) := by decide +kernel
theorem dX0_payBack_51 : decode cX0_payBack 51 = .ok (.iastore, 1) := by decide +kernel
theorem dX0_payBack_52 : decode cX0_payBack 52 = .ok (.aload_n 0, 1) := by decide +kernel
theorem dX0_payBack_53 : decode cX0_payBack 53 = .ok (.getfield 11, 3) := by decide +kernel
theorem dX0_payBack_56 : decode cX0_payBack 56 = .ok (.iconst 5, 1) := by decide +kernel
theorem dX0_payBack_57 : decode cX0_payBack 57 = .ok (.aaload, 1) := by decide +kernel
theorem dX0_payBack_58 : decode cX0_payBack 58 = .ok (.iload_n 2, 1) := by decide +kernel
theorem dX0_payBack_59 : decode cX0_payBack 59 = .ok (.dup2, 1) := by decide +kernel
theorem dX0_payBack_60 : decode cX0_payBack 60 = .ok (.iaload, 1) := by decide +kernel
theorem dX0_payBack_61 : decode cX0_payBack 61 = .ok (.iload_n 3, 1) := by decide +kernel
theorem dX0_payBack_62 : decode cX0_payBack 62 = .ok (.isub, 1) := by decide +kernel
theorem dX0_payBack_63 : decode cX0_payBack 63 = .ok (.iastore, 1) := by decide +kernel
theorem dX0_payBack_64 : decode cX0_payBack 64 = .ok (.aload_n 0, 1) := by decide +kernel
theorem dX0_payBack_65 : decode cX0_payBack 65 = .ok (.getfield 11, 3) := by decide +kernel
theorem dX0_payBack_68 : decode cX0_payBack 68 = .ok (.bipush 11, 2) := by decide +kernel
theorem dX0_payBack_70 : decode cX0_payBack 70 = .ok (.aaload, 1) := by decide +kernel
theorem dX0_payBack_71 : decode cX0_payBack 71 = .ok (.iload_n 2, 1) := by decide +kernel
theorem dX0_payBack_72 : decode cX0_payBack 72 = .ok (.dup2, 1) := by decide +kernel
theorem dX0_payBack_73 : decode cX0_payBack 73 = .ok (.iaload, 1) := by decide +kernel
theorem dX0_payBack_74 : decode cX0_payBack 74 = .ok (.iload_n 3, 1) := by decide +kernel
theorem dX0_payBack_75 : decode cX0_payBack 75 = .ok (.iadd, 1) := by decide +kernel
theorem dX0_payBack_76 : decode cX0_payBack 76 = .ok (.iastore, 1) := by decide +kernel
theorem dX0_payBack_77 : decode cX0_payBack 77 = .ok (.return_, 1) := by decide +kernel
set_option maxRecDepth 20000 in
theorem ggX0_serveWaiting_X0_shareOut : GoodIn wsX0_serveWaiting wsX0_shareOut := goodIn_r _ [9, 10, 11, 12, 13, 14, 15, 16, 17, 18, 19, 20, 21, 22, 8, 23, 24, 33, 34, 35, 36, 37, 38, 39, 40, 41, 42] (by decide +kernel) (by decide +kernel)
set_option maxRecDepth 20000 in
theorem gX0_serveWaiting_X0_shareOut : GoodIn wsX0_serveWaiting (wsV RX0 79 RX0 yX0_shareOut wsX0_shareOut) := goodIn_app (goodIn_of _ (by decide +kernel)) ggX0_serveWaiting_X0_shareOut
set_option maxRecDepth 20000 in
theorem ggX0_serveWaiting_X0_pourShares : GoodIn wsX0_serveWaiting wsX0_pourShares := goodIn_r _ [28, 24, 10, 11, 33, 34, 35, 36, 37, 38, 39, 40, 41, 42] (by decide +kernel) (by decide +kernel)
set_option maxRecDepth 20000 in
theorem gX0_serveWaiting_X0_pourShares : GoodIn wsX0_serveWaiting (wsV RX0 82 RX0 yX0_pourShares wsX0_pourShares) := goodIn_app (goodIn_of _ (by decide +kernel)) ggX0_serveWaiting_X0_pourShares
set_option maxRecDepth 20000 in
theorem ggX0_serveWaiting_X0_moveRequest : GoodIn wsX0_serveWaiting wsX0_moveRequest := goodIn_r _ [32, 2, 33, 34, 35, 36, 37, 38, 39, 40, 41, 42] (by decide +kernel) (by decide +kernel)
set_option maxRecDepth 20000 in
theorem gX0_serveWaiting_X0_moveRequest : GoodIn wsX0_serveWaiting (wsV RX0 88 RX0 yX0_moveRequest wsX0_moveRequest) := goodIn_app (goodIn_of _ (by decide +kernel)) ggX0_serveWaiting_X0_moveRequest
theorem dX0_serveWaiting_0 : decode cX0_serveWaiting 0 = .ok (.iconst 0, 1) := by decide +kernel
theorem dX0_serveWaiting_1 : decode cX0_serveWaiting 1 = .ok (.istore_n 1, 1) := by decide +kernel
theorem dX0_serveWaiting_2 : decode cX0_serveWaiting 2 = .ok (.iconst 1, 1) := by decide +kernel
theorem dX0_serveWaiting_3 : decode cX0_serveWaiting 3 = .ok (.istore_n 2, 1) := by decide +kernel
theorem dX0_serveWaiting_4 : decode cX0_serveWaiting 4 = .ok (.aload_n 0, 1) := by decide +kernel
theorem dX0_serveWaiting_5 : decode cX0_serveWaiting 5 = .ok (.getfield 40, 3) := by decide +kernel
theorem dX0_serveWaiting_8 : decode cX0_serveWaiting 8 = .ok (.istore_n 3, 1) := by decide +kernel
theorem dX0_serveWaiting_9 : decode cX0_serveWaiting 9 = .ok (.iconst 0, 1) := by decide +kernel
theorem dX0_serveWaiting_10 : decode cX0_serveWaiting 10 = .ok (.istore 4, 2) := by decide +kernel
theorem dX0_serveWaiting_12 : decode cX0_serveWaiting 12 = .ok (.iload 4, 2) := by decide +kernel
theorem dX0_serveWaiting_14 : decode cX0_serveWaiting 14 = .ok (.iload_n 3, 1) := by decide +kernel
theorem dX0_serveWaiting_15 : decode cX0_serveWaiting 15 = .ok (.if_icmp .ge 84, 3) := by decide +kernel
theorem dX0_serveWaiting_18 : decode cX0_serveWaiting 18 = .ok (.aload_n 0, 1) := by decide +kernel
theorem dX0_serveWaiting_19 : decode cX0_serveWaiting 19 = .ok (.getfield 19, 3) := by decide +kernel
theorem dX0_serveWaiting_22 : decode cX0_serveWaiting 22 = .ok (.iconst 0, 1) := by decide +kernel
theorem dX0_serveWaiting_23 : decode cX0_serveWaiting 23 = .ok (.aaload, 1) := by decide +kernel
theorem dX0_serveWaiting_24 : decode cX0_serveWaiting 24 = .ok (.iload 4, 2) := by decide +kernel
theorem dX0_serveWaiting_26 : decode cX0_serveWaiting 26 = .ok (.iaload, 1) := by decide +kernel
theorem dX0_serveWaiting_27 : decode cX0_serveWaiting 27 = .ok (.istore 5, 2) := by decide +kernel
theorem dX0_serveWaiting_29 : decode cX0_serveWaiting 29 = .ok (.aload_n 0, 1) := by decide +kernel
theorem dX0_serveWaiting_30 : decode cX0_serveWaiting 30 = .ok (.getfield 19, 3) := by decide +kernel
theorem dX0_serveWaiting_33 : decode cX0_serveWaiting 33 = .ok (.iconst 1, 1) := by decide +kernel
theorem dX0_serveWaiting_34 : decode cX0_serveWaiting 34 = .ok (.aaload, 1) := by decide +kernel
theorem dX0_serveWaiting_35 : decode cX0_serveWaiting 35 = .ok (.iload 4, 2) := by decide +kernel
theorem dX0_serveWaiting_37 : decode cX0_serveWaiting 37 = .ok (.iaload, 1) := by decide +kernel
theorem dX0_serveWaiting_38 : decode cX0_serveWaiting 38 = .ok (.istore 6, 2) := by decide +kernel
theorem dX0_serveWaiting_40 : decode cX0_serveWaiting 40 = .ok (.iload_n 2, 1) := by decide +kernel
theorem dX0_serveWaiting_41 : decode cX0_serveWaiting 41 = .ok (.ifCond .eq 26, 3) := by decide +kernel
theorem dX0_serveWaiting_44 : decode cX0_serveWaiting 44 = .ok (.aload_n 0, 1) := by decide +kernel
theorem dX0_serveWaiting_45 : decode cX0_serveWaiting 45 = .ok (.iload 5, 2) := by decide +kernel
theorem dX0_serveWaiting_47 : decode cX0_serveWaiting 47 = .ok (.iload 6, 2) := by decide +kernel
theorem dX0_serveWaiting_49 : decode cX0_serveWaiting 49 = .ok (.invokevirtual 79, 3) := by decide +kernel
theorem dX0_serveWaiting_52 : decode cX0_serveWaiting 52 = .ok (.iload 6, 2) := by decide +kernel
theorem dX0_serveWaiting_54 : decode cX0_serveWaiting 54 = .ok (.if_icmp .ne 13, 3) := by decide +kernel
theorem dX0_serveWaiting_57 : decode cX0_serveWaiting 57 = .ok (.aload_n 0, 1) := by decide +kernel
theorem dX0_serveWaiting_58 : decode cX0_serveWaiting 58 = .ok (.iload 5, 2) := by decide +kernel
theorem dX0_serveWaiting_60 : decode cX0_serveWaiting 60 = .ok (.invokevirtual 82, 3) := by decide +kernel
theorem dX0_serveWaiting_63 : decode cX0_serveWaiting 63 = .ok (.pop, 1) := by decide +kernel
theorem dX0_serveWaiting_64 : decode cX0_serveWaiting 64 = .ok (.goto 29, 3) := by decide +kernel
theorem dX0_serveWaiting_67 : decode cX0_serveWaiting 67 = .ok (.aload_n 0, 1) := by decide +kernel
theorem dX0_serveWaiting_68 : decode cX0_serveWaiting 68 = .ok (.getfield 22, 3) := by decide +kernel
theorem dX0_serveWaiting_71 : decode cX0_serveWaiting 71 = .ok (.iconst 1, 1) := by decide +kernel
theorem dX0_serveWaiting_72 : decode cX0_serveWaiting 72 = .ok (.iaload, 1) := by decide +kernel
theorem dX0_serveWaiting_73 : decode cX0_serveWaiting 73 = .ok (.iconst 1, 1) := by decide +kernel
theorem dX0_serveWaiting_74 : decode cX0_serveWaiting 74 = .ok (.if_icmp .ne 7, 3) := by decide +kernel
theorem dX0_serveWaiting_77 : decode cX0_serveWaiting 77 = .ok (.iconst 1, 1) := by decide +kernel
theorem dX0_serveWaiting_78 : decode cX0_serveWaiting 78 = .ok (.goto 4, 3) := by decide +kernel
theorem dX0_serveWaiting_81 : decode cX0_serveWaiting 81 = .ok (.iconst 0, 1) := by decide +kernel
theorem dX0_serveWaiting_82 : decode cX0_serveWaiting 82 = .ok (.istore_n 2, 1) := by decide +kernel
theorem dX0_serveWaiting_83 : decode cX0_serveWaiting 83 = .ok (.aload_n 0, 1) := by decide +kernel
theorem dX0_serveWaiting_84 : decode cX0_serveWaiting 84 = .ok (.iload 4, 2) := by decide +kernel
theorem dX0_serveWaiting_86 : decode cX0_serveWaiting 86 = .ok (.iload_n 1, 1) := by decide +kernel
theorem dX0_serveWaiting_87 : decode cX0_serveWaiting 87 = .ok (.invokevirtual 88, 3) := by decide +kernel
theorem dX0_serveWaiting_90 : decode cX0_serveWaiting 90 = .ok (.iinc 1 1, 3) := by decide +kernel
theorem dX0_serveWaiting_93 : decode cX0_serveWaiting 93 = .ok (.iinc 4 1, 3) := by decide +kernel
theorem dX0_serveWaiting_96 : decode cX0_serveWaiting 96 = .ok (.goto (-84), 3) := by decide +kernel
theorem dX0_serveWaiting_99 : decode cX0_serveWaiting 99 = .ok (.aload_n 0, 1) := by decide +kernel
theorem dX0_serveWaiting_100 : decode cX0_serveWaiting 100 = .ok (.iload_n 1, 1) := by decide +kernel
theorem dX0_serveWaiting_101 : decode cX0_serveWaiting 101 = .ok (.putfield 40, 3) := by decide +kernel
theorem dX0_serveWaiting_104 : decode cX0_serveWaiting 104 = .ok (.aload_n 0, 1) := by decide +kernel
theorem dX0_serveWaiting_105 : decode cX0_serveWaiting 105 = .ok (.dup, 1) := by decide +kernel
theorem dX0_serveWaiting_106 : decode cX0_serveWaiting 106 = .ok (.getfield 46, 3) := by decide +kernel
theorem dX0_serveWaiting_109 : decode cX0_serveWaiting 109 = .ok (.iload_n 3, 1) := by decide +kernel
theorem dX0_serveWaiting_110 : decode cX0_serveWaiting 110 = .ok (.iload_n 1, 1) := by decide +kernel
theorem dX0_serveWaiting_111 : decode cX0_serveWaiting 111 = .ok (.isub, 1) := by decide +kernel
theorem dX0_serveWaiting_112 : decode cX0_serveWaiting 112 = .ok (.iadd, 1) := by decide +kernel
theorem dX0_serveWaiting_113 : decode cX0_serveWaiting 113 = .ok (.putfield 46, 3) := by decide +kernel
theorem dX0_serveWaiting_116 : decode cX0_serveWaiting 116 = .ok (.iload_n 3, 1) := by decide +kernel
theorem dX0_serveWaiting_117 : decode cX0_serveWaiting 117 = .ok (.iload_n 1, 1) := by decide +kernel
theorem dX0_serveWaiting_118 : decode cX0_serveWaiting 118 = .ok (.isub, 1) := by decide +kernel
theorem dX0_serveWaiting_119 : decode cX0_serveWaiting 119 = .ok (.ireturn, 1) := by decide +kernel
set_option maxRecDepth 20000 in
theorem ggX1_init_X0_init : GoodIn wsX1_init wsX0_init := goodIn_r _ [10, 11, 2, 3, 12, 13, 14, 15, 16, 17, 18, 22, 23, 24, 25, 26, 27, 28, 29, 30, 31] (by decide +kernel) (by decide +kernel)
set_option maxRecDepth 20000 in
theorem gX1_init_X0_init : GoodIn wsX1_init (wsX0_init) := ggX1_init_X0_init
theorem dJ7_fill_53178_0 : decode cJ7_fill_53178 0 = .ok (.iconst 0, 1) := by decide +kernel
theorem dJ7_fill_53178_1 : decode cJ7_fill_53178 1 = .ok (.istore_n 2, 1) := by decide +kernel
theorem dJ7_fill_53178_2 : decode cJ7_fill_53178 2 = .ok (.aload_n 0, 1) := by decide +kernel
theorem dJ7_fill_53178_3 : decode cJ7_fill_53178 3 = .ok (.arraylength, 1) := by decide +kernel
theorem dJ7_fill_53178_4 : decode cJ7_fill_53178 4 = .ok (.istore_n 3, 1) := by decide +kernel
theorem dJ7_fill_53178_5 : decode cJ7_fill_53178 5 = .ok (.iload_n 2, 1) := by decide +kernel
theorem dJ7_fill_53178_6 : decode cJ7_fill_53178 6 = .ok (.iload_n 3, 1) := by decide +kernel
theorem dJ7_fill_53178_7 : decode cJ7_fill_53178 7 = .ok (.if_icmp .ge 13, 3) := by decide +kernel
theorem dJ7_fill_53178_10 : decode cJ7_fill_53178 10 = .ok (.aload_n 0, 1) := by decide +kernel
theorem dJ7_fill_53178_11 : decode cJ7_fill_53178 11 = .ok (.iload_n 2, 1) := by decide +kernel
theorem dJ7_fill_53178_12 : decode cJ7_fill_53178 12 = .ok (.iload_n 1, 1) := by decide +kernel
theorem dJ7_fill_53178_13 : decode cJ7_fill_53178 13 = .ok (.iastore, 1) := by decide +kernel
theorem dJ7_fill_53178_14 : decode cJ7_fill_53178 14 = .ok (.iinc 2 1, 3) := by decide +kernel
theorem dJ7_fill_53178_17 : decode cJ7_fill_53178 17 = .ok (.goto (-12), 3) := by decide +kernel
theorem dJ7_fill_53178_20 : decode cJ7_fill_53178 20 = .ok (.return_, 1) := by decide +kernel
theorem dX3_areBuckets_0 : decode cX3_areBuckets 0 = .ok (.iload_n 0, 1) := by decide +kernel
theorem dX3_areBuckets_1 : decode cX3_areBuckets 1 = .ok (.iconst 1, 1) := by decide +kernel
theorem dX3_areBuckets_2 : decode cX3_areBuckets 2 = .ok (.if_icmp .lt 14, 3) := by decide +kernel
theorem dX3_areBuckets_5 : decode cX3_areBuckets 5 = .ok (.iload_n 0, 1) := by decide +kernel
theorem dX3_areBuckets_6 : decode cX3_areBuckets 6 = .ok (.sipush 999, 3) := by decide +kernel
theorem dX3_areBuckets_9 : decode cX3_areBuckets 9 = .ok (.if_icmp .gt 7, 3) := by decide +kernel
theorem dX3_areBuckets_12 : decode cX3_areBuckets 12 = .ok (.iconst 1, 1) := by decide +kernel
theorem dX3_areBuckets_13 : decode cX3_areBuckets 13 = .ok (.goto 4, 3) := by decide +kernel
theorem dX3_areBuckets_16 : decode cX3_areBuckets 16 = .ok (.iconst 0, 1) := by decide +kernel
theorem dX3_areBuckets_17 : decode cX3_areBuckets 17 = .ok (.ireturn, 1) := by decide +kernel
end
section
/-! Arrays.fill of a row of ints -/
theorem fillF_0 (f : Nat → Int32) (x : Int32) : fillF 0 f x = f := rfl
theorem fillF_s (n : Nat) (f : Nat → Int32) (x : Int32) : upd (fillF n f x) n x = fillF (n + 1) f x := by
  funext j
  unfold upd fillF
  by_cases h : j = n
  · subst h
    rw [if_pos rfl, if_pos (Nat.lt_succ_self _)]
  · rw [if_neg h]
    by_cases h2 : j < n
    · rw [if_pos h2, if_pos (by omega)]
    · rw [if_neg h2, if_neg (by omega)]
abbrev IAW (cy : Nat → ClassId) (b n : Nat) (g : Nat → Int32) : va_W := [(b, .inl (cy 0, n, .inl g))]
set_option maxHeartbeats 4000000 in
set_option maxRecDepth 100000 in
theorem C_fill (l : Launch) (D : va_G) (cy : Nat → ClassId) (b n : Nat) (f : Nat → Int32) (x : Int32) (hn : n < 2147483648) : ConV l yJ7_fill_53178 wsJ7_fill_53178 0 0 D cy (IAW cy b n) [.ref b, .int x] f (fillF n f x) := by
  refine bodyV (cc := cJ7_fill_53178) (maxL := 4) (by decide +kernel) rfl (Nat.le_of_ble_eq_true rfl) ?_
  intro p e s m args below meth c A Q hx hb hml hts hown hK hP hD hA hS hend ls hl
  have hP : va_P D vwCl (IAW cy b n f) s.heap := hP
  have hD : va_D A (IAW cy b n f) := hD
  have hl : lv_has ls 4 [(0, .ref b), (1, .int x)] := hl
  have L5 : ∀ (k i : Nat), i ≤ n → n < i + k → ∀ (H : Heap) (locs : List Loc) (ls : Array Slot), va_P D vwCl (IAW cy b n (fillF i f x)) H → va_D A (IAW cy b n (fillF i f x)) → va_S A s.heap H locs → lv_has ls 4 [(0, .ref b), (1, .int x), (2, .int (nI i)), (3, .int (nI n))] → W p l e (RM 0 0) s m args below meth c H locs 0 0 Q (F0 m 5 ls []) := by
    intro k
    induction k with
    | zero =>
      intro i h1 h2
      exact absurd h2 (by omega)
    | succ k ih =>
      intro i h1 h2 H locs ls hP hD hS hl
      refine lv_iload_n hx hb dJ7_fill_53178_5 rfl (lv_at hl 2 rfl) ?_
      refine lv_iload_n hx hb dJ7_fill_53178_6 rfl (lv_at hl 3 rfl) ?_
      refine lv_icmp_ge (tgt := 20) hx hb dJ7_fill_53178_7 (by decide) (fun c1 => ?_) (fun c1 => ?_)
      · have hi : i = n := by
          rcases Nat.lt_or_ge i n with q | q
          · exact absurd c1 (nI_ge q (by omega))
          · omega
        subst hi
        exact hend H locs _ _ _ rfl hP hD hS dJ7_fill_53178_20
      · have hi : i < n := by
          rcases Nat.lt_or_ge i n with q | q
          · exact q
          · exact absurd (nI_le q (by omega)) c1
        refine lv_aload_n hx hb dJ7_fill_53178_10 rfl (lv_at hl 0 rfl) ?_
        refine lv_iload_n hx hb dJ7_fill_53178_11 rfl (lv_at hl 2 rfl) ?_
        refine lv_iload_n hx hb dJ7_fill_53178_12 rfl (lv_at hl 1 rfl) ?_
        refine g_iast (w' := IAW cy b n (fillF (i + 1) f x)) hx hb hK hP hD hS 0 rfl (vp_in_nI hi (by omega)) (by rw [nI_clamp (by omega), fillF_s]; rfl) dJ7_fill_53178_13 (fun H locs hP hD hS => ?_)
        refine lv_iinc (v := nI (i + 1)) (lv' := [(2, .int (nI (i + 1))), (0, .ref b), (1, .int x), (3, .int (nI n))]) hx hb dJ7_fill_53178_14 hl (k := 2) rfl (nI_1 i) (by decide) rfl (fun ls hl => ?_)
        refine lv_goto (tgt := 5) hx hb dJ7_fill_53178_17 (by decide) ?_
        exact ih (i + 1) hi (by omega) H locs ls hP hD hS (lv_sub hl [1, 2, 0, 3] rfl)
  refine lv_iconst (v := 0) hx hb dJ7_fill_53178_0 (by decide) ?_
  refine lv_istore_n (lv' := [(2, .int 0), (0, .ref b), (1, .int x)]) hx hb dJ7_fill_53178_1 rfl hl (by decide) rfl (fun ls hl => ?_)
  refine lv_aload_n hx hb dJ7_fill_53178_2 rfl (lv_at hl 1 rfl) ?_
  refine va_alen (v := nI n) hx hb hK.1 hP 0 0 rfl rfl rfl dJ7_fill_53178_3 ?_
  refine lv_istore_n (lv' := [(3, .int (nI n)), (2, .int 0), (0, .ref b), (1, .int x)]) hx hb dJ7_fill_53178_4 rfl hl (by decide) rfl (fun ls hl => ?_)
  exact L5 (n + 1) 0 (by omega) (by omega) _ _ ls hP hD hS (lv_sub hl [2, 3, 1, 0] rfl)
theorem J_fill {D : va_G} {A : Nat → Prop} {cy : Nat → ClassId} {a : Nat → Nat} {V : FV} {x : Int32} : Jn D A (FW cy a V) (IAW cy (a 5) 12 (V 5)) (IAW cy (a 5) 12 (fillF 12 (V 5) x)) (FW cy a (fillV V 5 12 x)) := by
  have h : ∀ U : FV, (FW cy a U).Perm (IAW cy (a 5) 12 (U 5) ++ ((FW cy a U).take 5 ++ (FW cy a U).drop 6)) := fun U => List.perm_append_comm_assoc ((FW cy a U).take 5) (IAW cy (a 5) 12 (U 5)) ((FW cy a U).drop 6)
  exact Jn.perm (h V) (h (fillV V 5 12 x))
noncomputable def f_X0_isWell (V : FV) (p1 : Int32) : Option (Int32) := (if p1 < 0 then some 0 else (if (V 0 0) ≤ p1 then some 0 else some 1))
noncomputable def f_X0_isPlace (V : FV) (p1 : Int32) : Option (Int32) := (if p1 < 1 then some 0 else (if (V 0 2) < p1 then some 0 else some 1))
noncomputable def f_X0_sumOf_L4 (V : FV) : Nat → Int32 → Int32 → Int32 → Option (Int32)
  | 0 => fun _ _ _ => none
  | n + 1 => fun y1 y2 y3 => (if (V 0 0) ≤ y3 then some y2 else ((ix 13 y1).bind fun j2 => ((rd 12 (V (6 + j2)) y3).bind fun x3 => (f_X0_sumOf_L4 V n y1 (y2 + x3) (y3 + 1)))))
noncomputable def f_X0_sumOf (V : FV) (p1 : Int32) : Option (Int32) := (f_X0_sumOf_L4 V FUEL p1 0 0)
noncomputable def f_X0_timeOfDay (V : FV) : Option (Int32) := (if (V 4 0) ≤ 0 then some 0 else ((nz (V 4 0)).bind fun _ => some ((V 0 3) - (V 0 3) / (V 4 0) * (V 4 0))))
noncomputable def f_X0_wellAbove_L20 (V : FV) : Nat → Int32 → Int32 → Int32 → Int32 → Int32 → Option (Int32)
  | 0 => fun _ _ _ _ _ => none
  | n + 1 => fun y1 y2 y3 y4 y5 => (if y3 ≤ y5 then some y4 else ((f_X0_isWell V y4).bind fun x4 => (if x4 = 0 then some y4 else ((rd 12 (V 6) y4).bind fun x6 => (f_X0_wellAbove_L20 V n y1 y2 y3 x6 (y5 + 1))))))
noncomputable def f_X0_wellAbove (V : FV) (p1 : Int32) (p2 : Int32) : Option (Int32) := (lt1 (jmin p2 12) fun x1 => ((rd 12 (V 6) p1).bind fun x2 => (f_X0_wellAbove_L20 V FUEL p1 p2 x1 x2 0)))
noncomputable def f_X0_dryWells_L4 (V : FV) : Nat → Int32 → Int32 → Int32 → Option (Int32)
  | 0 => fun _ _ _ => none
  | n + 1 => fun y1 y2 y3 => (if (V 0 1) ≤ y3 then some y2 else ((rd 20 (V 20) y3).bind fun x2 => (if y1 < x2 then (f_X0_dryWells_L4 V n y1 y2 (y3 + 1)) else ((rd 20 (V 21) y3).bind fun x4 => (if x4 < y1 then (f_X0_dryWells_L4 V n y1 y2 (y3 + 1)) else ((rd 20 (V 19) y3).bind fun x6 => (f_X0_dryWells_L4 V n y1 (y2 ||| (1 <<< (x6 &&& 31))) (y3 + 1))))))))
noncomputable def f_X0_dryWells (V : FV) (p1 : Int32) : Option (Int32) := (f_X0_dryWells_L4 V FUEL p1 0 0)
noncomputable def f_X0_isDry (V : FV) (p1 : Int32) (p2 : Int32) : Option (Int32) := ((f_X0_dryWells V p2).bind fun x1 => (if ((x1 >>> (p1 &&& 31)) &&& 1) = 1 then some 1 else some 0))
noncomputable def f_X0_roomIn (V : FV) (p1 : Int32) : Option (Int32) := ((rd 12 (V 7) p1).bind fun x1 => ((rd 12 (V 10) p1).bind fun x2 => some (x1 - x2)))
noncomputable def f_X0_addWell (V : FV) (p1 : Int32) (p2 : Int32) (p3 : Int32) (p4 : Int32) : Option (Int32 × FV) := (if (V 0 0) = 0 then (if p1 = ((-1)) then (if p2 < 1 then some ((-1), V) else (if 1000 < p2 then some ((-1), V) else (if p3 < 0 then some ((-1), V) else (if 100 < p3 then some ((-1), V) else (if p4 < 0 then some ((-1), V) else (if p4 ≤ 1000 then (if (V 0 0) < 12 then ((wr 12 V 6 (V 0 0) p1).bind fun V29 => ((wr 12 V29 7 (V29 0 0) p2).bind fun V30 => ((wr 12 V30 8 (V30 0 0) p3).bind fun V31 => ((wr 12 V31 9 (V31 0 0) p4).bind fun V32 => ((f_X0_isWell V32 p1).bind fun x33 => (if x33 = 0 then (lt1 (st V32 0 0 ((V32 0 0) + 1)) fun V35 => some (V32 0 0, V35)) else ((rd 12 (V32 18) p1).bind fun x36 => ((wr 12 V32 18 p1 (x36 + 1)).bind fun V37 => (lt1 (st V37 0 0 ((V37 0 0) + 1)) fun V38 => some (V37 0 0, V38)))))))))) else some ((-3), V)) else some ((-1), V))))))) else some ((-1), V)) else ((f_X0_isWell V p1).bind fun x2 => (if x2 = 0 then some ((-1), V) else (if p2 < 1 then some ((-1), V) else (if 1000 < p2 then some ((-1), V) else (if p3 < 0 then some ((-1), V) else (if 100 < p3 then some ((-1), V) else (if p4 < 0 then some ((-1), V) else (if p4 ≤ 1000 then (if (V 0 0) < 12 then ((wr 12 V 6 (V 0 0) p1).bind fun V11 => ((wr 12 V11 7 (V11 0 0) p2).bind fun V12 => ((wr 12 V12 8 (V12 0 0) p3).bind fun V13 => ((wr 12 V13 9 (V13 0 0) p4).bind fun V14 => ((f_X0_isWell V14 p1).bind fun x15 => (if x15 = 0 then (lt1 (st V14 0 0 ((V14 0 0) + 1)) fun V17 => some (V14 0 0, V17)) else ((rd 12 (V14 18) p1).bind fun x18 => ((wr 12 V14 18 p1 (x18 + 1)).bind fun V19 => (lt1 (st V19 0 0 ((V19 0 0) + 1)) fun V20 => some (V19 0 0, V20)))))))))) else some ((-3), V)) else some ((-1), V))))))))))
noncomputable def f_X0_addDrought (V : FV) (p1 : Int32) (p2 : Int32) (p3 : Int32) : Option (Int32 × FV) := ((f_X0_isWell V p1).bind fun x1 => (if x1 = 0 then some ((-1), V) else (if p2 ≤ (V 0 3) then some ((-1), V) else (if 60000 < p2 then some ((-1), V) else (if p3 < p2 then some ((-1), V) else (if p3 ≤ 60000 then (if (V 0 1) < 20 then ((wr 20 V 19 (V 0 1) p1).bind fun V8 => ((wr 20 V8 20 (V8 0 1) p2).bind fun V9 => ((wr 20 V9 21 (V9 0 1) p3).bind fun V10 => (lt1 (st V10 0 1 ((V10 0 1) + 1)) fun V11 => some (V10 0 1, V11))))) else some ((-3), V)) else some ((-1), V)))))))
noncomputable def f_X0_shareOut_L16 : Nat → Int32 → Int32 → Int32 → Int32 → Int32 → FV → Option (Int32 × FV)
  | 0 => fun _ _ _ _ _ _ => none
  | n + 1 => fun y1 y2 y3 y4 y5 V => (if 12 ≤ y5 then some (y2 - y3, V) else ((f_X0_isWell V y4).bind fun x3 => (if x3 = 0 then some (y2 - y3, V) else ((rd 12 (V 10) y4).bind fun x5 => (if y4 = y1 then (lt1 (jmin y3 x5) fun x13 => ((wr 12 V 5 y4 x13).bind fun V14 => ((rd 12 (V14 5) y4).bind fun x15 => ((rd 12 (V14 6) y4).bind fun x16 => (f_X0_shareOut_L16 n y1 y2 (y3 - x15) x16 (y5 + 1) V14))))) else ((rd 12 (V 9) y4).bind fun x7 => (lt1 (jmin x5 x7) fun x8 => (lt1 (jmin y3 x8) fun x9 => ((wr 12 V 5 y4 x9).bind fun V10 => ((rd 12 (V10 5) y4).bind fun x11 => ((rd 12 (V10 6) y4).bind fun x12 => (f_X0_shareOut_L16 n y1 y2 (y3 - x11) x12 (y5 + 1) V10))))))))))))
noncomputable def f_X0_shareOut (V : FV) (p1 : Int32) (p2 : Int32) : Option (Int32 × FV) := (lt1 (fillV V 5 12 0) fun V1 => (f_X0_shareOut_L16 FUEL p1 p2 p2 p1 0 V1))
noncomputable def f_X0_pourShares_L4 : Nat → Int32 → Int32 → Int32 → FV → Option (Int32 × FV)
  | 0 => fun _ _ _ _ => none
  | n + 1 => fun y1 y2 y3 V => (if (V 0 0) ≤ y3 then some (y2, V) else ((rd 12 (V 5) y3).bind fun x2 => ((rd 12 (V 10) y3).bind fun x3 => ((wr 12 V 10 y3 (x3 - x2)).bind fun V4 => (if y3 = y1 then ((rd 12 (V4 14) y3).bind fun x8 => ((wr 12 V4 14 y3 (x8 + x2)).bind fun V9 => (f_X0_pourShares_L4 n y1 y2 (y3 + 1) V9))) else ((rd 12 (V4 15) y3).bind fun x6 => ((wr 12 V4 15 y3 (x6 + x2)).bind fun V7 => (f_X0_pourShares_L4 n y1 (y2 + x2) (y3 + 1) V7))))))))
noncomputable def f_X0_pourShares (V : FV) (p1 : Int32) : Option (Int32 × FV) := (f_X0_pourShares_L4 FUEL p1 0 0 V)
noncomputable def f_X3_areBuckets (p0 : Int32) : Option (Int32) := (if p0 < 1 then some 0 else (if 999 < p0 then some 0 else some 1))
noncomputable def f_X0_takeDraw (V : FV) (p1 : Int32) (p2 : Int32) : Option (Int32 × FV) := ((f_X0_isWell V p1).bind fun x1 => (if x1 = 0 then some ((-1), V) else ((f_X3_areBuckets p2).bind fun x3 => (if x3 = 0 then some ((-1), V) else (b2 (f_X0_shareOut V p1 p2) fun x5 V5 => (if x5 = p2 then (b2 (f_X0_pourShares V5 p1) fun x7 V7 => some (x7, V7)) else some ((-2), V5)))))))
noncomputable def f_X0_takeRequest (V : FV) (p1 : Int32) (p2 : Int32) : Option (Int32 × FV) := ((f_X0_isWell V p1).bind fun x1 => (if x1 = 0 then some ((-1), V) else ((f_X3_areBuckets p2).bind fun x3 => (if x3 = 0 then some ((-1), V) else (if (V 0 2) = 0 then (b2 (f_X0_shareOut V p1 p2) fun x11 V11 => (if x11 = p2 then (b2 (f_X0_pourShares V11 p1) fun x18 V18 => some (0, V18)) else (if (V11 0 2) < 8 then ((wr 8 V11 22 (V11 0 2) p1).bind fun V14 => ((wr 8 V14 23 (V14 0 2) p2).bind fun V15 => ((wr 8 V15 24 (V15 0 2) (V15 0 3)).bind fun V16 => (lt1 (st V16 0 2 ((V16 0 2) + 1)) fun V17 => some (V17 0 2, V17))))) else some ((-3), V11)))) else (if (V 0 2) < 8 then ((wr 8 V 22 (V 0 2) p1).bind fun V7 => ((wr 8 V7 23 (V7 0 2) p2).bind fun V8 => ((wr 8 V8 24 (V8 0 2) (V8 0 3)).bind fun V9 => (lt1 (st V9 0 2 ((V9 0 2) + 1)) fun V10 => some (V10 0 2, V10))))) else some ((-3), V)))))))
noncomputable def f_X0_moveRequest_L2 : Nat → Int32 → Int32 → Int32 → FV → Option (FV)
  | 0 => fun _ _ _ _ => none
  | n + 1 => fun y1 y2 y3 V => (if 3 ≤ y3 then some V else ((ix 3 y3).bind fun j2 => ((ix 3 y3).bind fun j3 => ((rd 8 (V (22 + j3)) y1).bind fun x4 => ((wr 8 V (22 + j2) y2 x4).bind fun V5 => (f_X0_moveRequest_L2 n y1 y2 (y3 + 1) V5))))))
noncomputable def f_X0_moveRequest (V : FV) (p1 : Int32) (p2 : Int32) : Option (FV) := (f_X0_moveRequest_L2 FUEL p1 p2 0 V)
noncomputable def f_X0_dropRequest_L23 : Nat → Int32 → Int32 → Int32 → FV → Option (Int32 × FV)
  | 0 => fun _ _ _ _ => none
  | n + 1 => fun y1 y2 y3 V => (if (V 0 2) ≤ y3 then (lt1 (st V 0 2 ((V 0 2) - 1)) fun V5 => some (y2, V5)) else ((f_X0_moveRequest V y3 (y3 - 1)).bind fun V6 => (f_X0_dropRequest_L23 n y1 y2 (y3 + 1) V6)))
noncomputable def f_X0_dropRequest (V : FV) (p1 : Int32) : Option (Int32 × FV) := ((f_X0_isPlace V p1).bind fun x1 => (if x1 = 0 then some ((-1), V) else ((rd 8 (V 23) (p1 - 1)).bind fun x3 => (f_X0_dropRequest_L23 FUEL p1 x3 p1 V))))
noncomputable def f_X0_changeSetting (V : FV) (p1 : Int32) (p2 : Int32) : Option (Int32 × FV) := (if p1 = 0 then (if p2 < 4 then some ((-1), V) else (if 100 < p2 then some ((-1), V) else ((rd 2 (V 4) p1).bind fun x11 => ((wr 2 V 4 p1 p2).bind fun V12 => some (x11, V12))))) else (if p1 = 1 then (if p2 = 0 then ((rd 2 (V 4) p1).bind fun x4 => ((wr 2 V 4 p1 p2).bind fun V5 => some (x4, V5))) else (if p2 = 1 then ((rd 2 (V 4) p1).bind fun x7 => ((wr 2 V 4 p1 p2).bind fun V8 => some (x7, V8))) else some ((-1), V))) else some ((-1), V)))
noncomputable def f_X0_flowIn_L11 : Nat → Int32 → Int32 → FV → Option (FV)
  | 0 => fun _ _ _ => none
  | n + 1 => fun y1 y2 V => (if (V 0 0) ≤ y2 then some V else (if ((y1 >>> (y2 &&& 31)) &&& 1) = 0 then ((rd 12 (V 8) y2).bind fun x4 => ((f_X0_roomIn V y2).bind fun x5 => (lt1 (jmin x4 x5) fun x6 => ((rd 12 (V 10) y2).bind fun x7 => ((wr 12 V 10 y2 (x7 + x6)).bind fun V8 => ((rd 12 (V8 12) y2).bind fun x9 => ((wr 12 V8 12 y2 (x9 + x6)).bind fun V10 => ((rd 12 (V10 13) y2).bind fun x11 => ((wr 12 V10 13 y2 (x11 + (x4 - x6))).bind fun V12 => (f_X0_flowIn_L11 n y1 (y2 + 1) V12)))))))))) else (f_X0_flowIn_L11 n y1 (y2 + 1) V)))
noncomputable def f_X0_flowIn (V : FV) : Option (FV) := ((f_X0_dryWells V (V 0 3)).bind fun x1 => (f_X0_flowIn_L11 FUEL x1 0 V))
noncomputable def f_X0_lendAtNoon_L9 : Nat → Int32 → Int32 → FV → Option (Int32 × FV)
  | 0 => fun _ _ _ => none
  | n + 1 => fun y1 y2 V => (if y2 ≤ 0 then some (y1, V) else ((rd 12 (V 6) y2).bind fun x2 => ((rd 12 (V 10) y2).bind fun x3 => ((rd 12 (V 7) y2).bind fun x4 => ((f_X0_isWell V x2).bind fun x5 => (if x5 = 0 then (f_X0_lendAtNoon_L9 n y1 (y2 + (-1)) V) else ((f_X0_roomIn V x2).bind fun x7 => (lt1 (jmin (x3 - (x4 / 2)) x7) fun x8 => (if x8 ≤ 0 then (f_X0_lendAtNoon_L9 n y1 (y2 + (-1)) V) else ((rd 12 (V 10) y2).bind fun x10 => ((wr 12 V 10 y2 (x10 - x8)).bind fun V11 => ((rd 12 (V11 10) x2).bind fun x12 => ((wr 12 V11 10 x2 (x12 + x8)).bind fun V13 => ((rd 12 (V13 11) y2).bind fun x14 => ((wr 12 V13 11 y2 (x14 + x8)).bind fun V15 => ((rd 12 (V15 16) x2).bind fun x16 => ((wr 12 V15 16 x2 (x16 + x8)).bind fun V17 => (f_X0_lendAtNoon_L9 n (y1 ||| (1 <<< (y2 &&& 31))) (y2 + (-1)) V17))))))))))))))))))
noncomputable def f_X0_lendAtNoon (V : FV) : Option (Int32 × FV) := (f_X0_lendAtNoon_L9 FUEL 0 ((V 0 0) - 1) V)
noncomputable def f_X0_payBack (V : FV) (p1 : Int32) (p2 : Int32) : Option (FV) := ((rd 12 (V 11) p2).bind fun x1 => ((rd 12 (V 10) p1).bind fun x2 => ((f_X0_roomIn V p2).bind fun x3 => (lt1 (jmin x2 x3) fun x4 => (lt1 (jmin x1 x4) fun x5 => ((rd 12 (V 10) p1).bind fun x6 => ((wr 12 V 10 p1 (x6 - x5)).bind fun V7 => ((rd 12 (V7 10) p2).bind fun x8 => ((wr 12 V7 10 p2 (x8 + x5)).bind fun V9 => ((rd 12 (V9 11) p2).bind fun x10 => ((wr 12 V9 11 p2 (x10 - x5)).bind fun V11 => ((rd 12 (V11 17) p2).bind fun x12 => ((wr 12 V11 17 p2 (x12 + x5)).bind fun V13 => some V13)))))))))))))
noncomputable def f_X0_payBackInEvening_L14 (k2 : Int32 → FV → Option (FV)) : Nat → Int32 → Int32 → FV → Option (FV)
  | 0 => fun _ _ _ => none
  | n + 1 => fun y1 y2 V => (if (V 0 0) ≤ y2 then (k2 (y1 + 1) V) else ((rd 12 (V 6) y2).bind fun x3 => (if x3 = y1 then ((f_X0_payBack V y1 y2).bind fun V5 => (f_X0_payBackInEvening_L14 k2 n y1 (y2 + 1) V5)) else (f_X0_payBackInEvening_L14 k2 n y1 (y2 + 1) V))))
noncomputable def f_X0_payBackInEvening_L2 : Nat → Int32 → FV → Option (FV)
  | 0 => fun _ _ => none
  | n + 1 => fun y1 V => (if (V 0 0) ≤ y1 then some V else (f_X0_payBackInEvening_L14 (f_X0_payBackInEvening_L2 n) FUEL y1 (y1 + 1) V))
noncomputable def f_X0_payBackInEvening (V : FV) : Option (FV) := (f_X0_payBackInEvening_L2 FUEL 0 V)
noncomputable def f_X0_serveWaiting_L12 : Nat → Int32 → Int32 → Int32 → Int32 → FV → Option (Int32 × FV)
  | 0 => fun _ _ _ _ _ => none
  | n + 1 => fun y1 y2 y3 y4 V => (if y3 ≤ y4 then (lt1 (st V 0 2 y1) fun V2 => (lt1 (st V2 0 4 ((V2 0 4) + (y3 - y1))) fun V3 => some (y3 - y1, V3))) else ((rd 8 (V 22) y4).bind fun x4 => ((rd 8 (V 23) y4).bind fun x5 => (if y2 = 0 then (if (V 4 1) = 1 then ((f_X0_moveRequest V y4 y1).bind fun V9 => (f_X0_serveWaiting_L12 n (y1 + 1) 1 y3 (y4 + 1) V9)) else ((f_X0_moveRequest V y4 y1).bind fun V8 => (f_X0_serveWaiting_L12 n (y1 + 1) 0 y3 (y4 + 1) V8))) else (b2 (f_X0_shareOut V x4 x5) fun x10 V10 => (if x10 = x5 then (b2 (f_X0_pourShares V10 x4) fun x15 V15 => (f_X0_serveWaiting_L12 n y1 y2 y3 (y4 + 1) V15)) else (if (V10 4 1) = 1 then ((f_X0_moveRequest V10 y4 y1).bind fun V14 => (f_X0_serveWaiting_L12 n (y1 + 1) 1 y3 (y4 + 1) V14)) else ((f_X0_moveRequest V10 y4 y1).bind fun V13 => (f_X0_serveWaiting_L12 n (y1 + 1) 0 y3 (y4 + 1) V13)))))))))
noncomputable def f_X0_serveWaiting (V : FV) : Option (Int32 × FV) := (f_X0_serveWaiting_L12 FUEL 0 1 (V 0 2) 0 V)
noncomputable def f_X0_passTick (V : FV) : Option (Int32 × FV) := (lt1 (st V 0 3 ((V 0 3) + 1)) fun V1 => ((f_X0_flowIn V1).bind fun V2 => ((f_X0_timeOfDay V2).bind fun x3 => (if x3 = 0 then (b2 (f_X0_lendAtNoon V2) fun x10 V10 => (b2 (f_X0_serveWaiting V10) fun x11 V11 => some (x11, V11))) else ((f_X0_timeOfDay V2).bind fun x5 => (if x5 = ((V2 4 0) / 2) then ((f_X0_payBackInEvening V2).bind fun V8 => (b2 (f_X0_serveWaiting V8) fun x9 V9 => some (x9, V9))) else (b2 (f_X0_serveWaiting V2) fun x7 V7 => some (x7, V7))))))))
noncomputable def f_X0_passTicks_L32 : Nat → Int32 → Int32 → Int32 → FV → Option (Int32 × FV)
  | 0 => fun _ _ _ _ => none
  | n + 1 => fun y1 y2 y3 V => (if y1 ≤ y3 then some (y2, V) else (b2 (f_X0_passTick V) fun x5 V5 => (f_X0_passTicks_L32 n y1 (y2 + x5) (y3 + 1) V5)))
noncomputable def f_X0_passTicks (V : FV) (p1 : Int32) : Option (Int32 × FV) := (if p1 < 1 then some ((-1), V) else (if p1 ≤ 200 then (if ((V 0 3) + p1) ≤ 50000 then (f_X0_passTicks_L32 FUEL p1 0 0 V) else some ((-3), V)) else some ((-1), V)))
end
section
set_option maxHeartbeats 4000000 in
set_option maxRecDepth 100000 in
theorem C_X0_isWell (l : Launch) (D : va_G) (cy : Nat → ClassId) (a : Nat → Nat) (V : FV) (p1 : Int32) (r : Int32) (hc : f_X0_isWell V p1 = some r) : ConI l yX0_isWell wsX0_isWell 0 0 D cy (FW cy a) [.ref (a 0), .int p1] V V r := by
  refine bodyI (cc := cX0_isWell) (maxL := 2) (ty := .boolean) (by decide +kernel) rfl (Nat.le_of_ble_eq_true rfl) ?_
  intro p e s m args below meth c A Q hx hb hml hts hown hK hP hD hA hS hend ls hl
  have hown : s.vm.findClass RX0 = some m.cls := hown
  have hP : va_P D vwCl (FW cy a V) s.heap := hP
  have hD : va_D A (FW cy a V) := hD
  have hl : lv_has ls 2 [(0, .ref (a 0)), (1, .int p1)] := hl
  have hend : ∀ (H : Heap) (locs : List Loc) (pc : Nat) (ls : Array Slot) (v : Int32), v = r → narrow .boolean (.int v) = .int v → va_P D vwCl (FW cy a V) H → va_D A (FW cy a V) → va_S A s.heap H locs → decode cX0_isWell pc = .ok (.ireturn, 1) → W p l e (RM 0 0) s m args below meth c H locs 0 0 Q (F0 m pc ls [.int v]) := fun H locs pc ls v h1 h3 h4 h5 h6 h7 => hend H locs pc ls v V h1 rfl h3 h4 h5 h6 h7
  have fl_33 := hts (.fieldLink RX0 33 "NoonWells$Field" "wellCount" "I") (by decide +kernel)
  have inw_X0 := (by decide +kernel : ∀ w ∈ u_ws RX0 TX0 10, w ∈ wsX0_isWell)
  obtain ⟨H, hHe⟩ : ∃ H : Heap, H = s.heap := ⟨_, rfl⟩
  obtain ⟨locs, hLe⟩ : ∃ x : List Loc, x = [] := ⟨_, rfl⟩
  have hP : va_P D vwCl (FW cy a V) H := by rw [hHe]; exact hP
  have hS : va_S A s.heap H locs := by rw [hHe, hLe]; exact hS
  have goal0 : W p l e (RM 0 0) s m args below meth c H locs 0 0 Q (F0 m 0 ls []) := by
    refine lv_iload_n hx hb dX0_isWell_0 rfl (lv_at hl 1 rfl) ?_
    refine lv_if_lt (tgt := 16) hx hb dX0_isWell_1 (by decide) (fun c1 => ?_) (fun c1 => ?_)
    · replace hc := ite_t c1 hc
      refine lv_iconst (v := 0) hx hb dX0_isWell_16 (by decide) ?_
      exact hend H locs _ _ _ (some_one hc) rfl hP hD hS dX0_isWell_17
    · replace hc := ite_f c1 hc
      refine lv_iload_n hx hb dX0_isWell_4 rfl (lv_at hl 1 rfl) ?_
      refine lv_aload_n hx hb dX0_isWell_5 rfl (lv_at hl 0 rfl) ?_
      refine va_get (ci := 0) (v := .int (V 0 0)) (C := RX0) (T := TX0) (N := 10) hx hb hts inw_X0 hown hK.1 hP 0 rfl rfl 5 (by decide) fl_33 (fun _ h9 => h9) rfl dX0_isWell_6 ?_
      refine lv_icmp_ge (tgt := 16) hx hb dX0_isWell_9 (by decide) (fun c2 => ?_) (fun c2 => ?_)
      · replace hc := ite_t c2 hc
        refine lv_iconst (v := 0) hx hb dX0_isWell_16 (by decide) ?_
        exact hend H locs _ _ _ (some_one hc) rfl hP hD hS dX0_isWell_17
      · replace hc := ite_f c2 hc
        refine lv_iconst (v := 1) hx hb dX0_isWell_12 (by decide) ?_
        refine lv_goto (tgt := 17) hx hb dX0_isWell_13 (by decide) ?_
        exact hend H locs _ _ _ (some_one hc) rfl hP hD hS dX0_isWell_17
  rw [hHe, hLe] at goal0
  exact goal0
set_option maxHeartbeats 4000000 in
set_option maxRecDepth 100000 in
theorem C_X0_isPlace (l : Launch) (D : va_G) (cy : Nat → ClassId) (a : Nat → Nat) (V : FV) (p1 : Int32) (r : Int32) (hc : f_X0_isPlace V p1 = some r) : ConI l yX0_isPlace wsX0_isPlace 0 0 D cy (FW cy a) [.ref (a 0), .int p1] V V r := by
  refine bodyI (cc := cX0_isPlace) (maxL := 2) (ty := .boolean) (by decide +kernel) rfl (Nat.le_of_ble_eq_true rfl) ?_
  intro p e s m args below meth c A Q hx hb hml hts hown hK hP hD hA hS hend ls hl
  have hown : s.vm.findClass RX0 = some m.cls := hown
  have hP : va_P D vwCl (FW cy a V) s.heap := hP
  have hD : va_D A (FW cy a V) := hD
  have hl : lv_has ls 2 [(0, .ref (a 0)), (1, .int p1)] := hl
  have hend : ∀ (H : Heap) (locs : List Loc) (pc : Nat) (ls : Array Slot) (v : Int32), v = r → narrow .boolean (.int v) = .int v → va_P D vwCl (FW cy a V) H → va_D A (FW cy a V) → va_S A s.heap H locs → decode cX0_isPlace pc = .ok (.ireturn, 1) → W p l e (RM 0 0) s m args below meth c H locs 0 0 Q (F0 m pc ls [.int v]) := fun H locs pc ls v h1 h3 h4 h5 h6 h7 => hend H locs pc ls v V h1 rfl h3 h4 h5 h6 h7
  have fl_40 := hts (.fieldLink RX0 40 "NoonWells$Field" "waiting" "I") (by decide +kernel)
  have inw_X0 := (by decide +kernel : ∀ w ∈ u_ws RX0 TX0 10, w ∈ wsX0_isPlace)
  obtain ⟨H, hHe⟩ : ∃ H : Heap, H = s.heap := ⟨_, rfl⟩
  obtain ⟨locs, hLe⟩ : ∃ x : List Loc, x = [] := ⟨_, rfl⟩
  have hP : va_P D vwCl (FW cy a V) H := by rw [hHe]; exact hP
  have hS : va_S A s.heap H locs := by rw [hHe, hLe]; exact hS
  have goal0 : W p l e (RM 0 0) s m args below meth c H locs 0 0 Q (F0 m 0 ls []) := by
    refine lv_iload_n hx hb dX0_isPlace_0 rfl (lv_at hl 1 rfl) ?_
    refine lv_iconst (v := 1) hx hb dX0_isPlace_1 (by decide) ?_
    refine lv_icmp_lt (tgt := 17) hx hb dX0_isPlace_2 (by decide) (fun c1 => ?_) (fun c1 => ?_)
    · replace hc := ite_t c1 hc
      refine lv_iconst (v := 0) hx hb dX0_isPlace_17 (by decide) ?_
      exact hend H locs _ _ _ (some_one hc) rfl hP hD hS dX0_isPlace_18
    · replace hc := ite_f c1 hc
      refine lv_iload_n hx hb dX0_isPlace_5 rfl (lv_at hl 1 rfl) ?_
      refine lv_aload_n hx hb dX0_isPlace_6 rfl (lv_at hl 0 rfl) ?_
      refine va_get (ci := 0) (v := .int (V 0 2)) (C := RX0) (T := TX0) (N := 10) hx hb hts inw_X0 hown hK.1 hP 0 rfl rfl 7 (by decide) fl_40 (fun _ h9 => h9) rfl dX0_isPlace_7 ?_
      refine lv_icmp_gt (tgt := 17) hx hb dX0_isPlace_10 (by decide) (fun c2 => ?_) (fun c2 => ?_)
      · replace hc := ite_t c2 hc
        refine lv_iconst (v := 0) hx hb dX0_isPlace_17 (by decide) ?_
        exact hend H locs _ _ _ (some_one hc) rfl hP hD hS dX0_isPlace_18
      · replace hc := ite_f c2 hc
        refine lv_iconst (v := 1) hx hb dX0_isPlace_13 (by decide) ?_
        refine lv_goto (tgt := 18) hx hb dX0_isPlace_14 (by decide) ?_
        exact hend H locs _ _ _ (some_one hc) rfl hP hD hS dX0_isPlace_18
  rw [hHe, hLe] at goal0
  exact goal0
set_option maxHeartbeats 4000000 in
set_option maxRecDepth 100000 in
theorem C_X0_sumOf (l : Launch) (D : va_G) (cy : Nat → ClassId) (a : Nat → Nat) (V : FV) (p1 : Int32) (r : Int32) (hc : f_X0_sumOf V p1 = some r) : ConI l yX0_sumOf wsX0_sumOf 0 0 D cy (FW cy a) [.ref (a 0), .int p1] V V r := by
  refine bodyI (cc := cX0_sumOf) (maxL := 4) (ty := .int) (by decide +kernel) rfl (Nat.le_of_ble_eq_true rfl) ?_
  intro p e s m args below meth c A Q hx hb hml hts hown hK hP hD hA hS hend ls hl
  have hown : s.vm.findClass RX0 = some m.cls := hown
  have hP : va_P D vwCl (FW cy a V) s.heap := hP
  have hD : va_D A (FW cy a V) := hD
  have hl : lv_has ls 4 [(0, .ref (a 0)), (1, .int p1)] := hl
  have hend : ∀ (H : Heap) (locs : List Loc) (pc : Nat) (ls : Array Slot) (v : Int32), v = r → narrow .int (.int v) = .int v → va_P D vwCl (FW cy a V) H → va_D A (FW cy a V) → va_S A s.heap H locs → decode cX0_sumOf pc = .ok (.ireturn, 1) → W p l e (RM 0 0) s m args below meth c H locs 0 0 Q (F0 m pc ls [.int v]) := fun H locs pc ls v h1 h3 h4 h5 h6 h7 => hend H locs pc ls v V h1 rfl h3 h4 h5 h6 h7
  have fl_33 := hts (.fieldLink RX0 33 "NoonWells$Field" "wellCount" "I") (by decide +kernel)
  have inw_X0 := (by decide +kernel : ∀ w ∈ u_ws RX0 TX0 10, w ∈ wsX0_sumOf)
  have fl_11 := hts (.fieldLink RX0 11 "NoonWells$Field" "wells" "[[I") (by decide +kernel)
  have L4 : ∀ (n : Nat), ∀ (y1 y2 y3 : Int32) (H : Heap) (locs : List Loc) (ls : Array Slot), f_X0_sumOf_L4 V n y1 y2 y3 = some r → va_P D vwCl (FW cy a V) H → va_D A (FW cy a V) → va_S A s.heap H locs → lv_has ls 4 [(0, .ref (a 0)), (1, .int y1), (2, .int y2), (3, .int y3)] → W p l e (RM 0 0) s m args below meth c H locs 0 0 Q (F0 m 4 ls []) := by
    intro n
    induction n with
    | zero =>
      intro y1 y2 y3 H locs ls hc
      cases hc
    | succ n ih =>
      intro y1 y2 y3 H locs ls hc hP hD hS hl
      refine lv_iload_n hx hb dX0_sumOf_4 rfl (lv_at hl 3 rfl) ?_
      refine lv_aload_n hx hb dX0_sumOf_5 rfl (lv_at hl 0 rfl) ?_
      refine va_get (ci := 0) (v := .int (V 0 0)) (C := RX0) (T := TX0) (N := 10) hx hb hts inw_X0 hown hK.1 hP 0 rfl rfl 5 (by decide) fl_33 (fun _ h9 => h9) rfl dX0_sumOf_6 ?_
      refine lv_icmp_ge (tgt := 29) hx hb dX0_sumOf_9 (by decide) (fun c1 => ?_) (fun c1 => ?_)
      · replace hc := ite_t c1 hc
        refine lv_iload_n hx hb dX0_sumOf_29 rfl (lv_at hl 2 rfl) ?_
        exact hend H locs _ _ _ (some_one hc) rfl hP hD hS dX0_sumOf_30
      · replace hc := ite_f c1 hc
        refine lv_iload_n hx hb dX0_sumOf_12 rfl (lv_at hl 2 rfl) ?_
        refine lv_aload_n hx hb dX0_sumOf_13 rfl (lv_at hl 0 rfl) ?_
        refine va_get (ci := 0) (v := .ref (a 1)) (C := RX0) (T := TX0) (N := 10) hx hb hts inw_X0 hown hK.1 hP 0 rfl rfl 0 (by decide) fl_11 (fun _ h9 => h9) rfl dX0_sumOf_14 ?_
        refine lv_iload_n hx hb dX0_sumOf_17 rfl (lv_at hl 1 rfl) ?_
        obtain ⟨j2, hi2, hj2, hn2, hc⟩ := ix_some hc
        refine g_aald (v := a (6 + j2)) hx hb hK hP 1 rfl hi2 (by rw [hj2]; exact if_pos hn2) dX0_sumOf_18 ?_
        refine lv_iload_n hx hb dX0_sumOf_19 rfl (lv_at hl 3 rfl) ?_
        obtain ⟨x3, hi3, hv3, hc⟩ := rd_some hc
        refine g_iald (x := x3) hx hb hK hP (6 + j2) (FW_row hn2) hi3 hv3 dX0_sumOf_20 ?_
        refine lv_iadd hx hb dX0_sumOf_21 ?_
        refine lv_istore_n (lv' := [(2, .int (y2 + x3)), (0, .ref (a 0)), (1, .int y1), (3, .int y3)]) hx hb dX0_sumOf_22 rfl hl (by decide) rfl (fun ls hl => ?_)
        refine lv_iinc (v := y3 + 1) (lv' := [(3, .int (y3 + 1)), (2, .int (y2 + x3)), (0, .ref (a 0)), (1, .int y1)]) hx hb dX0_sumOf_23 hl (k := 3) rfl rfl (by decide) rfl (fun ls hl => ?_)
        refine lv_goto (tgt := 4) hx hb dX0_sumOf_26 (by decide) ?_
        exact ih y1 (y2 + x3) (y3 + 1) H locs ls hc hP hD hS (lv_sub hl [2, 3, 1, 0] rfl)
  obtain ⟨H, hHe⟩ : ∃ H : Heap, H = s.heap := ⟨_, rfl⟩
  obtain ⟨locs, hLe⟩ : ∃ x : List Loc, x = [] := ⟨_, rfl⟩
  have hP : va_P D vwCl (FW cy a V) H := by rw [hHe]; exact hP
  have hS : va_S A s.heap H locs := by rw [hHe, hLe]; exact hS
  have goal0 : W p l e (RM 0 0) s m args below meth c H locs 0 0 Q (F0 m 0 ls []) := by
    refine lv_iconst (v := 0) hx hb dX0_sumOf_0 (by decide) ?_
    refine lv_istore_n (lv' := [(2, .int 0), (0, .ref (a 0)), (1, .int p1)]) hx hb dX0_sumOf_1 rfl hl (by decide) rfl (fun ls hl => ?_)
    refine lv_iconst (v := 0) hx hb dX0_sumOf_2 (by decide) ?_
    refine lv_istore_n (lv' := [(3, .int 0), (2, .int 0), (0, .ref (a 0)), (1, .int p1)]) hx hb dX0_sumOf_3 rfl hl (by decide) rfl (fun ls hl => ?_)
    exact L4 FUEL p1 0 0 H locs ls hc hP hD hS (lv_sub hl [2, 3, 1, 0] rfl)
  rw [hHe, hLe] at goal0
  exact goal0
set_option maxHeartbeats 4000000 in
set_option maxRecDepth 100000 in
theorem C_X0_timeOfDay (l : Launch) (D : va_G) (cy : Nat → ClassId) (a : Nat → Nat) (V : FV) (r : Int32) (hc : f_X0_timeOfDay V = some r) : ConI l yX0_timeOfDay wsX0_timeOfDay 0 0 D cy (FW cy a) [.ref (a 0)] V V r := by
  refine bodyI (cc := cX0_timeOfDay) (maxL := 2) (ty := .int) (by decide +kernel) rfl (Nat.le_of_ble_eq_true rfl) ?_
  intro p e s m args below meth c A Q hx hb hml hts hown hK hP hD hA hS hend ls hl
  have hown : s.vm.findClass RX0 = some m.cls := hown
  have hP : va_P D vwCl (FW cy a V) s.heap := hP
  have hD : va_D A (FW cy a V) := hD
  have hl : lv_has ls 2 [(0, .ref (a 0))] := hl
  have hend : ∀ (H : Heap) (locs : List Loc) (pc : Nat) (ls : Array Slot) (v : Int32), v = r → narrow .int (.int v) = .int v → va_P D vwCl (FW cy a V) H → va_D A (FW cy a V) → va_S A s.heap H locs → decode cX0_timeOfDay pc = .ok (.ireturn, 1) → W p l e (RM 0 0) s m args below meth c H locs 0 0 Q (F0 m pc ls [.int v]) := fun H locs pc ls v h1 h3 h4 h5 h6 h7 => hend H locs pc ls v V h1 rfl h3 h4 h5 h6 h7
  have fl_22 := hts (.fieldLink RX0 22 "NoonWells$Field" "settings" "[I") (by decide +kernel)
  have inw_X0 := (by decide +kernel : ∀ w ∈ u_ws RX0 TX0 10, w ∈ wsX0_timeOfDay)
  have fl_43 := hts (.fieldLink RX0 43 "NoonWells$Field" "time" "I") (by decide +kernel)
  obtain ⟨H, hHe⟩ : ∃ H : Heap, H = s.heap := ⟨_, rfl⟩
  obtain ⟨locs, hLe⟩ : ∃ x : List Loc, x = [] := ⟨_, rfl⟩
  have hP : va_P D vwCl (FW cy a V) H := by rw [hHe]; exact hP
  have hS : va_S A s.heap H locs := by rw [hHe, hLe]; exact hS
  have goal0 : W p l e (RM 0 0) s m args below meth c H locs 0 0 Q (F0 m 0 ls []) := by
    refine lv_aload_n hx hb dX0_timeOfDay_0 rfl (lv_at hl 0 rfl) ?_
    refine va_get (ci := 0) (v := .ref (a 4)) (C := RX0) (T := TX0) (N := 10) hx hb hts inw_X0 hown hK.1 hP 0 rfl rfl 3 (by decide) fl_22 (fun _ h9 => h9) rfl dX0_timeOfDay_1 ?_
    refine lv_iconst (v := 0) hx hb dX0_timeOfDay_4 (by decide) ?_
    refine g_iald (x := V 4 0) hx hb hK hP 4 rfl (vp_lit (by decide)) rfl dX0_timeOfDay_5 ?_
    refine lv_istore_n (lv' := [(1, .int (V 4 0)), (0, .ref (a 0))]) hx hb dX0_timeOfDay_6 rfl hl (by decide) rfl (fun ls hl => ?_)
    refine lv_iload_n hx hb dX0_timeOfDay_7 rfl (lv_at hl 0 rfl) ?_
    refine lv_if_le (tgt := 20) hx hb dX0_timeOfDay_8 (by decide) (fun c1 => ?_) (fun c1 => ?_)
    · replace hc := ite_t c1 hc
      refine lv_iconst (v := 0) hx hb dX0_timeOfDay_20 (by decide) ?_
      exact hend H locs _ _ _ (some_one hc) rfl hP hD hS dX0_timeOfDay_21
    · replace hc := ite_f c1 hc
      refine lv_aload_n hx hb dX0_timeOfDay_11 rfl (lv_at hl 1 rfl) ?_
      refine va_get (ci := 0) (v := .int (V 0 3)) (C := RX0) (T := TX0) (N := 10) hx hb hts inw_X0 hown hK.1 hP 0 rfl rfl 8 (by decide) fl_43 (fun _ h9 => h9) rfl dX0_timeOfDay_12 ?_
      refine lv_iload_n hx hb dX0_timeOfDay_15 rfl (lv_at hl 0 rfl) ?_
      obtain ⟨hz2, hc⟩ := nz_some hc
      refine lv_irem hx hb dX0_timeOfDay_16 hz2 ?_
      refine lv_goto (tgt := 21) hx hb dX0_timeOfDay_17 (by decide) ?_
      exact hend H locs _ _ _ (some_one hc) rfl hP hD hS dX0_timeOfDay_21
  rw [hHe, hLe] at goal0
  exact goal0
set_option maxHeartbeats 4000000 in
set_option maxRecDepth 100000 in
theorem C_X0_wellAbove (l : Launch) (D : va_G) (cy : Nat → ClassId) (a : Nat → Nat) (V : FV) (p1 : Int32) (p2 : Int32) (r : Int32) (hc : f_X0_wellAbove V p1 p2 = some r) : ConI l yX0_wellAbove wsX0_wellAbove 1 21 D cy (FW cy a) [.ref (a 0), .int p1, .int p2] V V r := by
  refine bodyI (cc := cX0_wellAbove) (maxL := 6) (ty := .int) (by decide +kernel) rfl (Nat.le_of_ble_eq_true rfl) ?_
  intro p e s m args below meth c A Q hx hb hml hts hown hK hP hD hA hS hend ls hl
  have hown : s.vm.findClass RX0 = some m.cls := hown
  have hP : va_P D vwCl (FW cy a V) s.heap := hP
  have hD : va_D A (FW cy a V) := hD
  have hl : lv_has ls 6 [(0, .ref (a 0)), (1, .int p1), (2, .int p2)] := hl
  have hend : ∀ (H : Heap) (locs : List Loc) (pc : Nat) (ls : Array Slot) (v : Int32), v = r → narrow .int (.int v) = .int v → va_P D vwCl (FW cy a V) H → va_D A (FW cy a V) → va_S A s.heap H locs → decode cX0_wellAbove pc = .ok (.ireturn, 1) → W p l e (RM 1 21) s m args below meth c H locs 0 0 Q (F0 m pc ls [.int v]) := fun H locs pc ls v h1 h3 h4 h5 h6 h7 => hend H locs pc ls v V h1 rfl h3 h4 h5 h6 h7
  have mm_l := hts (.methodLink RX0 49 Lib.Math.min.name) (by decide +kernel)
  have mm_s := hts (.static Lib.Math.min.name) (by decide +kernel)
  have mm_i := hts (.initialized "java/lang/Math") (by decide +kernel)
  have mm_c := hts (.code Lib.Math.min.name Lib.Math.min.code 2 (some .int)) (by decide +kernel)
  have fl_11 := hts (.fieldLink RX0 11 "NoonWells$Field" "wells" "[[I") (by decide +kernel)
  have inw_X0 := (by decide +kernel : ∀ w ∈ u_ws RX0 TX0 10, w ∈ wsX0_wellAbove)
  have L20 : ∀ (n : Nat), ∀ (y1 y2 y3 y4 y5 : Int32) (H : Heap) (locs : List Loc) (ls : Array Slot), f_X0_wellAbove_L20 V n y1 y2 y3 y4 y5 = some r → va_P D vwCl (FW cy a V) H → va_D A (FW cy a V) → va_S A s.heap H locs → lv_has ls 6 [(0, .ref (a 0)), (1, .int y1), (2, .int y2), (3, .int y3), (4, .int y4), (5, .int y5)] → W p l e (RM 1 21) s m args below meth c H locs 0 0 Q (F0 m 20 ls []) := by
    intro n
    induction n with
    | zero =>
      intro y1 y2 y3 y4 y5 H locs ls hc
      cases hc
    | succ n ih =>
      intro y1 y2 y3 y4 y5 H locs ls hc hP hD hS hl
      refine lv_iload hx hb dX0_wellAbove_20 (lv_at hl 5 rfl) ?_
      refine lv_iload_n hx hb dX0_wellAbove_22 rfl (lv_at hl 3 rfl) ?_
      refine lv_icmp_ge (tgt := 52) hx hb dX0_wellAbove_23 (by decide) (fun c3 => ?_) (fun c3 => ?_)
      · replace hc := ite_t c3 hc
        refine lv_iload hx hb dX0_wellAbove_52 (lv_at hl 4 rfl) ?_
        exact hend H locs _ _ _ (some_one hc) rfl hP hD hS dX0_wellAbove_54
      · replace hc := ite_f c3 hc
        refine lv_aload_n hx hb dX0_wellAbove_26 rfl (lv_at hl 0 rfl) ?_
        refine lv_iload hx hb dX0_wellAbove_27 (lv_at hl 4 rfl) ?_
        obtain ⟨x4, hc4, hc⟩ := b1_some hc
        refine gc_VI (n := 1) (ci := 0) (w' := FW cy a V) hx hb hml hown hts hK hP hD hS hA hl.1 ⟨Nat.le_refl _, Nat.le_refl _⟩ (C_X0_isWell l D cy a V y4 x4 hc4) gX0_wellAbove_X0_isWell rfl (by decide +kernel) rfl ⟨by decide, by decide⟩ Jn.same rfl rfl rfl (Nat.le_of_ble_eq_true rfl) dX0_wellAbove_29 (fun H locs hP hD hS => ?_)
        refine lv_if_eq (tgt := 52) hx hb dX0_wellAbove_32 (by decide) (fun c5 => ?_) (fun c5 => ?_)
        · replace hc := ite_t c5 hc
          refine lv_iload hx hb dX0_wellAbove_52 (lv_at hl 4 rfl) ?_
          exact hend H locs _ _ _ (some_one hc) rfl hP hD hS dX0_wellAbove_54
        · replace hc := ite_f c5 hc
          refine lv_aload_n hx hb dX0_wellAbove_35 rfl (lv_at hl 0 rfl) ?_
          refine va_get (ci := 0) (v := .ref (a 1)) (C := RX0) (T := TX0) (N := 10) hx hb hts inw_X0 hown hK.1 hP 0 rfl rfl 0 (by decide) fl_11 (fun _ h9 => h9) rfl dX0_wellAbove_36 ?_
          refine lv_iconst (v := 0) hx hb dX0_wellAbove_39 (by decide) ?_
          refine g_aald (v := a 6) hx hb hK hP 1 rfl (vp_lit (by decide)) rfl dX0_wellAbove_40 ?_
          refine lv_iload hx hb dX0_wellAbove_41 (lv_at hl 4 rfl) ?_
          obtain ⟨x6, hi6, hv6, hc⟩ := rd_some hc
          refine g_iald (x := x6) hx hb hK hP 6 rfl hi6 hv6 dX0_wellAbove_43 ?_
          refine lv_istore (lv' := [(4, .int x6), (0, .ref (a 0)), (1, .int y1), (2, .int y2), (3, .int y3), (5, .int y5)]) hx hb dX0_wellAbove_44 hl (by decide) rfl (fun ls hl => ?_)
          refine lv_iinc (v := y5 + 1) (lv' := [(5, .int (y5 + 1)), (4, .int x6), (0, .ref (a 0)), (1, .int y1), (2, .int y2), (3, .int y3)]) hx hb dX0_wellAbove_46 hl (k := 5) rfl rfl (by decide) rfl (fun ls hl => ?_)
          refine lv_goto (tgt := 20) hx hb dX0_wellAbove_49 (by decide) ?_
          exact ih y1 y2 y3 x6 (y5 + 1) H locs ls hc hP hD hS (lv_sub hl [2, 3, 4, 5, 1, 0] rfl)
  obtain ⟨H, hHe⟩ : ∃ H : Heap, H = s.heap := ⟨_, rfl⟩
  obtain ⟨locs, hLe⟩ : ∃ x : List Loc, x = [] := ⟨_, rfl⟩
  have hP : va_P D vwCl (FW cy a V) H := by rw [hHe]; exact hP
  have hS : va_S A s.heap H locs := by rw [hHe, hLe]; exact hS
  have goal0 : W p l e (RM 1 21) s m args below meth c H locs 0 0 Q (F0 m 0 ls []) := by
    refine lv_iload_n hx hb dX0_wellAbove_0 rfl (lv_at hl 2 rfl) ?_
    refine lv_bipush (v := 12) hx hb dX0_wellAbove_1 (by decide +kernel) ?_
    obtain ⟨x1, ex1, hc⟩ := lt1_some hc
    refine g_min ex1 hx hb hml hl.1 hown mm_l mm_s mm_i mm_c (Nat.le_of_ble_eq_true rfl) (Nat.le_of_ble_eq_true rfl) (Nat.le_refl _) (Nat.le_refl _) dX0_wellAbove_3 ?_
    refine lv_istore_n (lv' := [(3, .int x1), (0, .ref (a 0)), (1, .int p1), (2, .int p2)]) hx hb dX0_wellAbove_6 rfl hl (by decide) rfl (fun ls hl => ?_)
    refine lv_aload_n hx hb dX0_wellAbove_7 rfl (lv_at hl 1 rfl) ?_
    refine va_get (ci := 0) (v := .ref (a 1)) (C := RX0) (T := TX0) (N := 10) hx hb hts inw_X0 hown hK.1 hP 0 rfl rfl 0 (by decide) fl_11 (fun _ h9 => h9) rfl dX0_wellAbove_8 ?_
    refine lv_iconst (v := 0) hx hb dX0_wellAbove_11 (by decide) ?_
    refine g_aald (v := a 6) hx hb hK hP 1 rfl (vp_lit (by decide)) rfl dX0_wellAbove_12 ?_
    refine lv_iload_n hx hb dX0_wellAbove_13 rfl (lv_at hl 2 rfl) ?_
    obtain ⟨x2, hi2, hv2, hc⟩ := rd_some hc
    refine g_iald (x := x2) hx hb hK hP 6 rfl hi2 hv2 dX0_wellAbove_14 ?_
    refine lv_istore (lv' := [(4, .int x2), (3, .int x1), (0, .ref (a 0)), (1, .int p1), (2, .int p2)]) hx hb dX0_wellAbove_15 hl (by decide) rfl (fun ls hl => ?_)
    refine lv_iconst (v := 0) hx hb dX0_wellAbove_17 (by decide) ?_
    refine lv_istore (lv' := [(5, .int 0), (4, .int x2), (3, .int x1), (0, .ref (a 0)), (1, .int p1), (2, .int p2)]) hx hb dX0_wellAbove_18 hl (by decide) rfl (fun ls hl => ?_)
    exact L20 FUEL p1 p2 x1 x2 0 H locs ls hc hP hD hS (lv_sub hl [3, 4, 5, 2, 1, 0] rfl)
  rw [hHe, hLe] at goal0
  exact goal0
set_option maxHeartbeats 4000000 in
set_option maxRecDepth 100000 in
theorem C_X0_dryWells (l : Launch) (D : va_G) (cy : Nat → ClassId) (a : Nat → Nat) (V : FV) (p1 : Int32) (r : Int32) (hc : f_X0_dryWells V p1 = some r) : ConI l yX0_dryWells wsX0_dryWells 0 0 D cy (FW cy a) [.ref (a 0), .int p1] V V r := by
  refine bodyI (cc := cX0_dryWells) (maxL := 4) (ty := .int) (by decide +kernel) rfl (Nat.le_of_ble_eq_true rfl) ?_
  intro p e s m args below meth c A Q hx hb hml hts hown hK hP hD hA hS hend ls hl
  have hown : s.vm.findClass RX0 = some m.cls := hown
  have hP : va_P D vwCl (FW cy a V) s.heap := hP
  have hD : va_D A (FW cy a V) := hD
  have hl : lv_has ls 4 [(0, .ref (a 0)), (1, .int p1)] := hl
  have hend : ∀ (H : Heap) (locs : List Loc) (pc : Nat) (ls : Array Slot) (v : Int32), v = r → narrow .int (.int v) = .int v → va_P D vwCl (FW cy a V) H → va_D A (FW cy a V) → va_S A s.heap H locs → decode cX0_dryWells pc = .ok (.ireturn, 1) → W p l e (RM 0 0) s m args below meth c H locs 0 0 Q (F0 m pc ls [.int v]) := fun H locs pc ls v h1 h3 h4 h5 h6 h7 => hend H locs pc ls v V h1 rfl h3 h4 h5 h6 h7
  have fl_37 := hts (.fieldLink RX0 37 "NoonWells$Field" "droughtCount" "I") (by decide +kernel)
  have inw_X0 := (by decide +kernel : ∀ w ∈ u_ws RX0 TX0 10, w ∈ wsX0_dryWells)
  have fl_16 := hts (.fieldLink RX0 16 "NoonWells$Field" "droughts" "[[I") (by decide +kernel)
  have L4 : ∀ (n : Nat), ∀ (y1 y2 y3 : Int32) (H : Heap) (locs : List Loc) (ls : Array Slot), f_X0_dryWells_L4 V n y1 y2 y3 = some r → va_P D vwCl (FW cy a V) H → va_D A (FW cy a V) → va_S A s.heap H locs → lv_has ls 4 [(0, .ref (a 0)), (1, .int y1), (2, .int y2), (3, .int y3)] → W p l e (RM 0 0) s m args below meth c H locs 0 0 Q (F0 m 4 ls []) := by
    intro n
    induction n with
    | zero =>
      intro y1 y2 y3 H locs ls hc
      cases hc
    | succ n ih =>
      intro y1 y2 y3 H locs ls hc hP hD hS hl
      refine lv_iload_n hx hb dX0_dryWells_4 rfl (lv_at hl 3 rfl) ?_
      refine lv_aload_n hx hb dX0_dryWells_5 rfl (lv_at hl 0 rfl) ?_
      refine va_get (ci := 0) (v := .int (V 0 1)) (C := RX0) (T := TX0) (N := 10) hx hb hts inw_X0 hown hK.1 hP 0 rfl rfl 6 (by decide) fl_37 (fun _ h9 => h9) rfl dX0_dryWells_6 ?_
      refine lv_icmp_ge (tgt := 55) hx hb dX0_dryWells_9 (by decide) (fun c1 => ?_) (fun c1 => ?_)
      · replace hc := ite_t c1 hc
        refine lv_iload_n hx hb dX0_dryWells_55 rfl (lv_at hl 2 rfl) ?_
        exact hend H locs _ _ _ (some_one hc) rfl hP hD hS dX0_dryWells_56
      · replace hc := ite_f c1 hc
        refine lv_aload_n hx hb dX0_dryWells_12 rfl (lv_at hl 0 rfl) ?_
        refine va_get (ci := 0) (v := .ref (a 2)) (C := RX0) (T := TX0) (N := 10) hx hb hts inw_X0 hown hK.1 hP 0 rfl rfl 1 (by decide) fl_16 (fun _ h9 => h9) rfl dX0_dryWells_13 ?_
        refine lv_iconst (v := 1) hx hb dX0_dryWells_16 (by decide) ?_
        refine g_aald (v := a 20) hx hb hK hP 2 rfl (vp_lit (by decide)) rfl dX0_dryWells_17 ?_
        refine lv_iload_n hx hb dX0_dryWells_18 rfl (lv_at hl 3 rfl) ?_
        obtain ⟨x2, hi2, hv2, hc⟩ := rd_some hc
        refine g_iald (x := x2) hx hb hK hP 20 rfl hi2 hv2 dX0_dryWells_19 ?_
        refine lv_iload_n hx hb dX0_dryWells_20 rfl (lv_at hl 1 rfl) ?_
        refine lv_icmp_gt (tgt := 49) hx hb dX0_dryWells_21 (by decide) (fun c3 => ?_) (fun c3 => ?_)
        · replace hc := ite_t c3 hc
          refine lv_iinc (v := y3 + 1) (lv' := [(3, .int (y3 + 1)), (0, .ref (a 0)), (1, .int y1), (2, .int y2)]) hx hb dX0_dryWells_49 hl (k := 3) rfl rfl (by decide) rfl (fun ls hl => ?_)
          refine lv_goto (tgt := 4) hx hb dX0_dryWells_52 (by decide) ?_
          exact ih y1 y2 (y3 + 1) H locs ls hc hP hD hS (lv_sub hl [1, 2, 3, 0] rfl)
        · replace hc := ite_f c3 hc
          refine lv_iload_n hx hb dX0_dryWells_24 rfl (lv_at hl 1 rfl) ?_
          refine lv_aload_n hx hb dX0_dryWells_25 rfl (lv_at hl 0 rfl) ?_
          refine va_get (ci := 0) (v := .ref (a 2)) (C := RX0) (T := TX0) (N := 10) hx hb hts inw_X0 hown hK.1 hP 0 rfl rfl 1 (by decide) fl_16 (fun _ h9 => h9) rfl dX0_dryWells_26 ?_
          refine lv_iconst (v := 2) hx hb dX0_dryWells_29 (by decide) ?_
          refine g_aald (v := a 21) hx hb hK hP 2 rfl (vp_lit (by decide)) rfl dX0_dryWells_30 ?_
          refine lv_iload_n hx hb dX0_dryWells_31 rfl (lv_at hl 3 rfl) ?_
          obtain ⟨x4, hi4, hv4, hc⟩ := rd_some hc
          refine g_iald (x := x4) hx hb hK hP 21 rfl hi4 hv4 dX0_dryWells_32 ?_
          refine lv_icmp_gt (tgt := 49) hx hb dX0_dryWells_33 (by decide) (fun c5 => ?_) (fun c5 => ?_)
          · replace hc := ite_t c5 hc
            refine lv_iinc (v := y3 + 1) (lv' := [(3, .int (y3 + 1)), (0, .ref (a 0)), (1, .int y1), (2, .int y2)]) hx hb dX0_dryWells_49 hl (k := 3) rfl rfl (by decide) rfl (fun ls hl => ?_)
            refine lv_goto (tgt := 4) hx hb dX0_dryWells_52 (by decide) ?_
            exact ih y1 y2 (y3 + 1) H locs ls hc hP hD hS (lv_sub hl [1, 2, 3, 0] rfl)
          · replace hc := ite_f c5 hc
            refine lv_iload_n hx hb dX0_dryWells_36 rfl (lv_at hl 2 rfl) ?_
            refine lv_iconst (v := 1) hx hb dX0_dryWells_37 (by decide) ?_
            refine lv_aload_n hx hb dX0_dryWells_38 rfl (lv_at hl 0 rfl) ?_
            refine va_get (ci := 0) (v := .ref (a 2)) (C := RX0) (T := TX0) (N := 10) hx hb hts inw_X0 hown hK.1 hP 0 rfl rfl 1 (by decide) fl_16 (fun _ h9 => h9) rfl dX0_dryWells_39 ?_
            refine lv_iconst (v := 0) hx hb dX0_dryWells_42 (by decide) ?_
            refine g_aald (v := a 19) hx hb hK hP 2 rfl (vp_lit (by decide)) rfl dX0_dryWells_43 ?_
            refine lv_iload_n hx hb dX0_dryWells_44 rfl (lv_at hl 3 rfl) ?_
            obtain ⟨x6, hi6, hv6, hc⟩ := rd_some hc
            refine g_iald (x := x6) hx hb hK hP 19 rfl hi6 hv6 dX0_dryWells_45 ?_
            refine lv_ishl hx hb dX0_dryWells_46 ?_
            refine lv_ior hx hb dX0_dryWells_47 ?_
            refine lv_istore_n (lv' := [(2, .int (y2 ||| (1 <<< (x6 &&& 31)))), (0, .ref (a 0)), (1, .int y1), (3, .int y3)]) hx hb dX0_dryWells_48 rfl hl (by decide) rfl (fun ls hl => ?_)
            refine lv_iinc (v := y3 + 1) (lv' := [(3, .int (y3 + 1)), (2, .int (y2 ||| (1 <<< (x6 &&& 31)))), (0, .ref (a 0)), (1, .int y1)]) hx hb dX0_dryWells_49 hl (k := 3) rfl rfl (by decide) rfl (fun ls hl => ?_)
            refine lv_goto (tgt := 4) hx hb dX0_dryWells_52 (by decide) ?_
            exact ih y1 (y2 ||| (1 <<< (x6 &&& 31))) (y3 + 1) H locs ls hc hP hD hS (lv_sub hl [2, 3, 1, 0] rfl)
  obtain ⟨H, hHe⟩ : ∃ H : Heap, H = s.heap := ⟨_, rfl⟩
  obtain ⟨locs, hLe⟩ : ∃ x : List Loc, x = [] := ⟨_, rfl⟩
  have hP : va_P D vwCl (FW cy a V) H := by rw [hHe]; exact hP
  have hS : va_S A s.heap H locs := by rw [hHe, hLe]; exact hS
  have goal0 : W p l e (RM 0 0) s m args below meth c H locs 0 0 Q (F0 m 0 ls []) := by
    refine lv_iconst (v := 0) hx hb dX0_dryWells_0 (by decide) ?_
    refine lv_istore_n (lv' := [(2, .int 0), (0, .ref (a 0)), (1, .int p1)]) hx hb dX0_dryWells_1 rfl hl (by decide) rfl (fun ls hl => ?_)
    refine lv_iconst (v := 0) hx hb dX0_dryWells_2 (by decide) ?_
    refine lv_istore_n (lv' := [(3, .int 0), (2, .int 0), (0, .ref (a 0)), (1, .int p1)]) hx hb dX0_dryWells_3 rfl hl (by decide) rfl (fun ls hl => ?_)
    exact L4 FUEL p1 0 0 H locs ls hc hP hD hS (lv_sub hl [2, 3, 1, 0] rfl)
  rw [hHe, hLe] at goal0
  exact goal0
set_option maxHeartbeats 4000000 in
set_option maxRecDepth 100000 in
theorem C_X0_isDry (l : Launch) (D : va_G) (cy : Nat → ClassId) (a : Nat → Nat) (V : FV) (p1 : Int32) (p2 : Int32) (r : Int32) (hc : f_X0_isDry V p1 p2 = some r) : ConI l yX0_isDry wsX0_isDry 1 23 D cy (FW cy a) [.ref (a 0), .int p1, .int p2] V V r := by
  refine bodyI (cc := cX0_isDry) (maxL := 3) (ty := .boolean) (by decide +kernel) rfl (Nat.le_of_ble_eq_true rfl) ?_
  intro p e s m args below meth c A Q hx hb hml hts hown hK hP hD hA hS hend ls hl
  have hown : s.vm.findClass RX0 = some m.cls := hown
  have hP : va_P D vwCl (FW cy a V) s.heap := hP
  have hD : va_D A (FW cy a V) := hD
  have hl : lv_has ls 3 [(0, .ref (a 0)), (1, .int p1), (2, .int p2)] := hl
  have hend : ∀ (H : Heap) (locs : List Loc) (pc : Nat) (ls : Array Slot) (v : Int32), v = r → narrow .boolean (.int v) = .int v → va_P D vwCl (FW cy a V) H → va_D A (FW cy a V) → va_S A s.heap H locs → decode cX0_isDry pc = .ok (.ireturn, 1) → W p l e (RM 1 23) s m args below meth c H locs 0 0 Q (F0 m pc ls [.int v]) := fun H locs pc ls v h1 h3 h4 h5 h6 h7 => hend H locs pc ls v V h1 rfl h3 h4 h5 h6 h7
  obtain ⟨H, hHe⟩ : ∃ H : Heap, H = s.heap := ⟨_, rfl⟩
  obtain ⟨locs, hLe⟩ : ∃ x : List Loc, x = [] := ⟨_, rfl⟩
  have hP : va_P D vwCl (FW cy a V) H := by rw [hHe]; exact hP
  have hS : va_S A s.heap H locs := by rw [hHe, hLe]; exact hS
  have goal0 : W p l e (RM 1 23) s m args below meth c H locs 0 0 Q (F0 m 0 ls []) := by
    refine lv_aload_n hx hb dX0_isDry_0 rfl (lv_at hl 0 rfl) ?_
    refine lv_iload_n hx hb dX0_isDry_1 rfl (lv_at hl 2 rfl) ?_
    obtain ⟨x1, hc1, hc⟩ := b1_some hc
    refine gc_VI (n := 1) (ci := 0) (w' := FW cy a V) hx hb hml hown hts hK hP hD hS hA hl.1 ⟨Nat.le_refl _, Nat.le_refl _⟩ (C_X0_dryWells l D cy a V p2 x1 hc1) gX0_isDry_X0_dryWells rfl (by decide +kernel) rfl ⟨by decide, by decide⟩ Jn.same rfl rfl rfl (Nat.le_of_ble_eq_true rfl) dX0_isDry_2 (fun H locs hP hD hS => ?_)
    refine lv_iload_n hx hb dX0_isDry_5 rfl (lv_at hl 1 rfl) ?_
    refine lv_ishr hx hb dX0_isDry_6 ?_
    refine lv_iconst (v := 1) hx hb dX0_isDry_7 (by decide) ?_
    refine lv_iand hx hb dX0_isDry_8 ?_
    refine lv_iconst (v := 1) hx hb dX0_isDry_9 (by decide) ?_
    refine lv_icmp_ne (tgt := 17) hx hb dX0_isDry_10 (by decide) (fun c2 => ?_) (fun c2 => ?_)
    · replace hc := ite_f c2 hc
      refine lv_iconst (v := 0) hx hb dX0_isDry_17 (by decide) ?_
      exact hend H locs _ _ _ (some_one hc) rfl hP hD hS dX0_isDry_18
    · replace hc := ite_t c2 hc
      refine lv_iconst (v := 1) hx hb dX0_isDry_13 (by decide) ?_
      refine lv_goto (tgt := 18) hx hb dX0_isDry_14 (by decide) ?_
      exact hend H locs _ _ _ (some_one hc) rfl hP hD hS dX0_isDry_18
  rw [hHe, hLe] at goal0
  exact goal0
set_option maxHeartbeats 4000000 in
set_option maxRecDepth 100000 in
theorem C_X0_roomIn (l : Launch) (D : va_G) (cy : Nat → ClassId) (a : Nat → Nat) (V : FV) (p1 : Int32) (r : Int32) (hc : f_X0_roomIn V p1 = some r) : ConI l yX0_roomIn wsX0_roomIn 0 0 D cy (FW cy a) [.ref (a 0), .int p1] V V r := by
  refine bodyI (cc := cX0_roomIn) (maxL := 2) (ty := .int) (by decide +kernel) rfl (Nat.le_of_ble_eq_true rfl) ?_
  intro p e s m args below meth c A Q hx hb hml hts hown hK hP hD hA hS hend ls hl
  have hown : s.vm.findClass RX0 = some m.cls := hown
  have hP : va_P D vwCl (FW cy a V) s.heap := hP
  have hD : va_D A (FW cy a V) := hD
  have hl : lv_has ls 2 [(0, .ref (a 0)), (1, .int p1)] := hl
  have hend : ∀ (H : Heap) (locs : List Loc) (pc : Nat) (ls : Array Slot) (v : Int32), v = r → narrow .int (.int v) = .int v → va_P D vwCl (FW cy a V) H → va_D A (FW cy a V) → va_S A s.heap H locs → decode cX0_roomIn pc = .ok (.ireturn, 1) → W p l e (RM 0 0) s m args below meth c H locs 0 0 Q (F0 m pc ls [.int v]) := fun H locs pc ls v h1 h3 h4 h5 h6 h7 => hend H locs pc ls v V h1 rfl h3 h4 h5 h6 h7
  have fl_11 := hts (.fieldLink RX0 11 "NoonWells$Field" "wells" "[[I") (by decide +kernel)
  have inw_X0 := (by decide +kernel : ∀ w ∈ u_ws RX0 TX0 10, w ∈ wsX0_roomIn)
  obtain ⟨H, hHe⟩ : ∃ H : Heap, H = s.heap := ⟨_, rfl⟩
  obtain ⟨locs, hLe⟩ : ∃ x : List Loc, x = [] := ⟨_, rfl⟩
  have hP : va_P D vwCl (FW cy a V) H := by rw [hHe]; exact hP
  have hS : va_S A s.heap H locs := by rw [hHe, hLe]; exact hS
  have goal0 : W p l e (RM 0 0) s m args below meth c H locs 0 0 Q (F0 m 0 ls []) := by
    refine lv_aload_n hx hb dX0_roomIn_0 rfl (lv_at hl 0 rfl) ?_
    refine va_get (ci := 0) (v := .ref (a 1)) (C := RX0) (T := TX0) (N := 10) hx hb hts inw_X0 hown hK.1 hP 0 rfl rfl 0 (by decide) fl_11 (fun _ h9 => h9) rfl dX0_roomIn_1 ?_
    refine lv_iconst (v := 1) hx hb dX0_roomIn_4 (by decide) ?_
    refine g_aald (v := a 7) hx hb hK hP 1 rfl (vp_lit (by decide)) rfl dX0_roomIn_5 ?_
    refine lv_iload_n hx hb dX0_roomIn_6 rfl (lv_at hl 1 rfl) ?_
    obtain ⟨x1, hi1, hv1, hc⟩ := rd_some hc
    refine g_iald (x := x1) hx hb hK hP 7 rfl hi1 hv1 dX0_roomIn_7 ?_
    refine lv_aload_n hx hb dX0_roomIn_8 rfl (lv_at hl 0 rfl) ?_
    refine va_get (ci := 0) (v := .ref (a 1)) (C := RX0) (T := TX0) (N := 10) hx hb hts inw_X0 hown hK.1 hP 0 rfl rfl 0 (by decide) fl_11 (fun _ h9 => h9) rfl dX0_roomIn_9 ?_
    refine lv_iconst (v := 4) hx hb dX0_roomIn_12 (by decide) ?_
    refine g_aald (v := a 10) hx hb hK hP 1 rfl (vp_lit (by decide)) rfl dX0_roomIn_13 ?_
    refine lv_iload_n hx hb dX0_roomIn_14 rfl (lv_at hl 1 rfl) ?_
    obtain ⟨x2, hi2, hv2, hc⟩ := rd_some hc
    refine g_iald (x := x2) hx hb hK hP 10 rfl hi2 hv2 dX0_roomIn_15 ?_
    refine lv_isub hx hb dX0_roomIn_16 ?_
    exact hend H locs _ _ _ (some_one hc) rfl hP hD hS dX0_roomIn_17
  rw [hHe, hLe] at goal0
  exact goal0
end
section
set_option maxHeartbeats 4000000 in
set_option maxRecDepth 100000 in
theorem C_X0_addWell (l : Launch) (D : va_G) (cy : Nat → ClassId) (a : Nat → Nat) (V : FV) (p1 : Int32) (p2 : Int32) (p3 : Int32) (p4 : Int32) (r : Int32) (V' : FV) (hc : f_X0_addWell V p1 p2 p3 p4 = some (r, V')) : ConI l yX0_addWell wsX0_addWell 1 21 D cy (FW cy a) [.ref (a 0), .int p1, .int p2, .int p3, .int p4] V V' r := by
  refine bodyI (cc := cX0_addWell) (maxL := 6) (ty := .int) (by decide +kernel) rfl (Nat.le_of_ble_eq_true rfl) ?_
  intro p e s m args below meth c A Q hx hb hml hts hown hK hP hD hA hS hend ls hl
  have hown : s.vm.findClass RX0 = some m.cls := hown
  have hP : va_P D vwCl (FW cy a V) s.heap := hP
  have hD : va_D A (FW cy a V) := hD
  have hl : lv_has ls 6 [(0, .ref (a 0)), (1, .int p1), (2, .int p2), (3, .int p3), (4, .int p4)] := hl
  have hend : ∀ (H : Heap) (locs : List Loc) (pc : Nat) (ls : Array Slot) (v : Int32) (V : FV), v = r → V = V' → narrow .int (.int v) = .int v → va_P D vwCl (FW cy a V) H → va_D A (FW cy a V) → va_S A s.heap H locs → decode cX0_addWell pc = .ok (.ireturn, 1) → W p l e (RM 1 21) s m args below meth c H locs 0 0 Q (F0 m pc ls [.int v]) := fun H locs pc ls v V h1 h2 h3 h4 h5 h6 h7 => hend H locs pc ls v V h1 h2 h3 h4 h5 h6 h7
  have fl_33 := hts (.fieldLink RX0 33 "NoonWells$Field" "wellCount" "I") (by decide +kernel)
  have inw_X0 := (by decide +kernel : ∀ w ∈ u_ws RX0 TX0 10, w ∈ wsX0_addWell)
  have fl_11 := hts (.fieldLink RX0 11 "NoonWells$Field" "wells" "[[I") (by decide +kernel)
  obtain ⟨H, hHe⟩ : ∃ H : Heap, H = s.heap := ⟨_, rfl⟩
  obtain ⟨locs, hLe⟩ : ∃ x : List Loc, x = [] := ⟨_, rfl⟩
  have hP : va_P D vwCl (FW cy a V) H := by rw [hHe]; exact hP
  have hS : va_S A s.heap H locs := by rw [hHe, hLe]; exact hS
  have goal0 : W p l e (RM 1 21) s m args below meth c H locs 0 0 Q (F0 m 0 ls []) := by
    refine lv_aload_n hx hb dX0_addWell_0 rfl (lv_at hl 0 rfl) ?_
    refine va_get (ci := 0) (v := .int (V 0 0)) (C := RX0) (T := TX0) (N := 10) hx hb hts inw_X0 hown hK.1 hP 0 rfl rfl 5 (by decide) fl_33 (fun _ h9 => h9) rfl dX0_addWell_1 ?_
    refine lv_if_ne (tgt := 20) hx hb dX0_addWell_4 (by decide) (fun c1 => ?_) (fun c1 => ?_)
    · replace hc := ite_f c1 hc
      refine lv_aload_n hx hb dX0_addWell_20 rfl (lv_at hl 0 rfl) ?_
      refine lv_iload_n hx hb dX0_addWell_21 rfl (lv_at hl 1 rfl) ?_
      obtain ⟨x2, hc2, hc⟩ := b1_some hc
      refine gc_VI (n := 1) (ci := 0) (w' := FW cy a V) hx hb hml hown hts hK hP hD hS hA hl.1 ⟨Nat.le_refl _, Nat.le_refl _⟩ (C_X0_isWell l D cy a V p1 x2 hc2) gX0_addWell_X0_isWell rfl (by decide +kernel) rfl ⟨by decide, by decide⟩ Jn.same rfl rfl rfl (Nat.le_of_ble_eq_true rfl) dX0_addWell_22 (fun H locs hP hD hS => ?_)
      refine lv_istore (lv' := [(5, .int x2), (0, .ref (a 0)), (1, .int p1), (2, .int p2), (3, .int p3), (4, .int p4)]) hx hb dX0_addWell_25 hl (by decide) rfl (fun ls hl => ?_)
      refine lv_iload hx hb dX0_addWell_27 (lv_at hl 0 rfl) ?_
      refine lv_if_eq (tgt := 67) hx hb dX0_addWell_29 (by decide) (fun c3 => ?_) (fun c3 => ?_)
      · replace hc := ite_t c3 hc
        refine lv_iconst (v := (-1)) hx hb dX0_addWell_67 (by decide) ?_
        exact hend H locs _ _ _ _ (some_fst hc) (some_snd hc) rfl hP hD hS dX0_addWell_68
      · replace hc := ite_f c3 hc
        refine lv_iload_n hx hb dX0_addWell_32 rfl (lv_at hl 3 rfl) ?_
        refine lv_iconst (v := 1) hx hb dX0_addWell_33 (by decide) ?_
        refine lv_icmp_lt (tgt := 67) hx hb dX0_addWell_34 (by decide) (fun c4 => ?_) (fun c4 => ?_)
        · replace hc := ite_t c4 hc
          refine lv_iconst (v := (-1)) hx hb dX0_addWell_67 (by decide) ?_
          exact hend H locs _ _ _ _ (some_fst hc) (some_snd hc) rfl hP hD hS dX0_addWell_68
        · replace hc := ite_f c4 hc
          refine lv_iload_n hx hb dX0_addWell_37 rfl (lv_at hl 3 rfl) ?_
          refine lv_sipush (v := 1000) hx hb dX0_addWell_38 (by decide +kernel) ?_
          refine lv_icmp_gt (tgt := 67) hx hb dX0_addWell_41 (by decide) (fun c5 => ?_) (fun c5 => ?_)
          · replace hc := ite_t c5 hc
            refine lv_iconst (v := (-1)) hx hb dX0_addWell_67 (by decide) ?_
            exact hend H locs _ _ _ _ (some_fst hc) (some_snd hc) rfl hP hD hS dX0_addWell_68
          · replace hc := ite_f c5 hc
            refine lv_iload_n hx hb dX0_addWell_44 rfl (lv_at hl 4 rfl) ?_
            refine lv_if_lt (tgt := 67) hx hb dX0_addWell_45 (by decide) (fun c6 => ?_) (fun c6 => ?_)
            · replace hc := ite_t c6 hc
              refine lv_iconst (v := (-1)) hx hb dX0_addWell_67 (by decide) ?_
              exact hend H locs _ _ _ _ (some_fst hc) (some_snd hc) rfl hP hD hS dX0_addWell_68
            · replace hc := ite_f c6 hc
              refine lv_iload_n hx hb dX0_addWell_48 rfl (lv_at hl 4 rfl) ?_
              refine lv_bipush (v := 100) hx hb dX0_addWell_49 (by decide +kernel) ?_
              refine lv_icmp_gt (tgt := 67) hx hb dX0_addWell_51 (by decide) (fun c7 => ?_) (fun c7 => ?_)
              · replace hc := ite_t c7 hc
                refine lv_iconst (v := (-1)) hx hb dX0_addWell_67 (by decide) ?_
                exact hend H locs _ _ _ _ (some_fst hc) (some_snd hc) rfl hP hD hS dX0_addWell_68
              · replace hc := ite_f c7 hc
                refine lv_iload hx hb dX0_addWell_54 (lv_at hl 5 rfl) ?_
                refine lv_if_lt (tgt := 67) hx hb dX0_addWell_56 (by decide) (fun c8 => ?_) (fun c8 => ?_)
                · replace hc := ite_t c8 hc
                  refine lv_iconst (v := (-1)) hx hb dX0_addWell_67 (by decide) ?_
                  exact hend H locs _ _ _ _ (some_fst hc) (some_snd hc) rfl hP hD hS dX0_addWell_68
                · replace hc := ite_f c8 hc
                  refine lv_iload hx hb dX0_addWell_59 (lv_at hl 5 rfl) ?_
                  refine lv_sipush (v := 1000) hx hb dX0_addWell_61 (by decide +kernel) ?_
                  refine lv_icmp_le (tgt := 69) hx hb dX0_addWell_64 (by decide) (fun c9 => ?_) (fun c9 => ?_)
                  · replace hc := ite_t c9 hc
                    refine lv_aload_n hx hb dX0_addWell_69 rfl (lv_at hl 1 rfl) ?_
                    refine va_get (ci := 0) (v := .int (V 0 0)) (C := RX0) (T := TX0) (N := 10) hx hb hts inw_X0 hown hK.1 hP 0 rfl rfl 5 (by decide) fl_33 (fun _ h9 => h9) rfl dX0_addWell_70 ?_
                    refine lv_bipush (v := 12) hx hb dX0_addWell_73 (by decide +kernel) ?_
                    refine lv_icmp_lt (tgt := 81) hx hb dX0_addWell_75 (by decide) (fun c10 => ?_) (fun c10 => ?_)
                    · replace hc := ite_t c10 hc
                      refine lv_aload_n hx hb dX0_addWell_81 rfl (lv_at hl 1 rfl) ?_
                      refine va_get (ci := 0) (v := .ref (a 1)) (C := RX0) (T := TX0) (N := 10) hx hb hts inw_X0 hown hK.1 hP 0 rfl rfl 0 (by decide) fl_11 (fun _ h9 => h9) rfl dX0_addWell_82 ?_
                      refine lv_iconst (v := 0) hx hb dX0_addWell_85 (by decide) ?_
                      refine g_aald (v := a 6) hx hb hK hP 1 rfl (vp_lit (by decide)) rfl dX0_addWell_86 ?_
                      refine lv_aload_n hx hb dX0_addWell_87 rfl (lv_at hl 1 rfl) ?_
                      refine va_get (ci := 0) (v := .int (V 0 0)) (C := RX0) (T := TX0) (N := 10) hx hb hts inw_X0 hown hK.1 hP 0 rfl rfl 5 (by decide) fl_33 (fun _ h9 => h9) rfl dX0_addWell_88 ?_
                      refine lv_iload_n hx hb dX0_addWell_91 rfl (lv_at hl 2 rfl) ?_
                      obtain ⟨V11, hi11, eV11, hc⟩ := wr_some hc
                      refine g_iast (w' := FW cy a V11) hx hb hK hP hD hS 6 rfl hi11 (by rw [← eV11]; rfl) dX0_addWell_92 (fun H locs hP hD hS => ?_)
                      refine lv_aload_n hx hb dX0_addWell_93 rfl (lv_at hl 1 rfl) ?_
                      refine va_get (ci := 0) (v := .ref (a 1)) (C := RX0) (T := TX0) (N := 10) hx hb hts inw_X0 hown hK.1 hP 0 rfl rfl 0 (by decide) fl_11 (fun _ h9 => h9) rfl dX0_addWell_94 ?_
                      refine lv_iconst (v := 1) hx hb dX0_addWell_97 (by decide) ?_
                      refine g_aald (v := a 7) hx hb hK hP 1 rfl (vp_lit (by decide)) rfl dX0_addWell_98 ?_
                      refine lv_aload_n hx hb dX0_addWell_99 rfl (lv_at hl 1 rfl) ?_
                      refine va_get (ci := 0) (v := .int (V11 0 0)) (C := RX0) (T := TX0) (N := 10) hx hb hts inw_X0 hown hK.1 hP 0 rfl rfl 5 (by decide) fl_33 (fun _ h9 => h9) rfl dX0_addWell_100 ?_
                      refine lv_iload_n hx hb dX0_addWell_103 rfl (lv_at hl 3 rfl) ?_
                      obtain ⟨V12, hi12, eV12, hc⟩ := wr_some hc
                      refine g_iast (w' := FW cy a V12) hx hb hK hP hD hS 7 rfl hi12 (by rw [← eV12]; rfl) dX0_addWell_104 (fun H locs hP hD hS => ?_)
                      refine lv_aload_n hx hb dX0_addWell_105 rfl (lv_at hl 1 rfl) ?_
                      refine va_get (ci := 0) (v := .ref (a 1)) (C := RX0) (T := TX0) (N := 10) hx hb hts inw_X0 hown hK.1 hP 0 rfl rfl 0 (by decide) fl_11 (fun _ h9 => h9) rfl dX0_addWell_106 ?_
                      refine lv_iconst (v := 2) hx hb dX0_addWell_109 (by decide) ?_
                      refine g_aald (v := a 8) hx hb hK hP 1 rfl (vp_lit (by decide)) rfl dX0_addWell_110 ?_
                      refine lv_aload_n hx hb dX0_addWell_111 rfl (lv_at hl 1 rfl) ?_
                      refine va_get (ci := 0) (v := .int (V12 0 0)) (C := RX0) (T := TX0) (N := 10) hx hb hts inw_X0 hown hK.1 hP 0 rfl rfl 5 (by decide) fl_33 (fun _ h9 => h9) rfl dX0_addWell_112 ?_
                      refine lv_iload_n hx hb dX0_addWell_115 rfl (lv_at hl 4 rfl) ?_
                      obtain ⟨V13, hi13, eV13, hc⟩ := wr_some hc
                      refine g_iast (w' := FW cy a V13) hx hb hK hP hD hS 8 rfl hi13 (by rw [← eV13]; rfl) dX0_addWell_116 (fun H locs hP hD hS => ?_)
                      refine lv_aload_n hx hb dX0_addWell_117 rfl (lv_at hl 1 rfl) ?_
                      refine va_get (ci := 0) (v := .ref (a 1)) (C := RX0) (T := TX0) (N := 10) hx hb hts inw_X0 hown hK.1 hP 0 rfl rfl 0 (by decide) fl_11 (fun _ h9 => h9) rfl dX0_addWell_118 ?_
                      refine lv_iconst (v := 3) hx hb dX0_addWell_121 (by decide) ?_
                      refine g_aald (v := a 9) hx hb hK hP 1 rfl (vp_lit (by decide)) rfl dX0_addWell_122 ?_
                      refine lv_aload_n hx hb dX0_addWell_123 rfl (lv_at hl 1 rfl) ?_
                      refine va_get (ci := 0) (v := .int (V13 0 0)) (C := RX0) (T := TX0) (N := 10) hx hb hts inw_X0 hown hK.1 hP 0 rfl rfl 5 (by decide) fl_33 (fun _ h9 => h9) rfl dX0_addWell_124 ?_
                      refine lv_iload hx hb dX0_addWell_127 (lv_at hl 5 rfl) ?_
                      obtain ⟨V14, hi14, eV14, hc⟩ := wr_some hc
                      refine g_iast (w' := FW cy a V14) hx hb hK hP hD hS 9 rfl hi14 (by rw [← eV14]; rfl) dX0_addWell_129 (fun H locs hP hD hS => ?_)
                      refine lv_aload_n hx hb dX0_addWell_130 rfl (lv_at hl 1 rfl) ?_
                      refine lv_iload_n hx hb dX0_addWell_131 rfl (lv_at hl 2 rfl) ?_
                      obtain ⟨x15, hc15, hc⟩ := b1_some hc
                      refine gc_VI (n := 1) (ci := 0) (w' := FW cy a V14) hx hb hml hown hts hK hP hD hS hA hl.1 ⟨Nat.le_refl _, Nat.le_refl _⟩ (C_X0_isWell l D cy a V14 p1 x15 hc15) gX0_addWell_X0_isWell rfl (by decide +kernel) rfl ⟨by decide, by decide⟩ Jn.same rfl rfl rfl (Nat.le_of_ble_eq_true rfl) dX0_addWell_132 (fun H locs hP hD hS => ?_)
                      refine lv_if_eq (tgt := 151) hx hb dX0_addWell_135 (by decide) (fun c16 => ?_) (fun c16 => ?_)
                      · replace hc := ite_t c16 hc
                        refine lv_aload_n hx hb dX0_addWell_151 rfl (lv_at hl 1 rfl) ?_
                        refine lv_dup hx hb dX0_addWell_152 rfl ?_
                        refine va_get (ci := 0) (v := .int (V14 0 0)) (C := RX0) (T := TX0) (N := 10) hx hb hts inw_X0 hown hK.1 hP 0 rfl rfl 5 (by decide) fl_33 (fun _ h9 => h9) rfl dX0_addWell_153 ?_
                        refine lv_dup_x1 hx hb dX0_addWell_156 rfl rfl ?_
                        refine lv_iconst (v := 1) hx hb dX0_addWell_157 (by decide) ?_
                        refine lv_iadd hx hb dX0_addWell_158 ?_
                        obtain ⟨V17, eV17, hc⟩ := lt1_some hc
                        refine g_put (ci := 0) (C := RX0) (T := TX0) (N := 10) (w' := FW cy a V17) hx hb hts inw_X0 tyX0 tyX0_ok nmX0 hown hK hP hD hS 0 rfl rfl 5 (by decide) fl_33 (fun _ h9 => h9) rfl (by decide +kernel) (Nat.le_of_ble_eq_true rfl) (by rw [← eV17]; rfl) dX0_addWell_159 (fun H locs hP hD hS => ?_)
                        exact hend H locs _ _ _ _ (some_fst hc) (some_snd hc) rfl hP hD hS dX0_addWell_162
                      · replace hc := ite_f c16 hc
                        refine lv_aload_n hx hb dX0_addWell_138 rfl (lv_at hl 1 rfl) ?_
                        refine va_get (ci := 0) (v := .ref (a 1)) (C := RX0) (T := TX0) (N := 10) hx hb hts inw_X0 hown hK.1 hP 0 rfl rfl 0 (by decide) fl_11 (fun _ h9 => h9) rfl dX0_addWell_139 ?_
                        refine lv_bipush (v := 12) hx hb dX0_addWell_142 (by decide +kernel) ?_
                        refine g_aald (v := a 18) hx hb hK hP 1 rfl (vp_lit (by decide)) rfl dX0_addWell_144 ?_
                        refine lv_iload_n hx hb dX0_addWell_145 rfl (lv_at hl 2 rfl) ?_
                        refine lv_dup2_11 hx hb dX0_addWell_146 rfl rfl ?_
                        obtain ⟨x18, hi18, hv18, hc⟩ := rd_some hc
                        refine g_iald (x := x18) hx hb hK hP 18 rfl hi18 hv18 dX0_addWell_147 ?_
                        refine lv_iconst (v := 1) hx hb dX0_addWell_148 (by decide) ?_
                        refine lv_iadd hx hb dX0_addWell_149 ?_
                        obtain ⟨V19, hi19, eV19, hc⟩ := wr_some hc
                        refine g_iast (w' := FW cy a V19) hx hb hK hP hD hS 18 rfl hi19 (by rw [← eV19]; rfl) dX0_addWell_150 (fun H locs hP hD hS => ?_)
                        refine lv_aload_n hx hb dX0_addWell_151 rfl (lv_at hl 1 rfl) ?_
                        refine lv_dup hx hb dX0_addWell_152 rfl ?_
                        refine va_get (ci := 0) (v := .int (V19 0 0)) (C := RX0) (T := TX0) (N := 10) hx hb hts inw_X0 hown hK.1 hP 0 rfl rfl 5 (by decide) fl_33 (fun _ h9 => h9) rfl dX0_addWell_153 ?_
                        refine lv_dup_x1 hx hb dX0_addWell_156 rfl rfl ?_
                        refine lv_iconst (v := 1) hx hb dX0_addWell_157 (by decide) ?_
                        refine lv_iadd hx hb dX0_addWell_158 ?_
                        obtain ⟨V20, eV20, hc⟩ := lt1_some hc
                        refine g_put (ci := 0) (C := RX0) (T := TX0) (N := 10) (w' := FW cy a V20) hx hb hts inw_X0 tyX0 tyX0_ok nmX0 hown hK hP hD hS 0 rfl rfl 5 (by decide) fl_33 (fun _ h9 => h9) rfl (by decide +kernel) (Nat.le_of_ble_eq_true rfl) (by rw [← eV20]; rfl) dX0_addWell_159 (fun H locs hP hD hS => ?_)
                        exact hend H locs _ _ _ _ (some_fst hc) (some_snd hc) rfl hP hD hS dX0_addWell_162
                    · replace hc := ite_f c10 hc
                      refine lv_bipush (v := (-3)) hx hb dX0_addWell_78 (by decide +kernel) ?_
                      exact hend H locs _ _ _ _ (some_fst hc) (some_snd hc) rfl hP hD hS dX0_addWell_80
                  · replace hc := ite_f c9 hc
                    refine lv_iconst (v := (-1)) hx hb dX0_addWell_67 (by decide) ?_
                    exact hend H locs _ _ _ _ (some_fst hc) (some_snd hc) rfl hP hD hS dX0_addWell_68
    · replace hc := ite_t c1 hc
      refine lv_iload_n hx hb dX0_addWell_7 rfl (lv_at hl 1 rfl) ?_
      refine lv_iconst (v := (-1)) hx hb dX0_addWell_8 (by decide) ?_
      refine lv_icmp_ne (tgt := 16) hx hb dX0_addWell_9 (by decide) (fun c21 => ?_) (fun c21 => ?_)
      · replace hc := ite_f c21 hc
        refine lv_iconst (v := 0) hx hb dX0_addWell_16 (by decide) ?_
        refine lv_goto (tgt := 25) hx hb dX0_addWell_17 (by decide) ?_
        refine lv_istore (lv' := [(5, .int 0), (0, .ref (a 0)), (1, .int p1), (2, .int p2), (3, .int p3), (4, .int p4)]) hx hb dX0_addWell_25 hl (by decide) rfl (fun ls hl => ?_)
        refine lv_iload hx hb dX0_addWell_27 (lv_at hl 0 rfl) ?_
        refine lv_if_eq (tgt := 67) hx hb dX0_addWell_29 (by decide) (fun _ => ?_) (fun c9 => absurd c9 (by decide))
        refine lv_iconst (v := (-1)) hx hb dX0_addWell_67 (by decide) ?_
        exact hend H locs _ _ _ _ (some_fst hc) (some_snd hc) rfl hP hD hS dX0_addWell_68
      · replace hc := ite_t c21 hc
        refine lv_iconst (v := 1) hx hb dX0_addWell_12 (by decide) ?_
        refine lv_goto (tgt := 25) hx hb dX0_addWell_13 (by decide) ?_
        refine lv_istore (lv' := [(5, .int 1), (0, .ref (a 0)), (1, .int p1), (2, .int p2), (3, .int p3), (4, .int p4)]) hx hb dX0_addWell_25 hl (by decide) rfl (fun ls hl => ?_)
        refine lv_iload hx hb dX0_addWell_27 (lv_at hl 0 rfl) ?_
        refine lv_if_eq (tgt := 67) hx hb dX0_addWell_29 (by decide) (fun c9 => absurd c9 (by decide)) (fun _ => ?_)
        refine lv_iload_n hx hb dX0_addWell_32 rfl (lv_at hl 3 rfl) ?_
        refine lv_iconst (v := 1) hx hb dX0_addWell_33 (by decide) ?_
        refine lv_icmp_lt (tgt := 67) hx hb dX0_addWell_34 (by decide) (fun c22 => ?_) (fun c22 => ?_)
        · replace hc := ite_t c22 hc
          refine lv_iconst (v := (-1)) hx hb dX0_addWell_67 (by decide) ?_
          exact hend H locs _ _ _ _ (some_fst hc) (some_snd hc) rfl hP hD hS dX0_addWell_68
        · replace hc := ite_f c22 hc
          refine lv_iload_n hx hb dX0_addWell_37 rfl (lv_at hl 3 rfl) ?_
          refine lv_sipush (v := 1000) hx hb dX0_addWell_38 (by decide +kernel) ?_
          refine lv_icmp_gt (tgt := 67) hx hb dX0_addWell_41 (by decide) (fun c23 => ?_) (fun c23 => ?_)
          · replace hc := ite_t c23 hc
            refine lv_iconst (v := (-1)) hx hb dX0_addWell_67 (by decide) ?_
            exact hend H locs _ _ _ _ (some_fst hc) (some_snd hc) rfl hP hD hS dX0_addWell_68
          · replace hc := ite_f c23 hc
            refine lv_iload_n hx hb dX0_addWell_44 rfl (lv_at hl 4 rfl) ?_
            refine lv_if_lt (tgt := 67) hx hb dX0_addWell_45 (by decide) (fun c24 => ?_) (fun c24 => ?_)
            · replace hc := ite_t c24 hc
              refine lv_iconst (v := (-1)) hx hb dX0_addWell_67 (by decide) ?_
              exact hend H locs _ _ _ _ (some_fst hc) (some_snd hc) rfl hP hD hS dX0_addWell_68
            · replace hc := ite_f c24 hc
              refine lv_iload_n hx hb dX0_addWell_48 rfl (lv_at hl 4 rfl) ?_
              refine lv_bipush (v := 100) hx hb dX0_addWell_49 (by decide +kernel) ?_
              refine lv_icmp_gt (tgt := 67) hx hb dX0_addWell_51 (by decide) (fun c25 => ?_) (fun c25 => ?_)
              · replace hc := ite_t c25 hc
                refine lv_iconst (v := (-1)) hx hb dX0_addWell_67 (by decide) ?_
                exact hend H locs _ _ _ _ (some_fst hc) (some_snd hc) rfl hP hD hS dX0_addWell_68
              · replace hc := ite_f c25 hc
                refine lv_iload hx hb dX0_addWell_54 (lv_at hl 5 rfl) ?_
                refine lv_if_lt (tgt := 67) hx hb dX0_addWell_56 (by decide) (fun c26 => ?_) (fun c26 => ?_)
                · replace hc := ite_t c26 hc
                  refine lv_iconst (v := (-1)) hx hb dX0_addWell_67 (by decide) ?_
                  exact hend H locs _ _ _ _ (some_fst hc) (some_snd hc) rfl hP hD hS dX0_addWell_68
                · replace hc := ite_f c26 hc
                  refine lv_iload hx hb dX0_addWell_59 (lv_at hl 5 rfl) ?_
                  refine lv_sipush (v := 1000) hx hb dX0_addWell_61 (by decide +kernel) ?_
                  refine lv_icmp_le (tgt := 69) hx hb dX0_addWell_64 (by decide) (fun c27 => ?_) (fun c27 => ?_)
                  · replace hc := ite_t c27 hc
                    refine lv_aload_n hx hb dX0_addWell_69 rfl (lv_at hl 1 rfl) ?_
                    refine va_get (ci := 0) (v := .int (V 0 0)) (C := RX0) (T := TX0) (N := 10) hx hb hts inw_X0 hown hK.1 hP 0 rfl rfl 5 (by decide) fl_33 (fun _ h9 => h9) rfl dX0_addWell_70 ?_
                    refine lv_bipush (v := 12) hx hb dX0_addWell_73 (by decide +kernel) ?_
                    refine lv_icmp_lt (tgt := 81) hx hb dX0_addWell_75 (by decide) (fun c28 => ?_) (fun c28 => ?_)
                    · replace hc := ite_t c28 hc
                      refine lv_aload_n hx hb dX0_addWell_81 rfl (lv_at hl 1 rfl) ?_
                      refine va_get (ci := 0) (v := .ref (a 1)) (C := RX0) (T := TX0) (N := 10) hx hb hts inw_X0 hown hK.1 hP 0 rfl rfl 0 (by decide) fl_11 (fun _ h9 => h9) rfl dX0_addWell_82 ?_
                      refine lv_iconst (v := 0) hx hb dX0_addWell_85 (by decide) ?_
                      refine g_aald (v := a 6) hx hb hK hP 1 rfl (vp_lit (by decide)) rfl dX0_addWell_86 ?_
                      refine lv_aload_n hx hb dX0_addWell_87 rfl (lv_at hl 1 rfl) ?_
                      refine va_get (ci := 0) (v := .int (V 0 0)) (C := RX0) (T := TX0) (N := 10) hx hb hts inw_X0 hown hK.1 hP 0 rfl rfl 5 (by decide) fl_33 (fun _ h9 => h9) rfl dX0_addWell_88 ?_
                      refine lv_iload_n hx hb dX0_addWell_91 rfl (lv_at hl 2 rfl) ?_
                      obtain ⟨V29, hi29, eV29, hc⟩ := wr_some hc
                      refine g_iast (w' := FW cy a V29) hx hb hK hP hD hS 6 rfl hi29 (by rw [← eV29]; rfl) dX0_addWell_92 (fun H locs hP hD hS => ?_)
                      refine lv_aload_n hx hb dX0_addWell_93 rfl (lv_at hl 1 rfl) ?_
                      refine va_get (ci := 0) (v := .ref (a 1)) (C := RX0) (T := TX0) (N := 10) hx hb hts inw_X0 hown hK.1 hP 0 rfl rfl 0 (by decide) fl_11 (fun _ h9 => h9) rfl dX0_addWell_94 ?_
                      refine lv_iconst (v := 1) hx hb dX0_addWell_97 (by decide) ?_
                      refine g_aald (v := a 7) hx hb hK hP 1 rfl (vp_lit (by decide)) rfl dX0_addWell_98 ?_
                      refine lv_aload_n hx hb dX0_addWell_99 rfl (lv_at hl 1 rfl) ?_
                      refine va_get (ci := 0) (v := .int (V29 0 0)) (C := RX0) (T := TX0) (N := 10) hx hb hts inw_X0 hown hK.1 hP 0 rfl rfl 5 (by decide) fl_33 (fun _ h9 => h9) rfl dX0_addWell_100 ?_
                      refine lv_iload_n hx hb dX0_addWell_103 rfl (lv_at hl 3 rfl) ?_
                      obtain ⟨V30, hi30, eV30, hc⟩ := wr_some hc
                      refine g_iast (w' := FW cy a V30) hx hb hK hP hD hS 7 rfl hi30 (by rw [← eV30]; rfl) dX0_addWell_104 (fun H locs hP hD hS => ?_)
                      refine lv_aload_n hx hb dX0_addWell_105 rfl (lv_at hl 1 rfl) ?_
                      refine va_get (ci := 0) (v := .ref (a 1)) (C := RX0) (T := TX0) (N := 10) hx hb hts inw_X0 hown hK.1 hP 0 rfl rfl 0 (by decide) fl_11 (fun _ h9 => h9) rfl dX0_addWell_106 ?_
                      refine lv_iconst (v := 2) hx hb dX0_addWell_109 (by decide) ?_
                      refine g_aald (v := a 8) hx hb hK hP 1 rfl (vp_lit (by decide)) rfl dX0_addWell_110 ?_
                      refine lv_aload_n hx hb dX0_addWell_111 rfl (lv_at hl 1 rfl) ?_
                      refine va_get (ci := 0) (v := .int (V30 0 0)) (C := RX0) (T := TX0) (N := 10) hx hb hts inw_X0 hown hK.1 hP 0 rfl rfl 5 (by decide) fl_33 (fun _ h9 => h9) rfl dX0_addWell_112 ?_
                      refine lv_iload_n hx hb dX0_addWell_115 rfl (lv_at hl 4 rfl) ?_
                      obtain ⟨V31, hi31, eV31, hc⟩ := wr_some hc
                      refine g_iast (w' := FW cy a V31) hx hb hK hP hD hS 8 rfl hi31 (by rw [← eV31]; rfl) dX0_addWell_116 (fun H locs hP hD hS => ?_)
                      refine lv_aload_n hx hb dX0_addWell_117 rfl (lv_at hl 1 rfl) ?_
                      refine va_get (ci := 0) (v := .ref (a 1)) (C := RX0) (T := TX0) (N := 10) hx hb hts inw_X0 hown hK.1 hP 0 rfl rfl 0 (by decide) fl_11 (fun _ h9 => h9) rfl dX0_addWell_118 ?_
                      refine lv_iconst (v := 3) hx hb dX0_addWell_121 (by decide) ?_
                      refine g_aald (v := a 9) hx hb hK hP 1 rfl (vp_lit (by decide)) rfl dX0_addWell_122 ?_
                      refine lv_aload_n hx hb dX0_addWell_123 rfl (lv_at hl 1 rfl) ?_
                      refine va_get (ci := 0) (v := .int (V31 0 0)) (C := RX0) (T := TX0) (N := 10) hx hb hts inw_X0 hown hK.1 hP 0 rfl rfl 5 (by decide) fl_33 (fun _ h9 => h9) rfl dX0_addWell_124 ?_
                      refine lv_iload hx hb dX0_addWell_127 (lv_at hl 5 rfl) ?_
                      obtain ⟨V32, hi32, eV32, hc⟩ := wr_some hc
                      refine g_iast (w' := FW cy a V32) hx hb hK hP hD hS 9 rfl hi32 (by rw [← eV32]; rfl) dX0_addWell_129 (fun H locs hP hD hS => ?_)
                      refine lv_aload_n hx hb dX0_addWell_130 rfl (lv_at hl 1 rfl) ?_
                      refine lv_iload_n hx hb dX0_addWell_131 rfl (lv_at hl 2 rfl) ?_
                      obtain ⟨x33, hc33, hc⟩ := b1_some hc
                      refine gc_VI (n := 1) (ci := 0) (w' := FW cy a V32) hx hb hml hown hts hK hP hD hS hA hl.1 ⟨Nat.le_refl _, Nat.le_refl _⟩ (C_X0_isWell l D cy a V32 p1 x33 hc33) gX0_addWell_X0_isWell rfl (by decide +kernel) rfl ⟨by decide, by decide⟩ Jn.same rfl rfl rfl (Nat.le_of_ble_eq_true rfl) dX0_addWell_132 (fun H locs hP hD hS => ?_)
                      refine lv_if_eq (tgt := 151) hx hb dX0_addWell_135 (by decide) (fun c34 => ?_) (fun c34 => ?_)
                      · replace hc := ite_t c34 hc
                        refine lv_aload_n hx hb dX0_addWell_151 rfl (lv_at hl 1 rfl) ?_
                        refine lv_dup hx hb dX0_addWell_152 rfl ?_
                        refine va_get (ci := 0) (v := .int (V32 0 0)) (C := RX0) (T := TX0) (N := 10) hx hb hts inw_X0 hown hK.1 hP 0 rfl rfl 5 (by decide) fl_33 (fun _ h9 => h9) rfl dX0_addWell_153 ?_
                        refine lv_dup_x1 hx hb dX0_addWell_156 rfl rfl ?_
                        refine lv_iconst (v := 1) hx hb dX0_addWell_157 (by decide) ?_
                        refine lv_iadd hx hb dX0_addWell_158 ?_
                        obtain ⟨V35, eV35, hc⟩ := lt1_some hc
                        refine g_put (ci := 0) (C := RX0) (T := TX0) (N := 10) (w' := FW cy a V35) hx hb hts inw_X0 tyX0 tyX0_ok nmX0 hown hK hP hD hS 0 rfl rfl 5 (by decide) fl_33 (fun _ h9 => h9) rfl (by decide +kernel) (Nat.le_of_ble_eq_true rfl) (by rw [← eV35]; rfl) dX0_addWell_159 (fun H locs hP hD hS => ?_)
                        exact hend H locs _ _ _ _ (some_fst hc) (some_snd hc) rfl hP hD hS dX0_addWell_162
                      · replace hc := ite_f c34 hc
                        refine lv_aload_n hx hb dX0_addWell_138 rfl (lv_at hl 1 rfl) ?_
                        refine va_get (ci := 0) (v := .ref (a 1)) (C := RX0) (T := TX0) (N := 10) hx hb hts inw_X0 hown hK.1 hP 0 rfl rfl 0 (by decide) fl_11 (fun _ h9 => h9) rfl dX0_addWell_139 ?_
                        refine lv_bipush (v := 12) hx hb dX0_addWell_142 (by decide +kernel) ?_
                        refine g_aald (v := a 18) hx hb hK hP 1 rfl (vp_lit (by decide)) rfl dX0_addWell_144 ?_
                        refine lv_iload_n hx hb dX0_addWell_145 rfl (lv_at hl 2 rfl) ?_
                        refine lv_dup2_11 hx hb dX0_addWell_146 rfl rfl ?_
                        obtain ⟨x36, hi36, hv36, hc⟩ := rd_some hc
                        refine g_iald (x := x36) hx hb hK hP 18 rfl hi36 hv36 dX0_addWell_147 ?_
                        refine lv_iconst (v := 1) hx hb dX0_addWell_148 (by decide) ?_
                        refine lv_iadd hx hb dX0_addWell_149 ?_
                        obtain ⟨V37, hi37, eV37, hc⟩ := wr_some hc
                        refine g_iast (w' := FW cy a V37) hx hb hK hP hD hS 18 rfl hi37 (by rw [← eV37]; rfl) dX0_addWell_150 (fun H locs hP hD hS => ?_)
                        refine lv_aload_n hx hb dX0_addWell_151 rfl (lv_at hl 1 rfl) ?_
                        refine lv_dup hx hb dX0_addWell_152 rfl ?_
                        refine va_get (ci := 0) (v := .int (V37 0 0)) (C := RX0) (T := TX0) (N := 10) hx hb hts inw_X0 hown hK.1 hP 0 rfl rfl 5 (by decide) fl_33 (fun _ h9 => h9) rfl dX0_addWell_153 ?_
                        refine lv_dup_x1 hx hb dX0_addWell_156 rfl rfl ?_
                        refine lv_iconst (v := 1) hx hb dX0_addWell_157 (by decide) ?_
                        refine lv_iadd hx hb dX0_addWell_158 ?_
                        obtain ⟨V38, eV38, hc⟩ := lt1_some hc
                        refine g_put (ci := 0) (C := RX0) (T := TX0) (N := 10) (w' := FW cy a V38) hx hb hts inw_X0 tyX0 tyX0_ok nmX0 hown hK hP hD hS 0 rfl rfl 5 (by decide) fl_33 (fun _ h9 => h9) rfl (by decide +kernel) (Nat.le_of_ble_eq_true rfl) (by rw [← eV38]; rfl) dX0_addWell_159 (fun H locs hP hD hS => ?_)
                        exact hend H locs _ _ _ _ (some_fst hc) (some_snd hc) rfl hP hD hS dX0_addWell_162
                    · replace hc := ite_f c28 hc
                      refine lv_bipush (v := (-3)) hx hb dX0_addWell_78 (by decide +kernel) ?_
                      exact hend H locs _ _ _ _ (some_fst hc) (some_snd hc) rfl hP hD hS dX0_addWell_80
                  · replace hc := ite_f c27 hc
                    refine lv_iconst (v := (-1)) hx hb dX0_addWell_67 (by decide) ?_
                    exact hend H locs _ _ _ _ (some_fst hc) (some_snd hc) rfl hP hD hS dX0_addWell_68
  rw [hHe, hLe] at goal0
  exact goal0
set_option maxHeartbeats 4000000 in
set_option maxRecDepth 100000 in
theorem C_X0_addDrought (l : Launch) (D : va_G) (cy : Nat → ClassId) (a : Nat → Nat) (V : FV) (p1 : Int32) (p2 : Int32) (p3 : Int32) (r : Int32) (V' : FV) (hc : f_X0_addDrought V p1 p2 p3 = some (r, V')) : ConI l yX0_addDrought wsX0_addDrought 1 21 D cy (FW cy a) [.ref (a 0), .int p1, .int p2, .int p3] V V' r := by
  refine bodyI (cc := cX0_addDrought) (maxL := 4) (ty := .int) (by decide +kernel) rfl (Nat.le_of_ble_eq_true rfl) ?_
  intro p e s m args below meth c A Q hx hb hml hts hown hK hP hD hA hS hend ls hl
  have hown : s.vm.findClass RX0 = some m.cls := hown
  have hP : va_P D vwCl (FW cy a V) s.heap := hP
  have hD : va_D A (FW cy a V) := hD
  have hl : lv_has ls 4 [(0, .ref (a 0)), (1, .int p1), (2, .int p2), (3, .int p3)] := hl
  have hend : ∀ (H : Heap) (locs : List Loc) (pc : Nat) (ls : Array Slot) (v : Int32) (V : FV), v = r → V = V' → narrow .int (.int v) = .int v → va_P D vwCl (FW cy a V) H → va_D A (FW cy a V) → va_S A s.heap H locs → decode cX0_addDrought pc = .ok (.ireturn, 1) → W p l e (RM 1 21) s m args below meth c H locs 0 0 Q (F0 m pc ls [.int v]) := fun H locs pc ls v V h1 h2 h3 h4 h5 h6 h7 => hend H locs pc ls v V h1 h2 h3 h4 h5 h6 h7
  have fl_43 := hts (.fieldLink RX0 43 "NoonWells$Field" "time" "I") (by decide +kernel)
  have inw_X0 := (by decide +kernel : ∀ w ∈ u_ws RX0 TX0 10, w ∈ wsX0_addDrought)
  have fl_37 := hts (.fieldLink RX0 37 "NoonWells$Field" "droughtCount" "I") (by decide +kernel)
  have fl_16 := hts (.fieldLink RX0 16 "NoonWells$Field" "droughts" "[[I") (by decide +kernel)
  obtain ⟨H, hHe⟩ : ∃ H : Heap, H = s.heap := ⟨_, rfl⟩
  obtain ⟨locs, hLe⟩ : ∃ x : List Loc, x = [] := ⟨_, rfl⟩
  have hP : va_P D vwCl (FW cy a V) H := by rw [hHe]; exact hP
  have hS : va_S A s.heap H locs := by rw [hHe, hLe]; exact hS
  have goal0 : W p l e (RM 1 21) s m args below meth c H locs 0 0 Q (F0 m 0 ls []) := by
    refine lv_aload_n hx hb dX0_addDrought_0 rfl (lv_at hl 0 rfl) ?_
    refine lv_iload_n hx hb dX0_addDrought_1 rfl (lv_at hl 1 rfl) ?_
    obtain ⟨x1, hc1, hc⟩ := b1_some hc
    refine gc_VI (n := 1) (ci := 0) (w' := FW cy a V) hx hb hml hown hts hK hP hD hS hA hl.1 ⟨Nat.le_refl _, Nat.le_refl _⟩ (C_X0_isWell l D cy a V p1 x1 hc1) gX0_addDrought_X0_isWell rfl (by decide +kernel) rfl ⟨by decide, by decide⟩ Jn.same rfl rfl rfl (Nat.le_of_ble_eq_true rfl) dX0_addDrought_2 (fun H locs hP hD hS => ?_)
    refine lv_if_eq (tgt := 33) hx hb dX0_addDrought_5 (by decide) (fun c2 => ?_) (fun c2 => ?_)
    · replace hc := ite_t c2 hc
      refine lv_iconst (v := (-1)) hx hb dX0_addDrought_33 (by decide) ?_
      exact hend H locs _ _ _ _ (some_fst hc) (some_snd hc) rfl hP hD hS dX0_addDrought_34
    · replace hc := ite_f c2 hc
      refine lv_iload_n hx hb dX0_addDrought_8 rfl (lv_at hl 2 rfl) ?_
      refine lv_aload_n hx hb dX0_addDrought_9 rfl (lv_at hl 0 rfl) ?_
      refine va_get (ci := 0) (v := .int (V 0 3)) (C := RX0) (T := TX0) (N := 10) hx hb hts inw_X0 hown hK.1 hP 0 rfl rfl 8 (by decide) fl_43 (fun _ h9 => h9) rfl dX0_addDrought_10 ?_
      refine lv_icmp_le (tgt := 33) hx hb dX0_addDrought_13 (by decide) (fun c3 => ?_) (fun c3 => ?_)
      · replace hc := ite_t c3 hc
        refine lv_iconst (v := (-1)) hx hb dX0_addDrought_33 (by decide) ?_
        exact hend H locs _ _ _ _ (some_fst hc) (some_snd hc) rfl hP hD hS dX0_addDrought_34
      · replace hc := ite_f c3 hc
        refine lv_iload_n hx hb dX0_addDrought_16 rfl (lv_at hl 2 rfl) ?_
        refine lv_ldc (v := 60000) hx hb hown (hts (.constant RX0 65 60000) (by decide +kernel)) dX0_addDrought_17 ?_
        refine lv_icmp_gt (tgt := 33) hx hb dX0_addDrought_19 (by decide) (fun c4 => ?_) (fun c4 => ?_)
        · replace hc := ite_t c4 hc
          refine lv_iconst (v := (-1)) hx hb dX0_addDrought_33 (by decide) ?_
          exact hend H locs _ _ _ _ (some_fst hc) (some_snd hc) rfl hP hD hS dX0_addDrought_34
        · replace hc := ite_f c4 hc
          refine lv_iload_n hx hb dX0_addDrought_22 rfl (lv_at hl 3 rfl) ?_
          refine lv_iload_n hx hb dX0_addDrought_23 rfl (lv_at hl 2 rfl) ?_
          refine lv_icmp_lt (tgt := 33) hx hb dX0_addDrought_24 (by decide) (fun c5 => ?_) (fun c5 => ?_)
          · replace hc := ite_t c5 hc
            refine lv_iconst (v := (-1)) hx hb dX0_addDrought_33 (by decide) ?_
            exact hend H locs _ _ _ _ (some_fst hc) (some_snd hc) rfl hP hD hS dX0_addDrought_34
          · replace hc := ite_f c5 hc
            refine lv_iload_n hx hb dX0_addDrought_27 rfl (lv_at hl 3 rfl) ?_
            refine lv_ldc (v := 60000) hx hb hown (hts (.constant RX0 65 60000) (by decide +kernel)) dX0_addDrought_28 ?_
            refine lv_icmp_le (tgt := 35) hx hb dX0_addDrought_30 (by decide) (fun c6 => ?_) (fun c6 => ?_)
            · replace hc := ite_t c6 hc
              refine lv_aload_n hx hb dX0_addDrought_35 rfl (lv_at hl 0 rfl) ?_
              refine va_get (ci := 0) (v := .int (V 0 1)) (C := RX0) (T := TX0) (N := 10) hx hb hts inw_X0 hown hK.1 hP 0 rfl rfl 6 (by decide) fl_37 (fun _ h9 => h9) rfl dX0_addDrought_36 ?_
              refine lv_bipush (v := 20) hx hb dX0_addDrought_39 (by decide +kernel) ?_
              refine lv_icmp_lt (tgt := 47) hx hb dX0_addDrought_41 (by decide) (fun c7 => ?_) (fun c7 => ?_)
              · replace hc := ite_t c7 hc
                refine lv_aload_n hx hb dX0_addDrought_47 rfl (lv_at hl 0 rfl) ?_
                refine va_get (ci := 0) (v := .ref (a 2)) (C := RX0) (T := TX0) (N := 10) hx hb hts inw_X0 hown hK.1 hP 0 rfl rfl 1 (by decide) fl_16 (fun _ h9 => h9) rfl dX0_addDrought_48 ?_
                refine lv_iconst (v := 0) hx hb dX0_addDrought_51 (by decide) ?_
                refine g_aald (v := a 19) hx hb hK hP 2 rfl (vp_lit (by decide)) rfl dX0_addDrought_52 ?_
                refine lv_aload_n hx hb dX0_addDrought_53 rfl (lv_at hl 0 rfl) ?_
                refine va_get (ci := 0) (v := .int (V 0 1)) (C := RX0) (T := TX0) (N := 10) hx hb hts inw_X0 hown hK.1 hP 0 rfl rfl 6 (by decide) fl_37 (fun _ h9 => h9) rfl dX0_addDrought_54 ?_
                refine lv_iload_n hx hb dX0_addDrought_57 rfl (lv_at hl 1 rfl) ?_
                obtain ⟨V8, hi8, eV8, hc⟩ := wr_some hc
                refine g_iast (w' := FW cy a V8) hx hb hK hP hD hS 19 rfl hi8 (by rw [← eV8]; rfl) dX0_addDrought_58 (fun H locs hP hD hS => ?_)
                refine lv_aload_n hx hb dX0_addDrought_59 rfl (lv_at hl 0 rfl) ?_
                refine va_get (ci := 0) (v := .ref (a 2)) (C := RX0) (T := TX0) (N := 10) hx hb hts inw_X0 hown hK.1 hP 0 rfl rfl 1 (by decide) fl_16 (fun _ h9 => h9) rfl dX0_addDrought_60 ?_
                refine lv_iconst (v := 1) hx hb dX0_addDrought_63 (by decide) ?_
                refine g_aald (v := a 20) hx hb hK hP 2 rfl (vp_lit (by decide)) rfl dX0_addDrought_64 ?_
                refine lv_aload_n hx hb dX0_addDrought_65 rfl (lv_at hl 0 rfl) ?_
                refine va_get (ci := 0) (v := .int (V8 0 1)) (C := RX0) (T := TX0) (N := 10) hx hb hts inw_X0 hown hK.1 hP 0 rfl rfl 6 (by decide) fl_37 (fun _ h9 => h9) rfl dX0_addDrought_66 ?_
                refine lv_iload_n hx hb dX0_addDrought_69 rfl (lv_at hl 2 rfl) ?_
                obtain ⟨V9, hi9, eV9, hc⟩ := wr_some hc
                refine g_iast (w' := FW cy a V9) hx hb hK hP hD hS 20 rfl hi9 (by rw [← eV9]; rfl) dX0_addDrought_70 (fun H locs hP hD hS => ?_)
                refine lv_aload_n hx hb dX0_addDrought_71 rfl (lv_at hl 0 rfl) ?_
                refine va_get (ci := 0) (v := .ref (a 2)) (C := RX0) (T := TX0) (N := 10) hx hb hts inw_X0 hown hK.1 hP 0 rfl rfl 1 (by decide) fl_16 (fun _ h9 => h9) rfl dX0_addDrought_72 ?_
                refine lv_iconst (v := 2) hx hb dX0_addDrought_75 (by decide) ?_
                refine g_aald (v := a 21) hx hb hK hP 2 rfl (vp_lit (by decide)) rfl dX0_addDrought_76 ?_
                refine lv_aload_n hx hb dX0_addDrought_77 rfl (lv_at hl 0 rfl) ?_
                refine va_get (ci := 0) (v := .int (V9 0 1)) (C := RX0) (T := TX0) (N := 10) hx hb hts inw_X0 hown hK.1 hP 0 rfl rfl 6 (by decide) fl_37 (fun _ h9 => h9) rfl dX0_addDrought_78 ?_
                refine lv_iload_n hx hb dX0_addDrought_81 rfl (lv_at hl 3 rfl) ?_
                obtain ⟨V10, hi10, eV10, hc⟩ := wr_some hc
                refine g_iast (w' := FW cy a V10) hx hb hK hP hD hS 21 rfl hi10 (by rw [← eV10]; rfl) dX0_addDrought_82 (fun H locs hP hD hS => ?_)
                refine lv_aload_n hx hb dX0_addDrought_83 rfl (lv_at hl 0 rfl) ?_
                refine lv_dup hx hb dX0_addDrought_84 rfl ?_
                refine va_get (ci := 0) (v := .int (V10 0 1)) (C := RX0) (T := TX0) (N := 10) hx hb hts inw_X0 hown hK.1 hP 0 rfl rfl 6 (by decide) fl_37 (fun _ h9 => h9) rfl dX0_addDrought_85 ?_
                refine lv_dup_x1 hx hb dX0_addDrought_88 rfl rfl ?_
                refine lv_iconst (v := 1) hx hb dX0_addDrought_89 (by decide) ?_
                refine lv_iadd hx hb dX0_addDrought_90 ?_
                obtain ⟨V11, eV11, hc⟩ := lt1_some hc
                refine g_put (ci := 0) (C := RX0) (T := TX0) (N := 10) (w' := FW cy a V11) hx hb hts inw_X0 tyX0 tyX0_ok nmX0 hown hK hP hD hS 0 rfl rfl 6 (by decide) fl_37 (fun _ h9 => h9) rfl (by decide +kernel) (Nat.le_of_ble_eq_true rfl) (by rw [← eV11]; rfl) dX0_addDrought_91 (fun H locs hP hD hS => ?_)
                exact hend H locs _ _ _ _ (some_fst hc) (some_snd hc) rfl hP hD hS dX0_addDrought_94
              · replace hc := ite_f c7 hc
                refine lv_bipush (v := (-3)) hx hb dX0_addDrought_44 (by decide +kernel) ?_
                exact hend H locs _ _ _ _ (some_fst hc) (some_snd hc) rfl hP hD hS dX0_addDrought_46
            · replace hc := ite_f c6 hc
              refine lv_iconst (v := (-1)) hx hb dX0_addDrought_33 (by decide) ?_
              exact hend H locs _ _ _ _ (some_fst hc) (some_snd hc) rfl hP hD hS dX0_addDrought_34
  rw [hHe, hLe] at goal0
  exact goal0
set_option maxHeartbeats 4000000 in
set_option maxRecDepth 100000 in
theorem C_X0_shareOut (l : Launch) (D : va_G) (cy : Nat → ClassId) (a : Nat → Nat) (V : FV) (p1 : Int32) (p2 : Int32) (r : Int32) (V' : FV) (hc : f_X0_shareOut V p1 p2 = some (r, V')) : ConI l yX0_shareOut wsX0_shareOut 1 23 D cy (FW cy a) [.ref (a 0), .int p1, .int p2] V V' r := by
  refine bodyI (cc := cX0_shareOut) (maxL := 8) (ty := .int) (by decide +kernel) rfl (Nat.le_of_ble_eq_true rfl) ?_
  intro p e s m args below meth c A Q hx hb hml hts hown hK hP hD hA hS hend ls hl
  have hown : s.vm.findClass RX0 = some m.cls := hown
  have hP : va_P D vwCl (FW cy a V) s.heap := hP
  have hD : va_D A (FW cy a V) := hD
  have hl : lv_has ls 8 [(0, .ref (a 0)), (1, .int p1), (2, .int p2)] := hl
  have hend : ∀ (H : Heap) (locs : List Loc) (pc : Nat) (ls : Array Slot) (v : Int32) (V : FV), v = r → V = V' → narrow .int (.int v) = .int v → va_P D vwCl (FW cy a V) H → va_D A (FW cy a V) → va_S A s.heap H locs → decode cX0_shareOut pc = .ok (.ireturn, 1) → W p l e (RM 1 23) s m args below meth c H locs 0 0 Q (F0 m pc ls [.int v]) := fun H locs pc ls v V h1 h2 h3 h4 h5 h6 h7 => hend H locs pc ls v V h1 h2 h3 h4 h5 h6 h7
  have fl_26 := hts (.fieldLink RX0 26 "NoonWells$Field" "shares" "[I") (by decide +kernel)
  have inw_X0 := (by decide +kernel : ∀ w ∈ u_ws RX0 TX0 10, w ∈ wsX0_shareOut)
  have fl_11 := hts (.fieldLink RX0 11 "NoonWells$Field" "wells" "[[I") (by decide +kernel)
  have mm_l := hts (.methodLink RX0 49 Lib.Math.min.name) (by decide +kernel)
  have mm_s := hts (.static Lib.Math.min.name) (by decide +kernel)
  have mm_i := hts (.initialized "java/lang/Math") (by decide +kernel)
  have mm_c := hts (.code Lib.Math.min.name Lib.Math.min.code 2 (some .int)) (by decide +kernel)
  have L16 : ∀ (n : Nat), ∀ (y1 y2 y3 y4 y5 : Int32) (V : FV) (H : Heap) (locs : List Loc) (ls : Array Slot), f_X0_shareOut_L16 n y1 y2 y3 y4 y5 V = some (r, V') → va_P D vwCl (FW cy a V) H → va_D A (FW cy a V) → va_S A s.heap H locs → lv_has ls 8 [(0, .ref (a 0)), (1, .int y1), (2, .int y2), (3, .int y3), (4, .int y4), (5, .int y5)] → W p l e (RM 1 23) s m args below meth c H locs 0 0 Q (F0 m 16 ls []) := by
    intro n
    induction n with
    | zero =>
      intro y1 y2 y3 y4 y5 V H locs ls hc
      cases hc
    | succ n ih =>
      intro y1 y2 y3 y4 y5 V H locs ls hc hP hD hS hl
      refine lv_iload hx hb dX0_shareOut_16 (lv_at hl 5 rfl) ?_
      refine lv_bipush (v := 12) hx hb dX0_shareOut_18 (by decide +kernel) ?_
      refine lv_icmp_ge (tgt := 110) hx hb dX0_shareOut_20 (by decide) (fun c2 => ?_) (fun c2 => ?_)
      · replace hc := ite_t c2 hc
        refine lv_iload_n hx hb dX0_shareOut_110 rfl (lv_at hl 2 rfl) ?_
        refine lv_iload_n hx hb dX0_shareOut_111 rfl (lv_at hl 3 rfl) ?_
        refine lv_isub hx hb dX0_shareOut_112 ?_
        exact hend H locs _ _ _ _ (some_fst hc) (some_snd hc) rfl hP hD hS dX0_shareOut_113
      · replace hc := ite_f c2 hc
        refine lv_aload_n hx hb dX0_shareOut_23 rfl (lv_at hl 0 rfl) ?_
        refine lv_iload hx hb dX0_shareOut_24 (lv_at hl 4 rfl) ?_
        obtain ⟨x3, hc3, hc⟩ := b1_some hc
        refine gc_VI (n := 1) (ci := 0) (w' := FW cy a V) hx hb hml hown hts hK hP hD hS hA hl.1 ⟨Nat.le_refl _, Nat.le_refl _⟩ (C_X0_isWell l D cy a V y4 x3 hc3) gX0_shareOut_X0_isWell rfl (by decide +kernel) rfl ⟨by decide, by decide⟩ Jn.same rfl rfl rfl (Nat.le_of_ble_eq_true rfl) dX0_shareOut_26 (fun H locs hP hD hS => ?_)
        refine lv_if_eq (tgt := 110) hx hb dX0_shareOut_29 (by decide) (fun c4 => ?_) (fun c4 => ?_)
        · replace hc := ite_t c4 hc
          refine lv_iload_n hx hb dX0_shareOut_110 rfl (lv_at hl 2 rfl) ?_
          refine lv_iload_n hx hb dX0_shareOut_111 rfl (lv_at hl 3 rfl) ?_
          refine lv_isub hx hb dX0_shareOut_112 ?_
          exact hend H locs _ _ _ _ (some_fst hc) (some_snd hc) rfl hP hD hS dX0_shareOut_113
        · replace hc := ite_f c4 hc
          refine lv_aload_n hx hb dX0_shareOut_32 rfl (lv_at hl 0 rfl) ?_
          refine va_get (ci := 0) (v := .ref (a 1)) (C := RX0) (T := TX0) (N := 10) hx hb hts inw_X0 hown hK.1 hP 0 rfl rfl 0 (by decide) fl_11 (fun _ h9 => h9) rfl dX0_shareOut_33 ?_
          refine lv_iconst (v := 4) hx hb dX0_shareOut_36 (by decide) ?_
          refine g_aald (v := a 10) hx hb hK hP 1 rfl (vp_lit (by decide)) rfl dX0_shareOut_37 ?_
          refine lv_iload hx hb dX0_shareOut_38 (lv_at hl 4 rfl) ?_
          obtain ⟨x5, hi5, hv5, hc⟩ := rd_some hc
          refine g_iald (x := x5) hx hb hK hP 10 rfl hi5 hv5 dX0_shareOut_40 ?_
          refine lv_istore (lv' := [(6, .int x5), (0, .ref (a 0)), (1, .int y1), (2, .int y2), (3, .int y3), (4, .int y4), (5, .int y5)]) hx hb dX0_shareOut_41 hl (by decide) rfl (fun ls hl => ?_)
          refine lv_iload hx hb dX0_shareOut_43 (lv_at hl 5 rfl) ?_
          refine lv_iload_n hx hb dX0_shareOut_45 rfl (lv_at hl 2 rfl) ?_
          refine lv_icmp_ne (tgt := 54) hx hb dX0_shareOut_46 (by decide) (fun c6 => ?_) (fun c6 => ?_)
          · replace hc := ite_f c6 hc
            refine lv_iload hx hb dX0_shareOut_54 (lv_at hl 0 rfl) ?_
            refine lv_aload_n hx hb dX0_shareOut_56 rfl (lv_at hl 1 rfl) ?_
            refine va_get (ci := 0) (v := .ref (a 1)) (C := RX0) (T := TX0) (N := 10) hx hb hts inw_X0 hown hK.1 hP 0 rfl rfl 0 (by decide) fl_11 (fun _ h9 => h9) rfl dX0_shareOut_57 ?_
            refine lv_iconst (v := 3) hx hb dX0_shareOut_60 (by decide) ?_
            refine g_aald (v := a 9) hx hb hK hP 1 rfl (vp_lit (by decide)) rfl dX0_shareOut_61 ?_
            refine lv_iload hx hb dX0_shareOut_62 (lv_at hl 5 rfl) ?_
            obtain ⟨x7, hi7, hv7, hc⟩ := rd_some hc
            refine g_iald (x := x7) hx hb hK hP 9 rfl hi7 hv7 dX0_shareOut_64 ?_
            obtain ⟨x8, ex8, hc⟩ := lt1_some hc
            refine g_min ex8 hx hb hml hl.1 hown mm_l mm_s mm_i mm_c (Nat.le_of_ble_eq_true rfl) (Nat.le_of_ble_eq_true rfl) (Nat.le_refl _) (Nat.le_refl _) dX0_shareOut_65 ?_
            refine lv_istore (lv' := [(7, .int x8), (6, .int x5), (0, .ref (a 0)), (1, .int y1), (2, .int y2), (3, .int y3), (4, .int y4), (5, .int y5)]) hx hb dX0_shareOut_68 hl (by decide) rfl (fun ls hl => ?_)
            refine lv_aload_n hx hb dX0_shareOut_70 rfl (lv_at hl 2 rfl) ?_
            refine va_get (ci := 0) (v := .ref (a 5)) (C := RX0) (T := TX0) (N := 10) hx hb hts inw_X0 hown hK.1 hP 0 rfl rfl 4 (by decide) fl_26 (fun _ h9 => h9) rfl dX0_shareOut_71 ?_
            refine lv_iload hx hb dX0_shareOut_74 (lv_at hl 6 rfl) ?_
            refine lv_iload_n hx hb dX0_shareOut_76 rfl (lv_at hl 5 rfl) ?_
            refine lv_iload hx hb dX0_shareOut_77 (lv_at hl 0 rfl) ?_
            obtain ⟨x9, ex9, hc⟩ := lt1_some hc
            refine g_min ex9 hx hb hml hl.1 hown mm_l mm_s mm_i mm_c (Nat.le_of_ble_eq_true rfl) (Nat.le_of_ble_eq_true rfl) (Nat.le_refl _) (Nat.le_refl _) dX0_shareOut_79 ?_
            obtain ⟨V10, hi10, eV10, hc⟩ := wr_some hc
            refine g_iast (w' := FW cy a V10) hx hb hK hP hD hS 5 rfl hi10 (by rw [← eV10]; rfl) dX0_shareOut_82 (fun H locs hP hD hS => ?_)
            refine lv_iload_n hx hb dX0_shareOut_83 rfl (lv_at hl 5 rfl) ?_
            refine lv_aload_n hx hb dX0_shareOut_84 rfl (lv_at hl 2 rfl) ?_
            refine va_get (ci := 0) (v := .ref (a 5)) (C := RX0) (T := TX0) (N := 10) hx hb hts inw_X0 hown hK.1 hP 0 rfl rfl 4 (by decide) fl_26 (fun _ h9 => h9) rfl dX0_shareOut_85 ?_
            refine lv_iload hx hb dX0_shareOut_88 (lv_at hl 6 rfl) ?_
            obtain ⟨x11, hi11, hv11, hc⟩ := rd_some hc
            refine g_iald (x := x11) hx hb hK hP 5 rfl hi11 hv11 dX0_shareOut_90 ?_
            refine lv_isub hx hb dX0_shareOut_91 ?_
            refine lv_istore_n (lv' := [(3, .int (y3 - x11)), (7, .int x8), (6, .int x5), (0, .ref (a 0)), (1, .int y1), (2, .int y2), (4, .int y4), (5, .int y5)]) hx hb dX0_shareOut_92 rfl hl (by decide) rfl (fun ls hl => ?_)
            refine lv_aload_n hx hb dX0_shareOut_93 rfl (lv_at hl 3 rfl) ?_
            refine va_get (ci := 0) (v := .ref (a 1)) (C := RX0) (T := TX0) (N := 10) hx hb hts inw_X0 hown hK.1 hP 0 rfl rfl 0 (by decide) fl_11 (fun _ h9 => h9) rfl dX0_shareOut_94 ?_
            refine lv_iconst (v := 0) hx hb dX0_shareOut_97 (by decide) ?_
            refine g_aald (v := a 6) hx hb hK hP 1 rfl (vp_lit (by decide)) rfl dX0_shareOut_98 ?_
            refine lv_iload hx hb dX0_shareOut_99 (lv_at hl 6 rfl) ?_
            obtain ⟨x12, hi12, hv12, hc⟩ := rd_some hc
            refine g_iald (x := x12) hx hb hK hP 6 rfl hi12 hv12 dX0_shareOut_101 ?_
            refine lv_istore (lv' := [(4, .int x12), (3, .int (y3 - x11)), (7, .int x8), (6, .int x5), (0, .ref (a 0)), (1, .int y1), (2, .int y2), (5, .int y5)]) hx hb dX0_shareOut_102 hl (by decide) rfl (fun ls hl => ?_)
            refine lv_iinc (v := y5 + 1) (lv' := [(5, .int (y5 + 1)), (4, .int x12), (3, .int (y3 - x11)), (7, .int x8), (6, .int x5), (0, .ref (a 0)), (1, .int y1), (2, .int y2)]) hx hb dX0_shareOut_104 hl (k := 7) rfl rfl (by decide) rfl (fun ls hl => ?_)
            refine lv_goto (tgt := 16) hx hb dX0_shareOut_107 (by decide) ?_
            exact ih y1 y2 (y3 - x11) x12 (y5 + 1) V10 H locs ls hc hP hD hS (lv_sub hl [5, 6, 7, 2, 1, 0] rfl)
          · replace hc := ite_t c6 hc
            refine lv_iload hx hb dX0_shareOut_49 (lv_at hl 0 rfl) ?_
            refine lv_goto (tgt := 68) hx hb dX0_shareOut_51 (by decide) ?_
            refine lv_istore (lv' := [(7, .int x5), (6, .int x5), (0, .ref (a 0)), (1, .int y1), (2, .int y2), (3, .int y3), (4, .int y4), (5, .int y5)]) hx hb dX0_shareOut_68 hl (by decide) rfl (fun ls hl => ?_)
            refine lv_aload_n hx hb dX0_shareOut_70 rfl (lv_at hl 2 rfl) ?_
            refine va_get (ci := 0) (v := .ref (a 5)) (C := RX0) (T := TX0) (N := 10) hx hb hts inw_X0 hown hK.1 hP 0 rfl rfl 4 (by decide) fl_26 (fun _ h9 => h9) rfl dX0_shareOut_71 ?_
            refine lv_iload hx hb dX0_shareOut_74 (lv_at hl 6 rfl) ?_
            refine lv_iload_n hx hb dX0_shareOut_76 rfl (lv_at hl 5 rfl) ?_
            refine lv_iload hx hb dX0_shareOut_77 (lv_at hl 0 rfl) ?_
            obtain ⟨x13, ex13, hc⟩ := lt1_some hc
            refine g_min ex13 hx hb hml hl.1 hown mm_l mm_s mm_i mm_c (Nat.le_of_ble_eq_true rfl) (Nat.le_of_ble_eq_true rfl) (Nat.le_refl _) (Nat.le_refl _) dX0_shareOut_79 ?_
            obtain ⟨V14, hi14, eV14, hc⟩ := wr_some hc
            refine g_iast (w' := FW cy a V14) hx hb hK hP hD hS 5 rfl hi14 (by rw [← eV14]; rfl) dX0_shareOut_82 (fun H locs hP hD hS => ?_)
            refine lv_iload_n hx hb dX0_shareOut_83 rfl (lv_at hl 5 rfl) ?_
            refine lv_aload_n hx hb dX0_shareOut_84 rfl (lv_at hl 2 rfl) ?_
            refine va_get (ci := 0) (v := .ref (a 5)) (C := RX0) (T := TX0) (N := 10) hx hb hts inw_X0 hown hK.1 hP 0 rfl rfl 4 (by decide) fl_26 (fun _ h9 => h9) rfl dX0_shareOut_85 ?_
            refine lv_iload hx hb dX0_shareOut_88 (lv_at hl 6 rfl) ?_
            obtain ⟨x15, hi15, hv15, hc⟩ := rd_some hc
            refine g_iald (x := x15) hx hb hK hP 5 rfl hi15 hv15 dX0_shareOut_90 ?_
            refine lv_isub hx hb dX0_shareOut_91 ?_
            refine lv_istore_n (lv' := [(3, .int (y3 - x15)), (7, .int x5), (6, .int x5), (0, .ref (a 0)), (1, .int y1), (2, .int y2), (4, .int y4), (5, .int y5)]) hx hb dX0_shareOut_92 rfl hl (by decide) rfl (fun ls hl => ?_)
            refine lv_aload_n hx hb dX0_shareOut_93 rfl (lv_at hl 3 rfl) ?_
            refine va_get (ci := 0) (v := .ref (a 1)) (C := RX0) (T := TX0) (N := 10) hx hb hts inw_X0 hown hK.1 hP 0 rfl rfl 0 (by decide) fl_11 (fun _ h9 => h9) rfl dX0_shareOut_94 ?_
            refine lv_iconst (v := 0) hx hb dX0_shareOut_97 (by decide) ?_
            refine g_aald (v := a 6) hx hb hK hP 1 rfl (vp_lit (by decide)) rfl dX0_shareOut_98 ?_
            refine lv_iload hx hb dX0_shareOut_99 (lv_at hl 6 rfl) ?_
            obtain ⟨x16, hi16, hv16, hc⟩ := rd_some hc
            refine g_iald (x := x16) hx hb hK hP 6 rfl hi16 hv16 dX0_shareOut_101 ?_
            refine lv_istore (lv' := [(4, .int x16), (3, .int (y3 - x15)), (7, .int x5), (6, .int x5), (0, .ref (a 0)), (1, .int y1), (2, .int y2), (5, .int y5)]) hx hb dX0_shareOut_102 hl (by decide) rfl (fun ls hl => ?_)
            refine lv_iinc (v := y5 + 1) (lv' := [(5, .int (y5 + 1)), (4, .int x16), (3, .int (y3 - x15)), (7, .int x5), (6, .int x5), (0, .ref (a 0)), (1, .int y1), (2, .int y2)]) hx hb dX0_shareOut_104 hl (k := 7) rfl rfl (by decide) rfl (fun ls hl => ?_)
            refine lv_goto (tgt := 16) hx hb dX0_shareOut_107 (by decide) ?_
            exact ih y1 y2 (y3 - x15) x16 (y5 + 1) V14 H locs ls hc hP hD hS (lv_sub hl [5, 6, 7, 2, 1, 0] rfl)
  obtain ⟨H, hHe⟩ : ∃ H : Heap, H = s.heap := ⟨_, rfl⟩
  obtain ⟨locs, hLe⟩ : ∃ x : List Loc, x = [] := ⟨_, rfl⟩
  have hP : va_P D vwCl (FW cy a V) H := by rw [hHe]; exact hP
  have hS : va_S A s.heap H locs := by rw [hHe, hLe]; exact hS
  have goal0 : W p l e (RM 1 23) s m args below meth c H locs 0 0 Q (F0 m 0 ls []) := by
    refine lv_aload_n hx hb dX0_shareOut_0 rfl (lv_at hl 0 rfl) ?_
    refine va_get (ci := 0) (v := .ref (a 5)) (C := RX0) (T := TX0) (N := 10) hx hb hts inw_X0 hown hK.1 hP 0 rfl rfl 4 (by decide) fl_26 (fun _ h9 => h9) rfl dX0_shareOut_1 ?_
    refine lv_iconst (v := 0) hx hb dX0_shareOut_4 (by decide) ?_
    obtain ⟨V1, eV1, hc⟩ := lt1_some hc
    refine gc_SV (n := 2) (w' := FW cy a V1) hx hb hml hown hts hK hP hD hS hA hl.1 ⟨Nat.le_refl _, Nat.le_refl _⟩ (C_fill l D cy (a 5) 12 (V 5) 0 (by decide)) gX0_shareOut_J7_fill_53178 rfl (by decide +kernel) rfl ⟨by decide, by decide⟩ (by rw [← eV1]; exact J_fill) rfl (Nat.le_of_ble_eq_true rfl) dX0_shareOut_5 (fun H locs hP hD hS => ?_)
    refine lv_iload_n hx hb dX0_shareOut_8 rfl (lv_at hl 2 rfl) ?_
    refine lv_istore_n (lv' := [(3, .int p2), (0, .ref (a 0)), (1, .int p1), (2, .int p2)]) hx hb dX0_shareOut_9 rfl hl (by decide) rfl (fun ls hl => ?_)
    refine lv_iload_n hx hb dX0_shareOut_10 rfl (lv_at hl 2 rfl) ?_
    refine lv_istore (lv' := [(4, .int p1), (3, .int p2), (0, .ref (a 0)), (1, .int p1), (2, .int p2)]) hx hb dX0_shareOut_11 hl (by decide) rfl (fun ls hl => ?_)
    refine lv_iconst (v := 0) hx hb dX0_shareOut_13 (by decide) ?_
    refine lv_istore (lv' := [(5, .int 0), (4, .int p1), (3, .int p2), (0, .ref (a 0)), (1, .int p1), (2, .int p2)]) hx hb dX0_shareOut_14 hl (by decide) rfl (fun ls hl => ?_)
    exact L16 FUEL p1 p2 p2 p1 0 V1 H locs ls hc hP hD hS (lv_sub hl [3, 4, 5, 2, 1, 0] rfl)
  rw [hHe, hLe] at goal0
  exact goal0
end
section
set_option maxHeartbeats 4000000 in
set_option maxRecDepth 100000 in
theorem C_X0_pourShares (l : Launch) (D : va_G) (cy : Nat → ClassId) (a : Nat → Nat) (V : FV) (p1 : Int32) (r : Int32) (V' : FV) (hc : f_X0_pourShares V p1 = some (r, V')) : ConI l yX0_pourShares wsX0_pourShares 0 0 D cy (FW cy a) [.ref (a 0), .int p1] V V' r := by
  refine bodyI (cc := cX0_pourShares) (maxL := 5) (ty := .int) (by decide +kernel) rfl (Nat.le_of_ble_eq_true rfl) ?_
  intro p e s m args below meth c A Q hx hb hml hts hown hK hP hD hA hS hend ls hl
  have hown : s.vm.findClass RX0 = some m.cls := hown
  have hP : va_P D vwCl (FW cy a V) s.heap := hP
  have hD : va_D A (FW cy a V) := hD
  have hl : lv_has ls 5 [(0, .ref (a 0)), (1, .int p1)] := hl
  have hend : ∀ (H : Heap) (locs : List Loc) (pc : Nat) (ls : Array Slot) (v : Int32) (V : FV), v = r → V = V' → narrow .int (.int v) = .int v → va_P D vwCl (FW cy a V) H → va_D A (FW cy a V) → va_S A s.heap H locs → decode cX0_pourShares pc = .ok (.ireturn, 1) → W p l e (RM 0 0) s m args below meth c H locs 0 0 Q (F0 m pc ls [.int v]) := fun H locs pc ls v V h1 h2 h3 h4 h5 h6 h7 => hend H locs pc ls v V h1 h2 h3 h4 h5 h6 h7
  have fl_33 := hts (.fieldLink RX0 33 "NoonWells$Field" "wellCount" "I") (by decide +kernel)
  have inw_X0 := (by decide +kernel : ∀ w ∈ u_ws RX0 TX0 10, w ∈ wsX0_pourShares)
  have fl_26 := hts (.fieldLink RX0 26 "NoonWells$Field" "shares" "[I") (by decide +kernel)
  have fl_11 := hts (.fieldLink RX0 11 "NoonWells$Field" "wells" "[[I") (by decide +kernel)
  have L4 : ∀ (n : Nat), ∀ (y1 y2 y3 : Int32) (V : FV) (H : Heap) (locs : List Loc) (ls : Array Slot), f_X0_pourShares_L4 n y1 y2 y3 V = some (r, V') → va_P D vwCl (FW cy a V) H → va_D A (FW cy a V) → va_S A s.heap H locs → lv_has ls 5 [(0, .ref (a 0)), (1, .int y1), (2, .int y2), (3, .int y3)] → W p l e (RM 0 0) s m args below meth c H locs 0 0 Q (F0 m 4 ls []) := by
    intro n
    induction n with
    | zero =>
      intro y1 y2 y3 V H locs ls hc
      cases hc
    | succ n ih =>
      intro y1 y2 y3 V H locs ls hc hP hD hS hl
      refine lv_iload_n hx hb dX0_pourShares_4 rfl (lv_at hl 3 rfl) ?_
      refine lv_aload_n hx hb dX0_pourShares_5 rfl (lv_at hl 0 rfl) ?_
      refine va_get (ci := 0) (v := .int (V 0 0)) (C := RX0) (T := TX0) (N := 10) hx hb hts inw_X0 hown hK.1 hP 0 rfl rfl 5 (by decide) fl_33 (fun _ h9 => h9) rfl dX0_pourShares_6 ?_
      refine lv_icmp_ge (tgt := 80) hx hb dX0_pourShares_9 (by decide) (fun c1 => ?_) (fun c1 => ?_)
      · replace hc := ite_t c1 hc
        refine lv_iload_n hx hb dX0_pourShares_80 rfl (lv_at hl 2 rfl) ?_
        exact hend H locs _ _ _ _ (some_fst hc) (some_snd hc) rfl hP hD hS dX0_pourShares_81
      · replace hc := ite_f c1 hc
        refine lv_aload_n hx hb dX0_pourShares_12 rfl (lv_at hl 0 rfl) ?_
        refine va_get (ci := 0) (v := .ref (a 5)) (C := RX0) (T := TX0) (N := 10) hx hb hts inw_X0 hown hK.1 hP 0 rfl rfl 4 (by decide) fl_26 (fun _ h9 => h9) rfl dX0_pourShares_13 ?_
        refine lv_iload_n hx hb dX0_pourShares_16 rfl (lv_at hl 3 rfl) ?_
        obtain ⟨x2, hi2, hv2, hc⟩ := rd_some hc
        refine g_iald (x := x2) hx hb hK hP 5 rfl hi2 hv2 dX0_pourShares_17 ?_
        refine lv_istore (lv' := [(4, .int x2), (0, .ref (a 0)), (1, .int y1), (2, .int y2), (3, .int y3)]) hx hb dX0_pourShares_18 hl (by decide) rfl (fun ls hl => ?_)
        refine lv_aload_n hx hb dX0_pourShares_20 rfl (lv_at hl 1 rfl) ?_
        refine va_get (ci := 0) (v := .ref (a 1)) (C := RX0) (T := TX0) (N := 10) hx hb hts inw_X0 hown hK.1 hP 0 rfl rfl 0 (by decide) fl_11 (fun _ h9 => h9) rfl dX0_pourShares_21 ?_
        refine lv_iconst (v := 4) hx hb dX0_pourShares_24 (by decide) ?_
        refine g_aald (v := a 10) hx hb hK hP 1 rfl (vp_lit (by decide)) rfl dX0_pourShares_25 ?_
        refine lv_iload_n hx hb dX0_pourShares_26 rfl (lv_at hl 4 rfl) ?_
        refine lv_dup2_11 hx hb dX0_pourShares_27 rfl rfl ?_
        obtain ⟨x3, hi3, hv3, hc⟩ := rd_some hc
        refine g_iald (x := x3) hx hb hK hP 10 rfl hi3 hv3 dX0_pourShares_28 ?_
        refine lv_iload hx hb dX0_pourShares_29 (lv_at hl 0 rfl) ?_
        refine lv_isub hx hb dX0_pourShares_31 ?_
        obtain ⟨V4, hi4, eV4, hc⟩ := wr_some hc
        refine g_iast (w' := FW cy a V4) hx hb hK hP hD hS 10 rfl hi4 (by rw [← eV4]; rfl) dX0_pourShares_32 (fun H locs hP hD hS => ?_)
        refine lv_iload_n hx hb dX0_pourShares_33 rfl (lv_at hl 4 rfl) ?_
        refine lv_iload_n hx hb dX0_pourShares_34 rfl (lv_at hl 2 rfl) ?_
        refine lv_icmp_ne (tgt := 55) hx hb dX0_pourShares_35 (by decide) (fun c5 => ?_) (fun c5 => ?_)
        · replace hc := ite_f c5 hc
          refine lv_aload_n hx hb dX0_pourShares_55 rfl (lv_at hl 1 rfl) ?_
          refine va_get (ci := 0) (v := .ref (a 1)) (C := RX0) (T := TX0) (N := 10) hx hb hts inw_X0 hown hK.1 hP 0 rfl rfl 0 (by decide) fl_11 (fun _ h9 => h9) rfl dX0_pourShares_56 ?_
          refine lv_bipush (v := 9) hx hb dX0_pourShares_59 (by decide +kernel) ?_
          refine g_aald (v := a 15) hx hb hK hP 1 rfl (vp_lit (by decide)) rfl dX0_pourShares_61 ?_
          refine lv_iload_n hx hb dX0_pourShares_62 rfl (lv_at hl 4 rfl) ?_
          refine lv_dup2_11 hx hb dX0_pourShares_63 rfl rfl ?_
          obtain ⟨x6, hi6, hv6, hc⟩ := rd_some hc
          refine g_iald (x := x6) hx hb hK hP 15 rfl hi6 hv6 dX0_pourShares_64 ?_
          refine lv_iload hx hb dX0_pourShares_65 (lv_at hl 0 rfl) ?_
          refine lv_iadd hx hb dX0_pourShares_67 ?_
          obtain ⟨V7, hi7, eV7, hc⟩ := wr_some hc
          refine g_iast (w' := FW cy a V7) hx hb hK hP hD hS 15 rfl hi7 (by rw [← eV7]; rfl) dX0_pourShares_68 (fun H locs hP hD hS => ?_)
          refine lv_iload_n hx hb dX0_pourShares_69 rfl (lv_at hl 3 rfl) ?_
          refine lv_iload hx hb dX0_pourShares_70 (lv_at hl 0 rfl) ?_
          refine lv_iadd hx hb dX0_pourShares_72 ?_
          refine lv_istore_n (lv' := [(2, .int (y2 + x2)), (4, .int x2), (0, .ref (a 0)), (1, .int y1), (3, .int y3)]) hx hb dX0_pourShares_73 rfl hl (by decide) rfl (fun ls hl => ?_)
          refine lv_iinc (v := y3 + 1) (lv' := [(3, .int (y3 + 1)), (2, .int (y2 + x2)), (4, .int x2), (0, .ref (a 0)), (1, .int y1)]) hx hb dX0_pourShares_74 hl (k := 4) rfl rfl (by decide) rfl (fun ls hl => ?_)
          refine lv_goto (tgt := 4) hx hb dX0_pourShares_77 (by decide) ?_
          exact ih y1 (y2 + x2) (y3 + 1) V7 H locs ls hc hP hD hS (lv_sub hl [3, 4, 1, 0] rfl)
        · replace hc := ite_t c5 hc
          refine lv_aload_n hx hb dX0_pourShares_38 rfl (lv_at hl 1 rfl) ?_
          refine va_get (ci := 0) (v := .ref (a 1)) (C := RX0) (T := TX0) (N := 10) hx hb hts inw_X0 hown hK.1 hP 0 rfl rfl 0 (by decide) fl_11 (fun _ h9 => h9) rfl dX0_pourShares_39 ?_
          refine lv_bipush (v := 8) hx hb dX0_pourShares_42 (by decide +kernel) ?_
          refine g_aald (v := a 14) hx hb hK hP 1 rfl (vp_lit (by decide)) rfl dX0_pourShares_44 ?_
          refine lv_iload_n hx hb dX0_pourShares_45 rfl (lv_at hl 4 rfl) ?_
          refine lv_dup2_11 hx hb dX0_pourShares_46 rfl rfl ?_
          obtain ⟨x8, hi8, hv8, hc⟩ := rd_some hc
          refine g_iald (x := x8) hx hb hK hP 14 rfl hi8 hv8 dX0_pourShares_47 ?_
          refine lv_iload hx hb dX0_pourShares_48 (lv_at hl 0 rfl) ?_
          refine lv_iadd hx hb dX0_pourShares_50 ?_
          obtain ⟨V9, hi9, eV9, hc⟩ := wr_some hc
          refine g_iast (w' := FW cy a V9) hx hb hK hP hD hS 14 rfl hi9 (by rw [← eV9]; rfl) dX0_pourShares_51 (fun H locs hP hD hS => ?_)
          refine lv_goto (tgt := 74) hx hb dX0_pourShares_52 (by decide) ?_
          refine lv_iinc (v := y3 + 1) (lv' := [(3, .int (y3 + 1)), (4, .int x2), (0, .ref (a 0)), (1, .int y1), (2, .int y2)]) hx hb dX0_pourShares_74 hl (k := 4) rfl rfl (by decide) rfl (fun ls hl => ?_)
          refine lv_goto (tgt := 4) hx hb dX0_pourShares_77 (by decide) ?_
          exact ih y1 y2 (y3 + 1) V9 H locs ls hc hP hD hS (lv_sub hl [2, 3, 4, 0] rfl)
  obtain ⟨H, hHe⟩ : ∃ H : Heap, H = s.heap := ⟨_, rfl⟩
  obtain ⟨locs, hLe⟩ : ∃ x : List Loc, x = [] := ⟨_, rfl⟩
  have hP : va_P D vwCl (FW cy a V) H := by rw [hHe]; exact hP
  have hS : va_S A s.heap H locs := by rw [hHe, hLe]; exact hS
  have goal0 : W p l e (RM 0 0) s m args below meth c H locs 0 0 Q (F0 m 0 ls []) := by
    refine lv_iconst (v := 0) hx hb dX0_pourShares_0 (by decide) ?_
    refine lv_istore_n (lv' := [(2, .int 0), (0, .ref (a 0)), (1, .int p1)]) hx hb dX0_pourShares_1 rfl hl (by decide) rfl (fun ls hl => ?_)
    refine lv_iconst (v := 0) hx hb dX0_pourShares_2 (by decide) ?_
    refine lv_istore_n (lv' := [(3, .int 0), (2, .int 0), (0, .ref (a 0)), (1, .int p1)]) hx hb dX0_pourShares_3 rfl hl (by decide) rfl (fun ls hl => ?_)
    exact L4 FUEL p1 0 0 V H locs ls hc hP hD hS (lv_sub hl [2, 3, 1, 0] rfl)
  rw [hHe, hLe] at goal0
  exact goal0
set_option maxHeartbeats 4000000 in
set_option maxRecDepth 100000 in
theorem C_X3_areBuckets (l : Launch) (D : va_G) (cy : Nat → ClassId) (p0 : Int32) (r : Int32) (hc : f_X3_areBuckets p0 = some r) : ConI l yX3_areBuckets wsX3_areBuckets 0 0 D cy (fun (_ : Unit) => ([] : va_W)) [.int p0] (()) (()) r := by
  refine bodyI (cc := cX3_areBuckets) (maxL := 1) (ty := .boolean) (by decide +kernel) rfl (Nat.le_of_ble_eq_true rfl) ?_
  intro p e s m args below meth c A Q hx hb hml hts hown hK hP hD hA hS hend ls hl
  have hown : s.vm.findClass RX3 = some m.cls := hown
  have hP : va_P D vwCl (([] : va_W)) s.heap := hP
  have hD : va_D A (([] : va_W)) := hD
  have hl : lv_has ls 1 [(0, .int p0)] := hl
  have hend : ∀ (H : Heap) (locs : List Loc) (pc : Nat) (ls : Array Slot) (v : Int32), v = r → narrow .boolean (.int v) = .int v → va_P D vwCl (([] : va_W)) H → va_D A (([] : va_W)) → va_S A s.heap H locs → decode cX3_areBuckets pc = .ok (.ireturn, 1) → W p l e (RM 0 0) s m args below meth c H locs 0 0 Q (F0 m pc ls [.int v]) := fun H locs pc ls v h1 h3 h4 h5 h6 h7 => hend H locs pc ls v (()) h1 rfl h3 h4 h5 h6 h7
  obtain ⟨H, hHe⟩ : ∃ H : Heap, H = s.heap := ⟨_, rfl⟩
  obtain ⟨locs, hLe⟩ : ∃ x : List Loc, x = [] := ⟨_, rfl⟩
  have hP : va_P D vwCl (([] : va_W)) H := by rw [hHe]; exact hP
  have hS : va_S A s.heap H locs := by rw [hHe, hLe]; exact hS
  have goal0 : W p l e (RM 0 0) s m args below meth c H locs 0 0 Q (F0 m 0 ls []) := by
    refine lv_iload_n hx hb dX3_areBuckets_0 rfl (lv_at hl 0 rfl) ?_
    refine lv_iconst (v := 1) hx hb dX3_areBuckets_1 (by decide) ?_
    refine lv_icmp_lt (tgt := 16) hx hb dX3_areBuckets_2 (by decide) (fun c1 => ?_) (fun c1 => ?_)
    · replace hc := ite_t c1 hc
      refine lv_iconst (v := 0) hx hb dX3_areBuckets_16 (by decide) ?_
      exact hend H locs _ _ _ (some_one hc) rfl hP hD hS dX3_areBuckets_17
    · replace hc := ite_f c1 hc
      refine lv_iload_n hx hb dX3_areBuckets_5 rfl (lv_at hl 0 rfl) ?_
      refine lv_sipush (v := 999) hx hb dX3_areBuckets_6 (by decide +kernel) ?_
      refine lv_icmp_gt (tgt := 16) hx hb dX3_areBuckets_9 (by decide) (fun c2 => ?_) (fun c2 => ?_)
      · replace hc := ite_t c2 hc
        refine lv_iconst (v := 0) hx hb dX3_areBuckets_16 (by decide) ?_
        exact hend H locs _ _ _ (some_one hc) rfl hP hD hS dX3_areBuckets_17
      · replace hc := ite_f c2 hc
        refine lv_iconst (v := 1) hx hb dX3_areBuckets_12 (by decide) ?_
        refine lv_goto (tgt := 17) hx hb dX3_areBuckets_13 (by decide) ?_
        exact hend H locs _ _ _ (some_one hc) rfl hP hD hS dX3_areBuckets_17
  rw [hHe, hLe] at goal0
  exact goal0
set_option maxHeartbeats 4000000 in
set_option maxRecDepth 100000 in
theorem C_X0_takeDraw (l : Launch) (D : va_G) (cy : Nat → ClassId) (a : Nat → Nat) (V : FV) (p1 : Int32) (p2 : Int32) (r : Int32) (V' : FV) (hc : f_X0_takeDraw V p1 p2 = some (r, V')) : ConI l yX0_takeDraw wsX0_takeDraw 2 50 D cy (FW cy a) [.ref (a 0), .int p1, .int p2] V V' r := by
  refine bodyI (cc := cX0_takeDraw) (maxL := 3) (ty := .int) (by decide +kernel) rfl (Nat.le_of_ble_eq_true rfl) ?_
  intro p e s m args below meth c A Q hx hb hml hts hown hK hP hD hA hS hend ls hl
  have hown : s.vm.findClass RX0 = some m.cls := hown
  have hP : va_P D vwCl (FW cy a V) s.heap := hP
  have hD : va_D A (FW cy a V) := hD
  have hl : lv_has ls 3 [(0, .ref (a 0)), (1, .int p1), (2, .int p2)] := hl
  have hend : ∀ (H : Heap) (locs : List Loc) (pc : Nat) (ls : Array Slot) (v : Int32) (V : FV), v = r → V = V' → narrow .int (.int v) = .int v → va_P D vwCl (FW cy a V) H → va_D A (FW cy a V) → va_S A s.heap H locs → decode cX0_takeDraw pc = .ok (.ireturn, 1) → W p l e (RM 2 50) s m args below meth c H locs 0 0 Q (F0 m pc ls [.int v]) := fun H locs pc ls v V h1 h2 h3 h4 h5 h6 h7 => hend H locs pc ls v V h1 h2 h3 h4 h5 h6 h7
  have ini_X3_areBuckets := hts (.initialized yX3_areBuckets.cls) (by decide +kernel)
  have sta_X3_areBuckets := hts (.static yX3_areBuckets) (by decide +kernel)
  obtain ⟨H, hHe⟩ : ∃ H : Heap, H = s.heap := ⟨_, rfl⟩
  obtain ⟨locs, hLe⟩ : ∃ x : List Loc, x = [] := ⟨_, rfl⟩
  have hP : va_P D vwCl (FW cy a V) H := by rw [hHe]; exact hP
  have hS : va_S A s.heap H locs := by rw [hHe, hLe]; exact hS
  have goal0 : W p l e (RM 2 50) s m args below meth c H locs 0 0 Q (F0 m 0 ls []) := by
    refine lv_aload_n hx hb dX0_takeDraw_0 rfl (lv_at hl 0 rfl) ?_
    refine lv_iload_n hx hb dX0_takeDraw_1 rfl (lv_at hl 1 rfl) ?_
    obtain ⟨x1, hc1, hc⟩ := b1_some hc
    refine gc_VI (n := 1) (ci := 0) (w' := FW cy a V) hx hb hml hown hts hK hP hD hS hA hl.1 ⟨Nat.le_refl _, Nat.le_refl _⟩ (C_X0_isWell l D cy a V p1 x1 hc1) gX0_takeDraw_X0_isWell rfl (by decide +kernel) rfl ⟨by decide, by decide⟩ Jn.same rfl rfl rfl (Nat.le_of_ble_eq_true rfl) dX0_takeDraw_2 (fun H locs hP hD hS => ?_)
    refine lv_if_eq (tgt := 15) hx hb dX0_takeDraw_5 (by decide) (fun c2 => ?_) (fun c2 => ?_)
    · replace hc := ite_t c2 hc
      refine lv_iconst (v := (-1)) hx hb dX0_takeDraw_15 (by decide) ?_
      exact hend H locs _ _ _ _ (some_fst hc) (some_snd hc) rfl hP hD hS dX0_takeDraw_16
    · replace hc := ite_f c2 hc
      refine lv_iload_n hx hb dX0_takeDraw_8 rfl (lv_at hl 2 rfl) ?_
      obtain ⟨x3, hc3, hc⟩ := b1_some hc
      refine gc_SNI (n := 1) (y := yX3_areBuckets) (host := "NoonWells") (own := RX0) (index := 76) (w' := FW cy a V) hx hb hml hown hts hK hP hD hS hA hl.1 ⟨Nat.le_refl _, Nat.le_refl _⟩ (C_X3_areBuckets l D cy p2 x3 hc3) gX0_takeDraw_X3_areBuckets_n76 (by decide +kernel) ini_X3_areBuckets sta_X3_areBuckets rfl (by decide +kernel) rfl ⟨by decide, by decide⟩ Jn.none rfl (Nat.le_of_ble_eq_true rfl) dX0_takeDraw_9 (fun H locs hP hD hS => ?_)
      refine lv_if_ne (tgt := 17) hx hb dX0_takeDraw_12 (by decide) (fun c4 => ?_) (fun c4 => ?_)
      · replace hc := ite_f c4 hc
        refine lv_aload_n hx hb dX0_takeDraw_17 rfl (lv_at hl 0 rfl) ?_
        refine lv_iload_n hx hb dX0_takeDraw_18 rfl (lv_at hl 1 rfl) ?_
        refine lv_iload_n hx hb dX0_takeDraw_19 rfl (lv_at hl 2 rfl) ?_
        obtain ⟨x5, V5, hc5, hc⟩ := b2_some hc
        refine gc_VI (n := 2) (ci := 0) (w' := FW cy a V5) hx hb hml hown hts hK hP hD hS hA hl.1 ⟨Nat.le_refl _, Nat.le_refl _⟩ (C_X0_shareOut l D cy a V p1 p2 x5 V5 hc5) gX0_takeDraw_X0_shareOut rfl (by decide +kernel) rfl ⟨by decide, by decide⟩ Jn.same rfl rfl rfl (Nat.le_of_ble_eq_true rfl) dX0_takeDraw_20 (fun H locs hP hD hS => ?_)
        refine lv_iload_n hx hb dX0_takeDraw_23 rfl (lv_at hl 2 rfl) ?_
        refine lv_icmp_ne (tgt := 35) hx hb dX0_takeDraw_24 (by decide) (fun c6 => ?_) (fun c6 => ?_)
        · replace hc := ite_f c6 hc
          refine lv_bipush (v := (-2)) hx hb dX0_takeDraw_35 (by decide +kernel) ?_
          exact hend H locs _ _ _ _ (some_fst hc) (some_snd hc) rfl hP hD hS dX0_takeDraw_37
        · replace hc := ite_t c6 hc
          refine lv_aload_n hx hb dX0_takeDraw_27 rfl (lv_at hl 0 rfl) ?_
          refine lv_iload_n hx hb dX0_takeDraw_28 rfl (lv_at hl 1 rfl) ?_
          obtain ⟨x7, V7, hc7, hc⟩ := b2_some hc
          refine gc_VI (n := 1) (ci := 0) (w' := FW cy a V7) hx hb hml hown hts hK hP hD hS hA hl.1 ⟨Nat.le_refl _, Nat.le_refl _⟩ (C_X0_pourShares l D cy a V5 p1 x7 V7 hc7) gX0_takeDraw_X0_pourShares rfl (by decide +kernel) rfl ⟨by decide, by decide⟩ Jn.same rfl rfl rfl (Nat.le_of_ble_eq_true rfl) dX0_takeDraw_29 (fun H locs hP hD hS => ?_)
          refine lv_goto (tgt := 37) hx hb dX0_takeDraw_32 (by decide) ?_
          exact hend H locs _ _ _ _ (some_fst hc) (some_snd hc) rfl hP hD hS dX0_takeDraw_37
      · replace hc := ite_t c4 hc
        refine lv_iconst (v := (-1)) hx hb dX0_takeDraw_15 (by decide) ?_
        exact hend H locs _ _ _ _ (some_fst hc) (some_snd hc) rfl hP hD hS dX0_takeDraw_16
  rw [hHe, hLe] at goal0
  exact goal0
set_option maxHeartbeats 4000000 in
set_option maxRecDepth 100000 in
theorem C_X0_takeRequest (l : Launch) (D : va_G) (cy : Nat → ClassId) (a : Nat → Nat) (V : FV) (p1 : Int32) (p2 : Int32) (r : Int32) (V' : FV) (hc : f_X0_takeRequest V p1 p2 = some (r, V')) : ConI l yX0_takeRequest wsX0_takeRequest 2 50 D cy (FW cy a) [.ref (a 0), .int p1, .int p2] V V' r := by
  refine bodyI (cc := cX0_takeRequest) (maxL := 3) (ty := .int) (by decide +kernel) rfl (Nat.le_of_ble_eq_true rfl) ?_
  intro p e s m args below meth c A Q hx hb hml hts hown hK hP hD hA hS hend ls hl
  have hown : s.vm.findClass RX0 = some m.cls := hown
  have hP : va_P D vwCl (FW cy a V) s.heap := hP
  have hD : va_D A (FW cy a V) := hD
  have hl : lv_has ls 3 [(0, .ref (a 0)), (1, .int p1), (2, .int p2)] := hl
  have hend : ∀ (H : Heap) (locs : List Loc) (pc : Nat) (ls : Array Slot) (v : Int32) (V : FV), v = r → V = V' → narrow .int (.int v) = .int v → va_P D vwCl (FW cy a V) H → va_D A (FW cy a V) → va_S A s.heap H locs → decode cX0_takeRequest pc = .ok (.ireturn, 1) → W p l e (RM 2 50) s m args below meth c H locs 0 0 Q (F0 m pc ls [.int v]) := fun H locs pc ls v V h1 h2 h3 h4 h5 h6 h7 => hend H locs pc ls v V h1 h2 h3 h4 h5 h6 h7
  have ini_X3_areBuckets := hts (.initialized yX3_areBuckets.cls) (by decide +kernel)
  have sta_X3_areBuckets := hts (.static yX3_areBuckets) (by decide +kernel)
  have fl_40 := hts (.fieldLink RX0 40 "NoonWells$Field" "waiting" "I") (by decide +kernel)
  have inw_X0 := (by decide +kernel : ∀ w ∈ u_ws RX0 TX0 10, w ∈ wsX0_takeRequest)
  have fl_19 := hts (.fieldLink RX0 19 "NoonWells$Field" "requests" "[[I") (by decide +kernel)
  have fl_43 := hts (.fieldLink RX0 43 "NoonWells$Field" "time" "I") (by decide +kernel)
  obtain ⟨H, hHe⟩ : ∃ H : Heap, H = s.heap := ⟨_, rfl⟩
  obtain ⟨locs, hLe⟩ : ∃ x : List Loc, x = [] := ⟨_, rfl⟩
  have hP : va_P D vwCl (FW cy a V) H := by rw [hHe]; exact hP
  have hS : va_S A s.heap H locs := by rw [hHe, hLe]; exact hS
  have goal0 : W p l e (RM 2 50) s m args below meth c H locs 0 0 Q (F0 m 0 ls []) := by
    refine lv_aload_n hx hb dX0_takeRequest_0 rfl (lv_at hl 0 rfl) ?_
    refine lv_iload_n hx hb dX0_takeRequest_1 rfl (lv_at hl 1 rfl) ?_
    obtain ⟨x1, hc1, hc⟩ := b1_some hc
    refine gc_VI (n := 1) (ci := 0) (w' := FW cy a V) hx hb hml hown hts hK hP hD hS hA hl.1 ⟨Nat.le_refl _, Nat.le_refl _⟩ (C_X0_isWell l D cy a V p1 x1 hc1) gX0_takeRequest_X0_isWell rfl (by decide +kernel) rfl ⟨by decide, by decide⟩ Jn.same rfl rfl rfl (Nat.le_of_ble_eq_true rfl) dX0_takeRequest_2 (fun H locs hP hD hS => ?_)
    refine lv_if_eq (tgt := 15) hx hb dX0_takeRequest_5 (by decide) (fun c2 => ?_) (fun c2 => ?_)
    · replace hc := ite_t c2 hc
      refine lv_iconst (v := (-1)) hx hb dX0_takeRequest_15 (by decide) ?_
      exact hend H locs _ _ _ _ (some_fst hc) (some_snd hc) rfl hP hD hS dX0_takeRequest_16
    · replace hc := ite_f c2 hc
      refine lv_iload_n hx hb dX0_takeRequest_8 rfl (lv_at hl 2 rfl) ?_
      obtain ⟨x3, hc3, hc⟩ := b1_some hc
      refine gc_SNI (n := 1) (y := yX3_areBuckets) (host := "NoonWells") (own := RX0) (index := 76) (w' := FW cy a V) hx hb hml hown hts hK hP hD hS hA hl.1 ⟨Nat.le_refl _, Nat.le_refl _⟩ (C_X3_areBuckets l D cy p2 x3 hc3) gX0_takeRequest_X3_areBuckets_n76 (by decide +kernel) ini_X3_areBuckets sta_X3_areBuckets rfl (by decide +kernel) rfl ⟨by decide, by decide⟩ Jn.none rfl (Nat.le_of_ble_eq_true rfl) dX0_takeRequest_9 (fun H locs hP hD hS => ?_)
      refine lv_if_ne (tgt := 17) hx hb dX0_takeRequest_12 (by decide) (fun c4 => ?_) (fun c4 => ?_)
      · replace hc := ite_f c4 hc
        refine lv_aload_n hx hb dX0_takeRequest_17 rfl (lv_at hl 0 rfl) ?_
        refine va_get (ci := 0) (v := .int (V 0 2)) (C := RX0) (T := TX0) (N := 10) hx hb hts inw_X0 hown hK.1 hP 0 rfl rfl 7 (by decide) fl_40 (fun _ h9 => h9) rfl dX0_takeRequest_18 ?_
        refine lv_if_ne (tgt := 42) hx hb dX0_takeRequest_21 (by decide) (fun c5 => ?_) (fun c5 => ?_)
        · replace hc := ite_f c5 hc
          refine lv_aload_n hx hb dX0_takeRequest_42 rfl (lv_at hl 0 rfl) ?_
          refine va_get (ci := 0) (v := .int (V 0 2)) (C := RX0) (T := TX0) (N := 10) hx hb hts inw_X0 hown hK.1 hP 0 rfl rfl 7 (by decide) fl_40 (fun _ h9 => h9) rfl dX0_takeRequest_43 ?_
          refine lv_bipush (v := 8) hx hb dX0_takeRequest_46 (by decide +kernel) ?_
          refine lv_icmp_lt (tgt := 54) hx hb dX0_takeRequest_48 (by decide) (fun c6 => ?_) (fun c6 => ?_)
          · replace hc := ite_t c6 hc
            refine lv_aload_n hx hb dX0_takeRequest_54 rfl (lv_at hl 0 rfl) ?_
            refine va_get (ci := 0) (v := .ref (a 3)) (C := RX0) (T := TX0) (N := 10) hx hb hts inw_X0 hown hK.1 hP 0 rfl rfl 2 (by decide) fl_19 (fun _ h9 => h9) rfl dX0_takeRequest_55 ?_
            refine lv_iconst (v := 0) hx hb dX0_takeRequest_58 (by decide) ?_
            refine g_aald (v := a 22) hx hb hK hP 3 rfl (vp_lit (by decide)) rfl dX0_takeRequest_59 ?_
            refine lv_aload_n hx hb dX0_takeRequest_60 rfl (lv_at hl 0 rfl) ?_
            refine va_get (ci := 0) (v := .int (V 0 2)) (C := RX0) (T := TX0) (N := 10) hx hb hts inw_X0 hown hK.1 hP 0 rfl rfl 7 (by decide) fl_40 (fun _ h9 => h9) rfl dX0_takeRequest_61 ?_
            refine lv_iload_n hx hb dX0_takeRequest_64 rfl (lv_at hl 1 rfl) ?_
            obtain ⟨V7, hi7, eV7, hc⟩ := wr_some hc
            refine g_iast (w' := FW cy a V7) hx hb hK hP hD hS 22 rfl hi7 (by rw [← eV7]; rfl) dX0_takeRequest_65 (fun H locs hP hD hS => ?_)
            refine lv_aload_n hx hb dX0_takeRequest_66 rfl (lv_at hl 0 rfl) ?_
            refine va_get (ci := 0) (v := .ref (a 3)) (C := RX0) (T := TX0) (N := 10) hx hb hts inw_X0 hown hK.1 hP 0 rfl rfl 2 (by decide) fl_19 (fun _ h9 => h9) rfl dX0_takeRequest_67 ?_
            refine lv_iconst (v := 1) hx hb dX0_takeRequest_70 (by decide) ?_
            refine g_aald (v := a 23) hx hb hK hP 3 rfl (vp_lit (by decide)) rfl dX0_takeRequest_71 ?_
            refine lv_aload_n hx hb dX0_takeRequest_72 rfl (lv_at hl 0 rfl) ?_
            refine va_get (ci := 0) (v := .int (V7 0 2)) (C := RX0) (T := TX0) (N := 10) hx hb hts inw_X0 hown hK.1 hP 0 rfl rfl 7 (by decide) fl_40 (fun _ h9 => h9) rfl dX0_takeRequest_73 ?_
            refine lv_iload_n hx hb dX0_takeRequest_76 rfl (lv_at hl 2 rfl) ?_
            obtain ⟨V8, hi8, eV8, hc⟩ := wr_some hc
            refine g_iast (w' := FW cy a V8) hx hb hK hP hD hS 23 rfl hi8 (by rw [← eV8]; rfl) dX0_takeRequest_77 (fun H locs hP hD hS => ?_)
            refine lv_aload_n hx hb dX0_takeRequest_78 rfl (lv_at hl 0 rfl) ?_
            refine va_get (ci := 0) (v := .ref (a 3)) (C := RX0) (T := TX0) (N := 10) hx hb hts inw_X0 hown hK.1 hP 0 rfl rfl 2 (by decide) fl_19 (fun _ h9 => h9) rfl dX0_takeRequest_79 ?_
            refine lv_iconst (v := 2) hx hb dX0_takeRequest_82 (by decide) ?_
            refine g_aald (v := a 24) hx hb hK hP 3 rfl (vp_lit (by decide)) rfl dX0_takeRequest_83 ?_
            refine lv_aload_n hx hb dX0_takeRequest_84 rfl (lv_at hl 0 rfl) ?_
            refine va_get (ci := 0) (v := .int (V8 0 2)) (C := RX0) (T := TX0) (N := 10) hx hb hts inw_X0 hown hK.1 hP 0 rfl rfl 7 (by decide) fl_40 (fun _ h9 => h9) rfl dX0_takeRequest_85 ?_
            refine lv_aload_n hx hb dX0_takeRequest_88 rfl (lv_at hl 0 rfl) ?_
            refine va_get (ci := 0) (v := .int (V8 0 3)) (C := RX0) (T := TX0) (N := 10) hx hb hts inw_X0 hown hK.1 hP 0 rfl rfl 8 (by decide) fl_43 (fun _ h9 => h9) rfl dX0_takeRequest_89 ?_
            obtain ⟨V9, hi9, eV9, hc⟩ := wr_some hc
            refine g_iast (w' := FW cy a V9) hx hb hK hP hD hS 24 rfl hi9 (by rw [← eV9]; rfl) dX0_takeRequest_92 (fun H locs hP hD hS => ?_)
            refine lv_aload_n hx hb dX0_takeRequest_93 rfl (lv_at hl 0 rfl) ?_
            refine lv_dup hx hb dX0_takeRequest_94 rfl ?_
            refine va_get (ci := 0) (v := .int (V9 0 2)) (C := RX0) (T := TX0) (N := 10) hx hb hts inw_X0 hown hK.1 hP 0 rfl rfl 7 (by decide) fl_40 (fun _ h9 => h9) rfl dX0_takeRequest_95 ?_
            refine lv_iconst (v := 1) hx hb dX0_takeRequest_98 (by decide) ?_
            refine lv_iadd hx hb dX0_takeRequest_99 ?_
            obtain ⟨V10, eV10, hc⟩ := lt1_some hc
            refine g_put (ci := 0) (C := RX0) (T := TX0) (N := 10) (w' := FW cy a V10) hx hb hts inw_X0 tyX0 tyX0_ok nmX0 hown hK hP hD hS 0 rfl rfl 7 (by decide) fl_40 (fun _ h9 => h9) rfl (by decide +kernel) (Nat.le_of_ble_eq_true rfl) (by rw [← eV10]; rfl) dX0_takeRequest_100 (fun H locs hP hD hS => ?_)
            refine lv_aload_n hx hb dX0_takeRequest_103 rfl (lv_at hl 0 rfl) ?_
            refine va_get (ci := 0) (v := .int (V10 0 2)) (C := RX0) (T := TX0) (N := 10) hx hb hts inw_X0 hown hK.1 hP 0 rfl rfl 7 (by decide) fl_40 (fun _ h9 => h9) rfl dX0_takeRequest_104 ?_
            exact hend H locs _ _ _ _ (some_fst hc) (some_snd hc) rfl hP hD hS dX0_takeRequest_107
          · replace hc := ite_f c6 hc
            refine lv_bipush (v := (-3)) hx hb dX0_takeRequest_51 (by decide +kernel) ?_
            exact hend H locs _ _ _ _ (some_fst hc) (some_snd hc) rfl hP hD hS dX0_takeRequest_53
        · replace hc := ite_t c5 hc
          refine lv_aload_n hx hb dX0_takeRequest_24 rfl (lv_at hl 0 rfl) ?_
          refine lv_iload_n hx hb dX0_takeRequest_25 rfl (lv_at hl 1 rfl) ?_
          refine lv_iload_n hx hb dX0_takeRequest_26 rfl (lv_at hl 2 rfl) ?_
          obtain ⟨x11, V11, hc11, hc⟩ := b2_some hc
          refine gc_VI (n := 2) (ci := 0) (w' := FW cy a V11) hx hb hml hown hts hK hP hD hS hA hl.1 ⟨Nat.le_refl _, Nat.le_refl _⟩ (C_X0_shareOut l D cy a V p1 p2 x11 V11 hc11) gX0_takeRequest_X0_shareOut rfl (by decide +kernel) rfl ⟨by decide, by decide⟩ Jn.same rfl rfl rfl (Nat.le_of_ble_eq_true rfl) dX0_takeRequest_27 (fun H locs hP hD hS => ?_)
          refine lv_iload_n hx hb dX0_takeRequest_30 rfl (lv_at hl 2 rfl) ?_
          refine lv_icmp_ne (tgt := 42) hx hb dX0_takeRequest_31 (by decide) (fun c12 => ?_) (fun c12 => ?_)
          · replace hc := ite_f c12 hc
            refine lv_aload_n hx hb dX0_takeRequest_42 rfl (lv_at hl 0 rfl) ?_
            refine va_get (ci := 0) (v := .int (V11 0 2)) (C := RX0) (T := TX0) (N := 10) hx hb hts inw_X0 hown hK.1 hP 0 rfl rfl 7 (by decide) fl_40 (fun _ h9 => h9) rfl dX0_takeRequest_43 ?_
            refine lv_bipush (v := 8) hx hb dX0_takeRequest_46 (by decide +kernel) ?_
            refine lv_icmp_lt (tgt := 54) hx hb dX0_takeRequest_48 (by decide) (fun c13 => ?_) (fun c13 => ?_)
            · replace hc := ite_t c13 hc
              refine lv_aload_n hx hb dX0_takeRequest_54 rfl (lv_at hl 0 rfl) ?_
              refine va_get (ci := 0) (v := .ref (a 3)) (C := RX0) (T := TX0) (N := 10) hx hb hts inw_X0 hown hK.1 hP 0 rfl rfl 2 (by decide) fl_19 (fun _ h9 => h9) rfl dX0_takeRequest_55 ?_
              refine lv_iconst (v := 0) hx hb dX0_takeRequest_58 (by decide) ?_
              refine g_aald (v := a 22) hx hb hK hP 3 rfl (vp_lit (by decide)) rfl dX0_takeRequest_59 ?_
              refine lv_aload_n hx hb dX0_takeRequest_60 rfl (lv_at hl 0 rfl) ?_
              refine va_get (ci := 0) (v := .int (V11 0 2)) (C := RX0) (T := TX0) (N := 10) hx hb hts inw_X0 hown hK.1 hP 0 rfl rfl 7 (by decide) fl_40 (fun _ h9 => h9) rfl dX0_takeRequest_61 ?_
              refine lv_iload_n hx hb dX0_takeRequest_64 rfl (lv_at hl 1 rfl) ?_
              obtain ⟨V14, hi14, eV14, hc⟩ := wr_some hc
              refine g_iast (w' := FW cy a V14) hx hb hK hP hD hS 22 rfl hi14 (by rw [← eV14]; rfl) dX0_takeRequest_65 (fun H locs hP hD hS => ?_)
              refine lv_aload_n hx hb dX0_takeRequest_66 rfl (lv_at hl 0 rfl) ?_
              refine va_get (ci := 0) (v := .ref (a 3)) (C := RX0) (T := TX0) (N := 10) hx hb hts inw_X0 hown hK.1 hP 0 rfl rfl 2 (by decide) fl_19 (fun _ h9 => h9) rfl dX0_takeRequest_67 ?_
              refine lv_iconst (v := 1) hx hb dX0_takeRequest_70 (by decide) ?_
              refine g_aald (v := a 23) hx hb hK hP 3 rfl (vp_lit (by decide)) rfl dX0_takeRequest_71 ?_
              refine lv_aload_n hx hb dX0_takeRequest_72 rfl (lv_at hl 0 rfl) ?_
              refine va_get (ci := 0) (v := .int (V14 0 2)) (C := RX0) (T := TX0) (N := 10) hx hb hts inw_X0 hown hK.1 hP 0 rfl rfl 7 (by decide) fl_40 (fun _ h9 => h9) rfl dX0_takeRequest_73 ?_
              refine lv_iload_n hx hb dX0_takeRequest_76 rfl (lv_at hl 2 rfl) ?_
              obtain ⟨V15, hi15, eV15, hc⟩ := wr_some hc
              refine g_iast (w' := FW cy a V15) hx hb hK hP hD hS 23 rfl hi15 (by rw [← eV15]; rfl) dX0_takeRequest_77 (fun H locs hP hD hS => ?_)
              refine lv_aload_n hx hb dX0_takeRequest_78 rfl (lv_at hl 0 rfl) ?_
              refine va_get (ci := 0) (v := .ref (a 3)) (C := RX0) (T := TX0) (N := 10) hx hb hts inw_X0 hown hK.1 hP 0 rfl rfl 2 (by decide) fl_19 (fun _ h9 => h9) rfl dX0_takeRequest_79 ?_
              refine lv_iconst (v := 2) hx hb dX0_takeRequest_82 (by decide) ?_
              refine g_aald (v := a 24) hx hb hK hP 3 rfl (vp_lit (by decide)) rfl dX0_takeRequest_83 ?_
              refine lv_aload_n hx hb dX0_takeRequest_84 rfl (lv_at hl 0 rfl) ?_
              refine va_get (ci := 0) (v := .int (V15 0 2)) (C := RX0) (T := TX0) (N := 10) hx hb hts inw_X0 hown hK.1 hP 0 rfl rfl 7 (by decide) fl_40 (fun _ h9 => h9) rfl dX0_takeRequest_85 ?_
              refine lv_aload_n hx hb dX0_takeRequest_88 rfl (lv_at hl 0 rfl) ?_
              refine va_get (ci := 0) (v := .int (V15 0 3)) (C := RX0) (T := TX0) (N := 10) hx hb hts inw_X0 hown hK.1 hP 0 rfl rfl 8 (by decide) fl_43 (fun _ h9 => h9) rfl dX0_takeRequest_89 ?_
              obtain ⟨V16, hi16, eV16, hc⟩ := wr_some hc
              refine g_iast (w' := FW cy a V16) hx hb hK hP hD hS 24 rfl hi16 (by rw [← eV16]; rfl) dX0_takeRequest_92 (fun H locs hP hD hS => ?_)
              refine lv_aload_n hx hb dX0_takeRequest_93 rfl (lv_at hl 0 rfl) ?_
              refine lv_dup hx hb dX0_takeRequest_94 rfl ?_
              refine va_get (ci := 0) (v := .int (V16 0 2)) (C := RX0) (T := TX0) (N := 10) hx hb hts inw_X0 hown hK.1 hP 0 rfl rfl 7 (by decide) fl_40 (fun _ h9 => h9) rfl dX0_takeRequest_95 ?_
              refine lv_iconst (v := 1) hx hb dX0_takeRequest_98 (by decide) ?_
              refine lv_iadd hx hb dX0_takeRequest_99 ?_
              obtain ⟨V17, eV17, hc⟩ := lt1_some hc
              refine g_put (ci := 0) (C := RX0) (T := TX0) (N := 10) (w' := FW cy a V17) hx hb hts inw_X0 tyX0 tyX0_ok nmX0 hown hK hP hD hS 0 rfl rfl 7 (by decide) fl_40 (fun _ h9 => h9) rfl (by decide +kernel) (Nat.le_of_ble_eq_true rfl) (by rw [← eV17]; rfl) dX0_takeRequest_100 (fun H locs hP hD hS => ?_)
              refine lv_aload_n hx hb dX0_takeRequest_103 rfl (lv_at hl 0 rfl) ?_
              refine va_get (ci := 0) (v := .int (V17 0 2)) (C := RX0) (T := TX0) (N := 10) hx hb hts inw_X0 hown hK.1 hP 0 rfl rfl 7 (by decide) fl_40 (fun _ h9 => h9) rfl dX0_takeRequest_104 ?_
              exact hend H locs _ _ _ _ (some_fst hc) (some_snd hc) rfl hP hD hS dX0_takeRequest_107
            · replace hc := ite_f c13 hc
              refine lv_bipush (v := (-3)) hx hb dX0_takeRequest_51 (by decide +kernel) ?_
              exact hend H locs _ _ _ _ (some_fst hc) (some_snd hc) rfl hP hD hS dX0_takeRequest_53
          · replace hc := ite_t c12 hc
            refine lv_aload_n hx hb dX0_takeRequest_34 rfl (lv_at hl 0 rfl) ?_
            refine lv_iload_n hx hb dX0_takeRequest_35 rfl (lv_at hl 1 rfl) ?_
            obtain ⟨x18, V18, hc18, hc⟩ := b2_some hc
            refine gc_VI (n := 1) (ci := 0) (w' := FW cy a V18) hx hb hml hown hts hK hP hD hS hA hl.1 ⟨Nat.le_refl _, Nat.le_refl _⟩ (C_X0_pourShares l D cy a V11 p1 x18 V18 hc18) gX0_takeRequest_X0_pourShares rfl (by decide +kernel) rfl ⟨by decide, by decide⟩ Jn.same rfl rfl rfl (Nat.le_of_ble_eq_true rfl) dX0_takeRequest_36 (fun H locs hP hD hS => ?_)
            refine lv_pop hx hb dX0_takeRequest_39 rfl ?_
            refine lv_iconst (v := 0) hx hb dX0_takeRequest_40 (by decide) ?_
            exact hend H locs _ _ _ _ (some_fst hc) (some_snd hc) rfl hP hD hS dX0_takeRequest_41
      · replace hc := ite_t c4 hc
        refine lv_iconst (v := (-1)) hx hb dX0_takeRequest_15 (by decide) ?_
        exact hend H locs _ _ _ _ (some_fst hc) (some_snd hc) rfl hP hD hS dX0_takeRequest_16
  rw [hHe, hLe] at goal0
  exact goal0
set_option maxHeartbeats 4000000 in
set_option maxRecDepth 100000 in
theorem C_X0_moveRequest (l : Launch) (D : va_G) (cy : Nat → ClassId) (a : Nat → Nat) (V : FV) (p1 : Int32) (p2 : Int32) (V' : FV) (hc : f_X0_moveRequest V p1 p2 = some V') : ConV l yX0_moveRequest wsX0_moveRequest 0 0 D cy (FW cy a) [.ref (a 0), .int p1, .int p2] V V' := by
  refine bodyV (cc := cX0_moveRequest) (maxL := 4) (by decide +kernel) rfl (Nat.le_of_ble_eq_true rfl) ?_
  intro p e s m args below meth c A Q hx hb hml hts hown hK hP hD hA hS hend ls hl
  have hown : s.vm.findClass RX0 = some m.cls := hown
  have hP : va_P D vwCl (FW cy a V) s.heap := hP
  have hD : va_D A (FW cy a V) := hD
  have hl : lv_has ls 4 [(0, .ref (a 0)), (1, .int p1), (2, .int p2)] := hl
  have hend : ∀ (H : Heap) (locs : List Loc) (pc : Nat) (ls : Array Slot) (V : FV), V = V' → va_P D vwCl (FW cy a V) H → va_D A (FW cy a V) → va_S A s.heap H locs → decode cX0_moveRequest pc = .ok (.return_, 1) → W p l e (RM 0 0) s m args below meth c H locs 0 0 Q (F0 m pc ls []) := fun H locs pc ls V h1 h2 h3 h4 h5 => hend H locs pc ls V h1 h2 h3 h4 h5
  have fl_19 := hts (.fieldLink RX0 19 "NoonWells$Field" "requests" "[[I") (by decide +kernel)
  have inw_X0 := (by decide +kernel : ∀ w ∈ u_ws RX0 TX0 10, w ∈ wsX0_moveRequest)
  have L2 : ∀ (n : Nat), ∀ (y1 y2 y3 : Int32) (V : FV) (H : Heap) (locs : List Loc) (ls : Array Slot), f_X0_moveRequest_L2 n y1 y2 y3 V = some V' → va_P D vwCl (FW cy a V) H → va_D A (FW cy a V) → va_S A s.heap H locs → lv_has ls 4 [(0, .ref (a 0)), (1, .int y1), (2, .int y2), (3, .int y3)] → W p l e (RM 0 0) s m args below meth c H locs 0 0 Q (F0 m 2 ls []) := by
    intro n
    induction n with
    | zero =>
      intro y1 y2 y3 V H locs ls hc
      cases hc
    | succ n ih =>
      intro y1 y2 y3 V H locs ls hc hP hD hS hl
      refine lv_iload_n hx hb dX0_moveRequest_2 rfl (lv_at hl 3 rfl) ?_
      refine lv_iconst (v := 3) hx hb dX0_moveRequest_3 (by decide) ?_
      refine lv_icmp_ge (tgt := 29) hx hb dX0_moveRequest_4 (by decide) (fun c1 => ?_) (fun c1 => ?_)
      · replace hc := ite_t c1 hc
        exact hend H locs _ _ _ (some_one hc) hP hD hS dX0_moveRequest_29
      · replace hc := ite_f c1 hc
        refine lv_aload_n hx hb dX0_moveRequest_7 rfl (lv_at hl 0 rfl) ?_
        refine va_get (ci := 0) (v := .ref (a 3)) (C := RX0) (T := TX0) (N := 10) hx hb hts inw_X0 hown hK.1 hP 0 rfl rfl 2 (by decide) fl_19 (fun _ h9 => h9) rfl dX0_moveRequest_8 ?_
        refine lv_iload_n hx hb dX0_moveRequest_11 rfl (lv_at hl 3 rfl) ?_
        obtain ⟨j2, hi2, hj2, hn2, hc⟩ := ix_some hc
        refine g_aald (v := a (22 + j2)) hx hb hK hP 3 rfl hi2 (by rw [hj2]; exact if_pos hn2) dX0_moveRequest_12 ?_
        refine lv_iload_n hx hb dX0_moveRequest_13 rfl (lv_at hl 2 rfl) ?_
        refine lv_aload_n hx hb dX0_moveRequest_14 rfl (lv_at hl 0 rfl) ?_
        refine va_get (ci := 0) (v := .ref (a 3)) (C := RX0) (T := TX0) (N := 10) hx hb hts inw_X0 hown hK.1 hP 0 rfl rfl 2 (by decide) fl_19 (fun _ h9 => h9) rfl dX0_moveRequest_15 ?_
        refine lv_iload_n hx hb dX0_moveRequest_18 rfl (lv_at hl 3 rfl) ?_
        obtain ⟨j3, hi3, hj3, hn3, hc⟩ := ix_some hc
        refine g_aald (v := a (22 + j3)) hx hb hK hP 3 rfl hi3 (by rw [hj3]; exact if_pos hn3) dX0_moveRequest_19 ?_
        refine lv_iload_n hx hb dX0_moveRequest_20 rfl (lv_at hl 1 rfl) ?_
        obtain ⟨x4, hi4, hv4, hc⟩ := rd_some hc
        refine g_iald (x := x4) hx hb hK hP (22 + j3) (FW_req hn3) hi4 hv4 dX0_moveRequest_21 ?_
        obtain ⟨V5, hi5, eV5, hc⟩ := wr_some hc
        refine g_iast (w' := FW cy a V5) hx hb hK hP hD hS (22 + j2) (FW_req hn2) hi5 (by rw [← eV5]; exact FW_reqS hn2) dX0_moveRequest_22 (fun H locs hP hD hS => ?_)
        refine lv_iinc (v := y3 + 1) (lv' := [(3, .int (y3 + 1)), (0, .ref (a 0)), (1, .int y1), (2, .int y2)]) hx hb dX0_moveRequest_23 hl (k := 3) rfl rfl (by decide) rfl (fun ls hl => ?_)
        refine lv_goto (tgt := 2) hx hb dX0_moveRequest_26 (by decide) ?_
        exact ih y1 y2 (y3 + 1) V5 H locs ls hc hP hD hS (lv_sub hl [1, 2, 3, 0] rfl)
  obtain ⟨H, hHe⟩ : ∃ H : Heap, H = s.heap := ⟨_, rfl⟩
  obtain ⟨locs, hLe⟩ : ∃ x : List Loc, x = [] := ⟨_, rfl⟩
  have hP : va_P D vwCl (FW cy a V) H := by rw [hHe]; exact hP
  have hS : va_S A s.heap H locs := by rw [hHe, hLe]; exact hS
  have goal0 : W p l e (RM 0 0) s m args below meth c H locs 0 0 Q (F0 m 0 ls []) := by
    refine lv_iconst (v := 0) hx hb dX0_moveRequest_0 (by decide) ?_
    refine lv_istore_n (lv' := [(3, .int 0), (0, .ref (a 0)), (1, .int p1), (2, .int p2)]) hx hb dX0_moveRequest_1 rfl hl (by decide) rfl (fun ls hl => ?_)
    exact L2 FUEL p1 p2 0 V H locs ls hc hP hD hS (lv_sub hl [1, 2, 3, 0] rfl)
  rw [hHe, hLe] at goal0
  exact goal0
set_option maxHeartbeats 4000000 in
set_option maxRecDepth 100000 in
theorem C_X0_dropRequest (l : Launch) (D : va_G) (cy : Nat → ClassId) (a : Nat → Nat) (V : FV) (p1 : Int32) (r : Int32) (V' : FV) (hc : f_X0_dropRequest V p1 = some (r, V')) : ConI l yX0_dropRequest wsX0_dropRequest 1 23 D cy (FW cy a) [.ref (a 0), .int p1] V V' r := by
  refine bodyI (cc := cX0_dropRequest) (maxL := 4) (ty := .int) (by decide +kernel) rfl (Nat.le_of_ble_eq_true rfl) ?_
  intro p e s m args below meth c A Q hx hb hml hts hown hK hP hD hA hS hend ls hl
  have hown : s.vm.findClass RX0 = some m.cls := hown
  have hP : va_P D vwCl (FW cy a V) s.heap := hP
  have hD : va_D A (FW cy a V) := hD
  have hl : lv_has ls 4 [(0, .ref (a 0)), (1, .int p1)] := hl
  have hend : ∀ (H : Heap) (locs : List Loc) (pc : Nat) (ls : Array Slot) (v : Int32) (V : FV), v = r → V = V' → narrow .int (.int v) = .int v → va_P D vwCl (FW cy a V) H → va_D A (FW cy a V) → va_S A s.heap H locs → decode cX0_dropRequest pc = .ok (.ireturn, 1) → W p l e (RM 1 23) s m args below meth c H locs 0 0 Q (F0 m pc ls [.int v]) := fun H locs pc ls v V h1 h2 h3 h4 h5 h6 h7 => hend H locs pc ls v V h1 h2 h3 h4 h5 h6 h7
  have fl_19 := hts (.fieldLink RX0 19 "NoonWells$Field" "requests" "[[I") (by decide +kernel)
  have inw_X0 := (by decide +kernel : ∀ w ∈ u_ws RX0 TX0 10, w ∈ wsX0_dropRequest)
  have fl_40 := hts (.fieldLink RX0 40 "NoonWells$Field" "waiting" "I") (by decide +kernel)
  have L23 : ∀ (n : Nat), ∀ (y1 y2 y3 : Int32) (V : FV) (H : Heap) (locs : List Loc) (ls : Array Slot), f_X0_dropRequest_L23 n y1 y2 y3 V = some (r, V') → va_P D vwCl (FW cy a V) H → va_D A (FW cy a V) → va_S A s.heap H locs → lv_has ls 4 [(0, .ref (a 0)), (1, .int y1), (2, .int y2), (3, .int y3)] → W p l e (RM 1 23) s m args below meth c H locs 0 0 Q (F0 m 23 ls []) := by
    intro n
    induction n with
    | zero =>
      intro y1 y2 y3 V H locs ls hc
      cases hc
    | succ n ih =>
      intro y1 y2 y3 V H locs ls hc hP hD hS hl
      refine lv_iload_n hx hb dX0_dropRequest_23 rfl (lv_at hl 3 rfl) ?_
      refine lv_aload_n hx hb dX0_dropRequest_24 rfl (lv_at hl 0 rfl) ?_
      refine va_get (ci := 0) (v := .int (V 0 2)) (C := RX0) (T := TX0) (N := 10) hx hb hts inw_X0 hown hK.1 hP 0 rfl rfl 7 (by decide) fl_40 (fun _ h9 => h9) rfl dX0_dropRequest_25 ?_
      refine lv_icmp_ge (tgt := 45) hx hb dX0_dropRequest_28 (by decide) (fun c4 => ?_) (fun c4 => ?_)
      · replace hc := ite_t c4 hc
        refine lv_aload_n hx hb dX0_dropRequest_45 rfl (lv_at hl 0 rfl) ?_
        refine lv_dup hx hb dX0_dropRequest_46 rfl ?_
        refine va_get (ci := 0) (v := .int (V 0 2)) (C := RX0) (T := TX0) (N := 10) hx hb hts inw_X0 hown hK.1 hP 0 rfl rfl 7 (by decide) fl_40 (fun _ h9 => h9) rfl dX0_dropRequest_47 ?_
        refine lv_iconst (v := 1) hx hb dX0_dropRequest_50 (by decide) ?_
        refine lv_isub hx hb dX0_dropRequest_51 ?_
        obtain ⟨V5, eV5, hc⟩ := lt1_some hc
        refine g_put (ci := 0) (C := RX0) (T := TX0) (N := 10) (w' := FW cy a V5) hx hb hts inw_X0 tyX0 tyX0_ok nmX0 hown hK hP hD hS 0 rfl rfl 7 (by decide) fl_40 (fun _ h9 => h9) rfl (by decide +kernel) (Nat.le_of_ble_eq_true rfl) (by rw [← eV5]; rfl) dX0_dropRequest_52 (fun H locs hP hD hS => ?_)
        refine lv_iload_n hx hb dX0_dropRequest_55 rfl (lv_at hl 2 rfl) ?_
        exact hend H locs _ _ _ _ (some_fst hc) (some_snd hc) rfl hP hD hS dX0_dropRequest_56
      · replace hc := ite_f c4 hc
        refine lv_aload_n hx hb dX0_dropRequest_31 rfl (lv_at hl 0 rfl) ?_
        refine lv_iload_n hx hb dX0_dropRequest_32 rfl (lv_at hl 3 rfl) ?_
        refine lv_iload_n hx hb dX0_dropRequest_33 rfl (lv_at hl 3 rfl) ?_
        refine lv_iconst (v := 1) hx hb dX0_dropRequest_34 (by decide) ?_
        refine lv_isub hx hb dX0_dropRequest_35 ?_
        obtain ⟨V6, hc6, hc⟩ := b1_some hc
        refine gc_VV (n := 2) (ci := 0) (w' := FW cy a V6) hx hb hml hown hts hK hP hD hS hA hl.1 ⟨Nat.le_refl _, Nat.le_refl _⟩ (C_X0_moveRequest l D cy a V y3 (y3 - 1) V6 hc6) gX0_dropRequest_X0_moveRequest rfl (by decide +kernel) rfl ⟨by decide, by decide⟩ Jn.same rfl rfl rfl (Nat.le_of_ble_eq_true rfl) dX0_dropRequest_36 (fun H locs hP hD hS => ?_)
        refine lv_iinc (v := y3 + 1) (lv' := [(3, .int (y3 + 1)), (0, .ref (a 0)), (1, .int y1), (2, .int y2)]) hx hb dX0_dropRequest_39 hl (k := 3) rfl rfl (by decide) rfl (fun ls hl => ?_)
        refine lv_goto (tgt := 23) hx hb dX0_dropRequest_42 (by decide) ?_
        exact ih y1 y2 (y3 + 1) V6 H locs ls hc hP hD hS (lv_sub hl [1, 2, 3, 0] rfl)
  obtain ⟨H, hHe⟩ : ∃ H : Heap, H = s.heap := ⟨_, rfl⟩
  obtain ⟨locs, hLe⟩ : ∃ x : List Loc, x = [] := ⟨_, rfl⟩
  have hP : va_P D vwCl (FW cy a V) H := by rw [hHe]; exact hP
  have hS : va_S A s.heap H locs := by rw [hHe, hLe]; exact hS
  have goal0 : W p l e (RM 1 23) s m args below meth c H locs 0 0 Q (F0 m 0 ls []) := by
    refine lv_aload_n hx hb dX0_dropRequest_0 rfl (lv_at hl 0 rfl) ?_
    refine lv_iload_n hx hb dX0_dropRequest_1 rfl (lv_at hl 1 rfl) ?_
    obtain ⟨x1, hc1, hc⟩ := b1_some hc
    refine gc_VI (n := 1) (ci := 0) (w' := FW cy a V) hx hb hml hown hts hK hP hD hS hA hl.1 ⟨Nat.le_refl _, Nat.le_refl _⟩ (C_X0_isPlace l D cy a V p1 x1 hc1) gX0_dropRequest_X0_isPlace rfl (by decide +kernel) rfl ⟨by decide, by decide⟩ Jn.same rfl rfl rfl (Nat.le_of_ble_eq_true rfl) dX0_dropRequest_2 (fun H locs hP hD hS => ?_)
    refine lv_if_ne (tgt := 10) hx hb dX0_dropRequest_5 (by decide) (fun c2 => ?_) (fun c2 => ?_)
    · replace hc := ite_f c2 hc
      refine lv_aload_n hx hb dX0_dropRequest_10 rfl (lv_at hl 0 rfl) ?_
      refine va_get (ci := 0) (v := .ref (a 3)) (C := RX0) (T := TX0) (N := 10) hx hb hts inw_X0 hown hK.1 hP 0 rfl rfl 2 (by decide) fl_19 (fun _ h9 => h9) rfl dX0_dropRequest_11 ?_
      refine lv_iconst (v := 1) hx hb dX0_dropRequest_14 (by decide) ?_
      refine g_aald (v := a 23) hx hb hK hP 3 rfl (vp_lit (by decide)) rfl dX0_dropRequest_15 ?_
      refine lv_iload_n hx hb dX0_dropRequest_16 rfl (lv_at hl 1 rfl) ?_
      refine lv_iconst (v := 1) hx hb dX0_dropRequest_17 (by decide) ?_
      refine lv_isub hx hb dX0_dropRequest_18 ?_
      obtain ⟨x3, hi3, hv3, hc⟩ := rd_some hc
      refine g_iald (x := x3) hx hb hK hP 23 rfl hi3 hv3 dX0_dropRequest_19 ?_
      refine lv_istore_n (lv' := [(2, .int x3), (0, .ref (a 0)), (1, .int p1)]) hx hb dX0_dropRequest_20 rfl hl (by decide) rfl (fun ls hl => ?_)
      refine lv_iload_n hx hb dX0_dropRequest_21 rfl (lv_at hl 2 rfl) ?_
      refine lv_istore_n (lv' := [(3, .int p1), (2, .int x3), (0, .ref (a 0)), (1, .int p1)]) hx hb dX0_dropRequest_22 rfl hl (by decide) rfl (fun ls hl => ?_)
      exact L23 FUEL p1 x3 p1 V H locs ls hc hP hD hS (lv_sub hl [2, 3, 1, 0] rfl)
    · replace hc := ite_t c2 hc
      refine lv_iconst (v := (-1)) hx hb dX0_dropRequest_8 (by decide) ?_
      exact hend H locs _ _ _ _ (some_fst hc) (some_snd hc) rfl hP hD hS dX0_dropRequest_9
  rw [hHe, hLe] at goal0
  exact goal0
set_option maxHeartbeats 4000000 in
set_option maxRecDepth 100000 in
theorem C_X0_changeSetting (l : Launch) (D : va_G) (cy : Nat → ClassId) (a : Nat → Nat) (V : FV) (p1 : Int32) (p2 : Int32) (r : Int32) (V' : FV) (hc : f_X0_changeSetting V p1 p2 = some (r, V')) : ConI l yX0_changeSetting wsX0_changeSetting 0 0 D cy (FW cy a) [.ref (a 0), .int p1, .int p2] V V' r := by
  refine bodyI (cc := cX0_changeSetting) (maxL := 5) (ty := .int) (by decide +kernel) rfl (Nat.le_of_ble_eq_true rfl) ?_
  intro p e s m args below meth c A Q hx hb hml hts hown hK hP hD hA hS hend ls hl
  have hown : s.vm.findClass RX0 = some m.cls := hown
  have hP : va_P D vwCl (FW cy a V) s.heap := hP
  have hD : va_D A (FW cy a V) := hD
  have hl : lv_has ls 5 [(0, .ref (a 0)), (1, .int p1), (2, .int p2)] := hl
  have hend : ∀ (H : Heap) (locs : List Loc) (pc : Nat) (ls : Array Slot) (v : Int32) (V : FV), v = r → V = V' → narrow .int (.int v) = .int v → va_P D vwCl (FW cy a V) H → va_D A (FW cy a V) → va_S A s.heap H locs → decode cX0_changeSetting pc = .ok (.ireturn, 1) → W p l e (RM 0 0) s m args below meth c H locs 0 0 Q (F0 m pc ls [.int v]) := fun H locs pc ls v V h1 h2 h3 h4 h5 h6 h7 => hend H locs pc ls v V h1 h2 h3 h4 h5 h6 h7
  have fl_22 := hts (.fieldLink RX0 22 "NoonWells$Field" "settings" "[I") (by decide +kernel)
  have inw_X0 := (by decide +kernel : ∀ w ∈ u_ws RX0 TX0 10, w ∈ wsX0_changeSetting)
  obtain ⟨H, hHe⟩ : ∃ H : Heap, H = s.heap := ⟨_, rfl⟩
  obtain ⟨locs, hLe⟩ : ∃ x : List Loc, x = [] := ⟨_, rfl⟩
  have hP : va_P D vwCl (FW cy a V) H := by rw [hHe]; exact hP
  have hS : va_S A s.heap H locs := by rw [hHe, hLe]; exact hS
  have goal0 : W p l e (RM 0 0) s m args below meth c H locs 0 0 Q (F0 m 0 ls []) := by
    refine lv_iload_n hx hb dX0_changeSetting_0 rfl (lv_at hl 1 rfl) ?_
    refine lv_if_ne (tgt := 23) hx hb dX0_changeSetting_1 (by decide) (fun c1 => ?_) (fun c1 => ?_)
    · replace hc := ite_f c1 hc
      refine lv_iload_n hx hb dX0_changeSetting_23 rfl (lv_at hl 1 rfl) ?_
      refine lv_iconst (v := 1) hx hb dX0_changeSetting_24 (by decide) ?_
      refine lv_icmp_ne (tgt := 41) hx hb dX0_changeSetting_25 (by decide) (fun c2 => ?_) (fun c2 => ?_)
      · replace hc := ite_f c2 hc
        refine lv_iconst (v := 0) hx hb dX0_changeSetting_41 (by decide) ?_
        refine lv_istore_n (lv' := [(3, .int 0), (0, .ref (a 0)), (1, .int p1), (2, .int p2)]) hx hb dX0_changeSetting_42 rfl hl (by decide) rfl (fun ls hl => ?_)
        refine lv_iload_n hx hb dX0_changeSetting_43 rfl (lv_at hl 0 rfl) ?_
        refine lv_if_ne (tgt := 49) hx hb dX0_changeSetting_44 (by decide) (fun c9 => absurd c9 (by decide)) (fun _ => ?_)
        refine lv_iconst (v := (-1)) hx hb dX0_changeSetting_47 (by decide) ?_
        exact hend H locs _ _ _ _ (some_fst hc) (some_snd hc) rfl hP hD hS dX0_changeSetting_48
      · replace hc := ite_t c2 hc
        refine lv_iload_n hx hb dX0_changeSetting_28 rfl (lv_at hl 2 rfl) ?_
        refine lv_if_eq (tgt := 37) hx hb dX0_changeSetting_29 (by decide) (fun c3 => ?_) (fun c3 => ?_)
        · replace hc := ite_t c3 hc
          refine lv_iconst (v := 1) hx hb dX0_changeSetting_37 (by decide) ?_
          refine lv_goto (tgt := 42) hx hb dX0_changeSetting_38 (by decide) ?_
          refine lv_istore_n (lv' := [(3, .int 1), (0, .ref (a 0)), (1, .int p1), (2, .int p2)]) hx hb dX0_changeSetting_42 rfl hl (by decide) rfl (fun ls hl => ?_)
          refine lv_iload_n hx hb dX0_changeSetting_43 rfl (lv_at hl 0 rfl) ?_
          refine lv_if_ne (tgt := 49) hx hb dX0_changeSetting_44 (by decide) (fun _ => ?_) (fun c9 => absurd c9 (by decide))
          refine lv_aload_n hx hb dX0_changeSetting_49 rfl (lv_at hl 1 rfl) ?_
          refine va_get (ci := 0) (v := .ref (a 4)) (C := RX0) (T := TX0) (N := 10) hx hb hts inw_X0 hown hK.1 hP 0 rfl rfl 3 (by decide) fl_22 (fun _ h9 => h9) rfl dX0_changeSetting_50 ?_
          refine lv_iload_n hx hb dX0_changeSetting_53 rfl (lv_at hl 2 rfl) ?_
          obtain ⟨x4, hi4, hv4, hc⟩ := rd_some hc
          refine g_iald (x := x4) hx hb hK hP 4 rfl hi4 hv4 dX0_changeSetting_54 ?_
          refine lv_istore (lv' := [(4, .int x4), (3, .int 1), (0, .ref (a 0)), (1, .int p1), (2, .int p2)]) hx hb dX0_changeSetting_55 hl (by decide) rfl (fun ls hl => ?_)
          refine lv_aload_n hx hb dX0_changeSetting_57 rfl (lv_at hl 2 rfl) ?_
          refine va_get (ci := 0) (v := .ref (a 4)) (C := RX0) (T := TX0) (N := 10) hx hb hts inw_X0 hown hK.1 hP 0 rfl rfl 3 (by decide) fl_22 (fun _ h9 => h9) rfl dX0_changeSetting_58 ?_
          refine lv_iload_n hx hb dX0_changeSetting_61 rfl (lv_at hl 3 rfl) ?_
          refine lv_iload_n hx hb dX0_changeSetting_62 rfl (lv_at hl 4 rfl) ?_
          obtain ⟨V5, hi5, eV5, hc⟩ := wr_some hc
          refine g_iast (w' := FW cy a V5) hx hb hK hP hD hS 4 rfl hi5 (by rw [← eV5]; rfl) dX0_changeSetting_63 (fun H locs hP hD hS => ?_)
          refine lv_iload hx hb dX0_changeSetting_64 (lv_at hl 0 rfl) ?_
          exact hend H locs _ _ _ _ (some_fst hc) (some_snd hc) rfl hP hD hS dX0_changeSetting_66
        · replace hc := ite_f c3 hc
          refine lv_iload_n hx hb dX0_changeSetting_32 rfl (lv_at hl 2 rfl) ?_
          refine lv_iconst (v := 1) hx hb dX0_changeSetting_33 (by decide) ?_
          refine lv_icmp_ne (tgt := 41) hx hb dX0_changeSetting_34 (by decide) (fun c6 => ?_) (fun c6 => ?_)
          · replace hc := ite_f c6 hc
            refine lv_iconst (v := 0) hx hb dX0_changeSetting_41 (by decide) ?_
            refine lv_istore_n (lv' := [(3, .int 0), (0, .ref (a 0)), (1, .int p1), (2, .int p2)]) hx hb dX0_changeSetting_42 rfl hl (by decide) rfl (fun ls hl => ?_)
            refine lv_iload_n hx hb dX0_changeSetting_43 rfl (lv_at hl 0 rfl) ?_
            refine lv_if_ne (tgt := 49) hx hb dX0_changeSetting_44 (by decide) (fun c9 => absurd c9 (by decide)) (fun _ => ?_)
            refine lv_iconst (v := (-1)) hx hb dX0_changeSetting_47 (by decide) ?_
            exact hend H locs _ _ _ _ (some_fst hc) (some_snd hc) rfl hP hD hS dX0_changeSetting_48
          · replace hc := ite_t c6 hc
            refine lv_iconst (v := 1) hx hb dX0_changeSetting_37 (by decide) ?_
            refine lv_goto (tgt := 42) hx hb dX0_changeSetting_38 (by decide) ?_
            refine lv_istore_n (lv' := [(3, .int 1), (0, .ref (a 0)), (1, .int p1), (2, .int p2)]) hx hb dX0_changeSetting_42 rfl hl (by decide) rfl (fun ls hl => ?_)
            refine lv_iload_n hx hb dX0_changeSetting_43 rfl (lv_at hl 0 rfl) ?_
            refine lv_if_ne (tgt := 49) hx hb dX0_changeSetting_44 (by decide) (fun _ => ?_) (fun c9 => absurd c9 (by decide))
            refine lv_aload_n hx hb dX0_changeSetting_49 rfl (lv_at hl 1 rfl) ?_
            refine va_get (ci := 0) (v := .ref (a 4)) (C := RX0) (T := TX0) (N := 10) hx hb hts inw_X0 hown hK.1 hP 0 rfl rfl 3 (by decide) fl_22 (fun _ h9 => h9) rfl dX0_changeSetting_50 ?_
            refine lv_iload_n hx hb dX0_changeSetting_53 rfl (lv_at hl 2 rfl) ?_
            obtain ⟨x7, hi7, hv7, hc⟩ := rd_some hc
            refine g_iald (x := x7) hx hb hK hP 4 rfl hi7 hv7 dX0_changeSetting_54 ?_
            refine lv_istore (lv' := [(4, .int x7), (3, .int 1), (0, .ref (a 0)), (1, .int p1), (2, .int p2)]) hx hb dX0_changeSetting_55 hl (by decide) rfl (fun ls hl => ?_)
            refine lv_aload_n hx hb dX0_changeSetting_57 rfl (lv_at hl 2 rfl) ?_
            refine va_get (ci := 0) (v := .ref (a 4)) (C := RX0) (T := TX0) (N := 10) hx hb hts inw_X0 hown hK.1 hP 0 rfl rfl 3 (by decide) fl_22 (fun _ h9 => h9) rfl dX0_changeSetting_58 ?_
            refine lv_iload_n hx hb dX0_changeSetting_61 rfl (lv_at hl 3 rfl) ?_
            refine lv_iload_n hx hb dX0_changeSetting_62 rfl (lv_at hl 4 rfl) ?_
            obtain ⟨V8, hi8, eV8, hc⟩ := wr_some hc
            refine g_iast (w' := FW cy a V8) hx hb hK hP hD hS 4 rfl hi8 (by rw [← eV8]; rfl) dX0_changeSetting_63 (fun H locs hP hD hS => ?_)
            refine lv_iload hx hb dX0_changeSetting_64 (lv_at hl 0 rfl) ?_
            exact hend H locs _ _ _ _ (some_fst hc) (some_snd hc) rfl hP hD hS dX0_changeSetting_66
    · replace hc := ite_t c1 hc
      refine lv_iload_n hx hb dX0_changeSetting_4 rfl (lv_at hl 2 rfl) ?_
      refine lv_iconst (v := 4) hx hb dX0_changeSetting_5 (by decide) ?_
      refine lv_icmp_lt (tgt := 19) hx hb dX0_changeSetting_6 (by decide) (fun c9 => ?_) (fun c9 => ?_)
      · replace hc := ite_t c9 hc
        refine lv_iconst (v := 0) hx hb dX0_changeSetting_19 (by decide) ?_
        refine lv_goto (tgt := 42) hx hb dX0_changeSetting_20 (by decide) ?_
        refine lv_istore_n (lv' := [(3, .int 0), (0, .ref (a 0)), (1, .int p1), (2, .int p2)]) hx hb dX0_changeSetting_42 rfl hl (by decide) rfl (fun ls hl => ?_)
        refine lv_iload_n hx hb dX0_changeSetting_43 rfl (lv_at hl 0 rfl) ?_
        refine lv_if_ne (tgt := 49) hx hb dX0_changeSetting_44 (by decide) (fun c9 => absurd c9 (by decide)) (fun _ => ?_)
        refine lv_iconst (v := (-1)) hx hb dX0_changeSetting_47 (by decide) ?_
        exact hend H locs _ _ _ _ (some_fst hc) (some_snd hc) rfl hP hD hS dX0_changeSetting_48
      · replace hc := ite_f c9 hc
        refine lv_iload_n hx hb dX0_changeSetting_9 rfl (lv_at hl 2 rfl) ?_
        refine lv_bipush (v := 100) hx hb dX0_changeSetting_10 (by decide +kernel) ?_
        refine lv_icmp_gt (tgt := 19) hx hb dX0_changeSetting_12 (by decide) (fun c10 => ?_) (fun c10 => ?_)
        · replace hc := ite_t c10 hc
          refine lv_iconst (v := 0) hx hb dX0_changeSetting_19 (by decide) ?_
          refine lv_goto (tgt := 42) hx hb dX0_changeSetting_20 (by decide) ?_
          refine lv_istore_n (lv' := [(3, .int 0), (0, .ref (a 0)), (1, .int p1), (2, .int p2)]) hx hb dX0_changeSetting_42 rfl hl (by decide) rfl (fun ls hl => ?_)
          refine lv_iload_n hx hb dX0_changeSetting_43 rfl (lv_at hl 0 rfl) ?_
          refine lv_if_ne (tgt := 49) hx hb dX0_changeSetting_44 (by decide) (fun c9 => absurd c9 (by decide)) (fun _ => ?_)
          refine lv_iconst (v := (-1)) hx hb dX0_changeSetting_47 (by decide) ?_
          exact hend H locs _ _ _ _ (some_fst hc) (some_snd hc) rfl hP hD hS dX0_changeSetting_48
        · replace hc := ite_f c10 hc
          refine lv_iconst (v := 1) hx hb dX0_changeSetting_15 (by decide) ?_
          refine lv_goto (tgt := 42) hx hb dX0_changeSetting_16 (by decide) ?_
          refine lv_istore_n (lv' := [(3, .int 1), (0, .ref (a 0)), (1, .int p1), (2, .int p2)]) hx hb dX0_changeSetting_42 rfl hl (by decide) rfl (fun ls hl => ?_)
          refine lv_iload_n hx hb dX0_changeSetting_43 rfl (lv_at hl 0 rfl) ?_
          refine lv_if_ne (tgt := 49) hx hb dX0_changeSetting_44 (by decide) (fun _ => ?_) (fun c9 => absurd c9 (by decide))
          refine lv_aload_n hx hb dX0_changeSetting_49 rfl (lv_at hl 1 rfl) ?_
          refine va_get (ci := 0) (v := .ref (a 4)) (C := RX0) (T := TX0) (N := 10) hx hb hts inw_X0 hown hK.1 hP 0 rfl rfl 3 (by decide) fl_22 (fun _ h9 => h9) rfl dX0_changeSetting_50 ?_
          refine lv_iload_n hx hb dX0_changeSetting_53 rfl (lv_at hl 2 rfl) ?_
          obtain ⟨x11, hi11, hv11, hc⟩ := rd_some hc
          refine g_iald (x := x11) hx hb hK hP 4 rfl hi11 hv11 dX0_changeSetting_54 ?_
          refine lv_istore (lv' := [(4, .int x11), (3, .int 1), (0, .ref (a 0)), (1, .int p1), (2, .int p2)]) hx hb dX0_changeSetting_55 hl (by decide) rfl (fun ls hl => ?_)
          refine lv_aload_n hx hb dX0_changeSetting_57 rfl (lv_at hl 2 rfl) ?_
          refine va_get (ci := 0) (v := .ref (a 4)) (C := RX0) (T := TX0) (N := 10) hx hb hts inw_X0 hown hK.1 hP 0 rfl rfl 3 (by decide) fl_22 (fun _ h9 => h9) rfl dX0_changeSetting_58 ?_
          refine lv_iload_n hx hb dX0_changeSetting_61 rfl (lv_at hl 3 rfl) ?_
          refine lv_iload_n hx hb dX0_changeSetting_62 rfl (lv_at hl 4 rfl) ?_
          obtain ⟨V12, hi12, eV12, hc⟩ := wr_some hc
          refine g_iast (w' := FW cy a V12) hx hb hK hP hD hS 4 rfl hi12 (by rw [← eV12]; rfl) dX0_changeSetting_63 (fun H locs hP hD hS => ?_)
          refine lv_iload hx hb dX0_changeSetting_64 (lv_at hl 0 rfl) ?_
          exact hend H locs _ _ _ _ (some_fst hc) (some_snd hc) rfl hP hD hS dX0_changeSetting_66
  rw [hHe, hLe] at goal0
  exact goal0
end
section
set_option maxHeartbeats 4000000 in
set_option maxRecDepth 100000 in
theorem C_X0_flowIn (l : Launch) (D : va_G) (cy : Nat → ClassId) (a : Nat → Nat) (V : FV) (V' : FV) (hc : f_X0_flowIn V = some V') : ConV l yX0_flowIn wsX0_flowIn 1 23 D cy (FW cy a) [.ref (a 0)] V V' := by
  refine bodyV (cc := cX0_flowIn) (maxL := 5) (by decide +kernel) rfl (Nat.le_of_ble_eq_true rfl) ?_
  intro p e s m args below meth c A Q hx hb hml hts hown hK hP hD hA hS hend ls hl
  have hown : s.vm.findClass RX0 = some m.cls := hown
  have hP : va_P D vwCl (FW cy a V) s.heap := hP
  have hD : va_D A (FW cy a V) := hD
  have hl : lv_has ls 5 [(0, .ref (a 0))] := hl
  have hend : ∀ (H : Heap) (locs : List Loc) (pc : Nat) (ls : Array Slot) (V : FV), V = V' → va_P D vwCl (FW cy a V) H → va_D A (FW cy a V) → va_S A s.heap H locs → decode cX0_flowIn pc = .ok (.return_, 1) → W p l e (RM 1 23) s m args below meth c H locs 0 0 Q (F0 m pc ls []) := fun H locs pc ls V h1 h2 h3 h4 h5 => hend H locs pc ls V h1 h2 h3 h4 h5
  have fl_43 := hts (.fieldLink RX0 43 "NoonWells$Field" "time" "I") (by decide +kernel)
  have inw_X0 := (by decide +kernel : ∀ w ∈ u_ws RX0 TX0 10, w ∈ wsX0_flowIn)
  have fl_33 := hts (.fieldLink RX0 33 "NoonWells$Field" "wellCount" "I") (by decide +kernel)
  have fl_11 := hts (.fieldLink RX0 11 "NoonWells$Field" "wells" "[[I") (by decide +kernel)
  have mm_l := hts (.methodLink RX0 49 Lib.Math.min.name) (by decide +kernel)
  have mm_s := hts (.static Lib.Math.min.name) (by decide +kernel)
  have mm_i := hts (.initialized "java/lang/Math") (by decide +kernel)
  have mm_c := hts (.code Lib.Math.min.name Lib.Math.min.code 2 (some .int)) (by decide +kernel)
  have L11 : ∀ (n : Nat), ∀ (y1 y2 : Int32) (V : FV) (H : Heap) (locs : List Loc) (ls : Array Slot), f_X0_flowIn_L11 n y1 y2 V = some V' → va_P D vwCl (FW cy a V) H → va_D A (FW cy a V) → va_S A s.heap H locs → lv_has ls 5 [(0, .ref (a 0)), (1, .int y1), (2, .int y2)] → W p l e (RM 1 23) s m args below meth c H locs 0 0 Q (F0 m 11 ls []) := by
    intro n
    induction n with
    | zero =>
      intro y1 y2 V H locs ls hc
      cases hc
    | succ n ih =>
      intro y1 y2 V H locs ls hc hP hD hS hl
      refine lv_iload_n hx hb dX0_flowIn_11 rfl (lv_at hl 2 rfl) ?_
      refine lv_aload_n hx hb dX0_flowIn_12 rfl (lv_at hl 0 rfl) ?_
      refine va_get (ci := 0) (v := .int (V 0 0)) (C := RX0) (T := TX0) (N := 10) hx hb hts inw_X0 hown hK.1 hP 0 rfl rfl 5 (by decide) fl_33 (fun _ h9 => h9) rfl dX0_flowIn_13 ?_
      refine lv_icmp_ge (tgt := 96) hx hb dX0_flowIn_16 (by decide) (fun c2 => ?_) (fun c2 => ?_)
      · replace hc := ite_t c2 hc
        exact hend H locs _ _ _ (some_one hc) hP hD hS dX0_flowIn_96
      · replace hc := ite_f c2 hc
        refine lv_iload_n hx hb dX0_flowIn_19 rfl (lv_at hl 1 rfl) ?_
        refine lv_iload_n hx hb dX0_flowIn_20 rfl (lv_at hl 2 rfl) ?_
        refine lv_ishr hx hb dX0_flowIn_21 ?_
        refine lv_iconst (v := 1) hx hb dX0_flowIn_22 (by decide) ?_
        refine lv_iand hx hb dX0_flowIn_23 ?_
        refine lv_if_ne (tgt := 90) hx hb dX0_flowIn_24 (by decide) (fun c3 => ?_) (fun c3 => ?_)
        · replace hc := ite_f c3 hc
          refine lv_iinc (v := y2 + 1) (lv' := [(2, .int (y2 + 1)), (0, .ref (a 0)), (1, .int y1)]) hx hb dX0_flowIn_90 hl (k := 2) rfl rfl (by decide) rfl (fun ls hl => ?_)
          refine lv_goto (tgt := 11) hx hb dX0_flowIn_93 (by decide) ?_
          exact ih y1 (y2 + 1) V H locs ls hc hP hD hS (lv_sub hl [1, 2, 0] rfl)
        · replace hc := ite_t c3 hc
          refine lv_aload_n hx hb dX0_flowIn_27 rfl (lv_at hl 0 rfl) ?_
          refine va_get (ci := 0) (v := .ref (a 1)) (C := RX0) (T := TX0) (N := 10) hx hb hts inw_X0 hown hK.1 hP 0 rfl rfl 0 (by decide) fl_11 (fun _ h9 => h9) rfl dX0_flowIn_28 ?_
          refine lv_iconst (v := 2) hx hb dX0_flowIn_31 (by decide) ?_
          refine g_aald (v := a 8) hx hb hK hP 1 rfl (vp_lit (by decide)) rfl dX0_flowIn_32 ?_
          refine lv_iload_n hx hb dX0_flowIn_33 rfl (lv_at hl 2 rfl) ?_
          obtain ⟨x4, hi4, hv4, hc⟩ := rd_some hc
          refine g_iald (x := x4) hx hb hK hP 8 rfl hi4 hv4 dX0_flowIn_34 ?_
          refine lv_istore_n (lv' := [(3, .int x4), (0, .ref (a 0)), (1, .int y1), (2, .int y2)]) hx hb dX0_flowIn_35 rfl hl (by decide) rfl (fun ls hl => ?_)
          refine lv_iload_n hx hb dX0_flowIn_36 rfl (lv_at hl 0 rfl) ?_
          refine lv_aload_n hx hb dX0_flowIn_37 rfl (lv_at hl 1 rfl) ?_
          refine lv_iload_n hx hb dX0_flowIn_38 rfl (lv_at hl 3 rfl) ?_
          obtain ⟨x5, hc5, hc⟩ := b1_some hc
          refine gc_VI (n := 1) (ci := 0) (w' := FW cy a V) hx hb hml hown hts hK hP hD hS hA hl.1 ⟨Nat.le_refl _, Nat.le_refl _⟩ (C_X0_roomIn l D cy a V y2 x5 hc5) gX0_flowIn_X0_roomIn rfl (by decide +kernel) rfl ⟨by decide, by decide⟩ Jn.same rfl rfl rfl (Nat.le_of_ble_eq_true rfl) dX0_flowIn_39 (fun H locs hP hD hS => ?_)
          obtain ⟨x6, ex6, hc⟩ := lt1_some hc
          refine g_min ex6 hx hb hml hl.1 hown mm_l mm_s mm_i mm_c (Nat.le_of_ble_eq_true rfl) (Nat.le_of_ble_eq_true rfl) (Nat.le_refl _) (Nat.le_refl _) dX0_flowIn_42 ?_
          refine lv_istore (lv' := [(4, .int x6), (3, .int x4), (0, .ref (a 0)), (1, .int y1), (2, .int y2)]) hx hb dX0_flowIn_45 hl (by decide) rfl (fun ls hl => ?_)
          refine lv_aload_n hx hb dX0_flowIn_47 rfl (lv_at hl 2 rfl) ?_
          refine va_get (ci := 0) (v := .ref (a 1)) (C := RX0) (T := TX0) (N := 10) hx hb hts inw_X0 hown hK.1 hP 0 rfl rfl 0 (by decide) fl_11 (fun _ h9 => h9) rfl dX0_flowIn_48 ?_
          refine lv_iconst (v := 4) hx hb dX0_flowIn_51 (by decide) ?_
          refine g_aald (v := a 10) hx hb hK hP 1 rfl (vp_lit (by decide)) rfl dX0_flowIn_52 ?_
          refine lv_iload_n hx hb dX0_flowIn_53 rfl (lv_at hl 4 rfl) ?_
          refine lv_dup2_11 hx hb dX0_flowIn_54 rfl rfl ?_
          obtain ⟨x7, hi7, hv7, hc⟩ := rd_some hc
          refine g_iald (x := x7) hx hb hK hP 10 rfl hi7 hv7 dX0_flowIn_55 ?_
          refine lv_iload hx hb dX0_flowIn_56 (lv_at hl 0 rfl) ?_
          refine lv_iadd hx hb dX0_flowIn_58 ?_
          obtain ⟨V8, hi8, eV8, hc⟩ := wr_some hc
          refine g_iast (w' := FW cy a V8) hx hb hK hP hD hS 10 rfl hi8 (by rw [← eV8]; rfl) dX0_flowIn_59 (fun H locs hP hD hS => ?_)
          refine lv_aload_n hx hb dX0_flowIn_60 rfl (lv_at hl 2 rfl) ?_
          refine va_get (ci := 0) (v := .ref (a 1)) (C := RX0) (T := TX0) (N := 10) hx hb hts inw_X0 hown hK.1 hP 0 rfl rfl 0 (by decide) fl_11 (fun _ h9 => h9) rfl dX0_flowIn_61 ?_
          refine lv_bipush (v := 6) hx hb dX0_flowIn_64 (by decide +kernel) ?_
          refine g_aald (v := a 12) hx hb hK hP 1 rfl (vp_lit (by decide)) rfl dX0_flowIn_66 ?_
          refine lv_iload_n hx hb dX0_flowIn_67 rfl (lv_at hl 4 rfl) ?_
          refine lv_dup2_11 hx hb dX0_flowIn_68 rfl rfl ?_
          obtain ⟨x9, hi9, hv9, hc⟩ := rd_some hc
          refine g_iald (x := x9) hx hb hK hP 12 rfl hi9 hv9 dX0_flowIn_69 ?_
          refine lv_iload hx hb dX0_flowIn_70 (lv_at hl 0 rfl) ?_
          refine lv_iadd hx hb dX0_flowIn_72 ?_
          obtain ⟨V10, hi10, eV10, hc⟩ := wr_some hc
          refine g_iast (w' := FW cy a V10) hx hb hK hP hD hS 12 rfl hi10 (by rw [← eV10]; rfl) dX0_flowIn_73 (fun H locs hP hD hS => ?_)
          refine lv_aload_n hx hb dX0_flowIn_74 rfl (lv_at hl 2 rfl) ?_
          refine va_get (ci := 0) (v := .ref (a 1)) (C := RX0) (T := TX0) (N := 10) hx hb hts inw_X0 hown hK.1 hP 0 rfl rfl 0 (by decide) fl_11 (fun _ h9 => h9) rfl dX0_flowIn_75 ?_
          refine lv_bipush (v := 7) hx hb dX0_flowIn_78 (by decide +kernel) ?_
          refine g_aald (v := a 13) hx hb hK hP 1 rfl (vp_lit (by decide)) rfl dX0_flowIn_80 ?_
          refine lv_iload_n hx hb dX0_flowIn_81 rfl (lv_at hl 4 rfl) ?_
          refine lv_dup2_11 hx hb dX0_flowIn_82 rfl rfl ?_
          obtain ⟨x11, hi11, hv11, hc⟩ := rd_some hc
          refine g_iald (x := x11) hx hb hK hP 13 rfl hi11 hv11 dX0_flowIn_83 ?_
          refine lv_iload_n hx hb dX0_flowIn_84 rfl (lv_at hl 1 rfl) ?_
          refine lv_iload hx hb dX0_flowIn_85 (lv_at hl 0 rfl) ?_
          refine lv_isub hx hb dX0_flowIn_87 ?_
          refine lv_iadd hx hb dX0_flowIn_88 ?_
          obtain ⟨V12, hi12, eV12, hc⟩ := wr_some hc
          refine g_iast (w' := FW cy a V12) hx hb hK hP hD hS 13 rfl hi12 (by rw [← eV12]; rfl) dX0_flowIn_89 (fun H locs hP hD hS => ?_)
          refine lv_iinc (v := y2 + 1) (lv' := [(2, .int (y2 + 1)), (4, .int x6), (3, .int x4), (0, .ref (a 0)), (1, .int y1)]) hx hb dX0_flowIn_90 hl (k := 4) rfl rfl (by decide) rfl (fun ls hl => ?_)
          refine lv_goto (tgt := 11) hx hb dX0_flowIn_93 (by decide) ?_
          exact ih y1 (y2 + 1) V12 H locs ls hc hP hD hS (lv_sub hl [3, 4, 0] rfl)
  obtain ⟨H, hHe⟩ : ∃ H : Heap, H = s.heap := ⟨_, rfl⟩
  obtain ⟨locs, hLe⟩ : ∃ x : List Loc, x = [] := ⟨_, rfl⟩
  have hP : va_P D vwCl (FW cy a V) H := by rw [hHe]; exact hP
  have hS : va_S A s.heap H locs := by rw [hHe, hLe]; exact hS
  have goal0 : W p l e (RM 1 23) s m args below meth c H locs 0 0 Q (F0 m 0 ls []) := by
    refine lv_aload_n hx hb dX0_flowIn_0 rfl (lv_at hl 0 rfl) ?_
    refine lv_aload_n hx hb dX0_flowIn_1 rfl (lv_at hl 0 rfl) ?_
    refine va_get (ci := 0) (v := .int (V 0 3)) (C := RX0) (T := TX0) (N := 10) hx hb hts inw_X0 hown hK.1 hP 0 rfl rfl 8 (by decide) fl_43 (fun _ h9 => h9) rfl dX0_flowIn_2 ?_
    obtain ⟨x1, hc1, hc⟩ := b1_some hc
    refine gc_VI (n := 1) (ci := 0) (w' := FW cy a V) hx hb hml hown hts hK hP hD hS hA hl.1 ⟨Nat.le_refl _, Nat.le_refl _⟩ (C_X0_dryWells l D cy a V (V 0 3) x1 hc1) gX0_flowIn_X0_dryWells rfl (by decide +kernel) rfl ⟨by decide, by decide⟩ Jn.same rfl rfl rfl (Nat.le_of_ble_eq_true rfl) dX0_flowIn_5 (fun H locs hP hD hS => ?_)
    refine lv_istore_n (lv' := [(1, .int x1), (0, .ref (a 0))]) hx hb dX0_flowIn_8 rfl hl (by decide) rfl (fun ls hl => ?_)
    refine lv_iconst (v := 0) hx hb dX0_flowIn_9 (by decide) ?_
    refine lv_istore_n (lv' := [(2, .int 0), (1, .int x1), (0, .ref (a 0))]) hx hb dX0_flowIn_10 rfl hl (by decide) rfl (fun ls hl => ?_)
    exact L11 FUEL x1 0 V H locs ls hc hP hD hS (lv_sub hl [2, 1, 0] rfl)
  rw [hHe, hLe] at goal0
  exact goal0
set_option maxHeartbeats 4000000 in
set_option maxRecDepth 100000 in
theorem C_X0_lendAtNoon (l : Launch) (D : va_G) (cy : Nat → ClassId) (a : Nat → Nat) (V : FV) (r : Int32) (V' : FV) (hc : f_X0_lendAtNoon V = some (r, V')) : ConI l yX0_lendAtNoon wsX0_lendAtNoon 1 21 D cy (FW cy a) [.ref (a 0)] V V' r := by
  refine bodyI (cc := cX0_lendAtNoon) (maxL := 6) (ty := .int) (by decide +kernel) rfl (Nat.le_of_ble_eq_true rfl) ?_
  intro p e s m args below meth c A Q hx hb hml hts hown hK hP hD hA hS hend ls hl
  have hown : s.vm.findClass RX0 = some m.cls := hown
  have hP : va_P D vwCl (FW cy a V) s.heap := hP
  have hD : va_D A (FW cy a V) := hD
  have hl : lv_has ls 6 [(0, .ref (a 0))] := hl
  have hend : ∀ (H : Heap) (locs : List Loc) (pc : Nat) (ls : Array Slot) (v : Int32) (V : FV), v = r → V = V' → narrow .int (.int v) = .int v → va_P D vwCl (FW cy a V) H → va_D A (FW cy a V) → va_S A s.heap H locs → decode cX0_lendAtNoon pc = .ok (.ireturn, 1) → W p l e (RM 1 21) s m args below meth c H locs 0 0 Q (F0 m pc ls [.int v]) := fun H locs pc ls v V h1 h2 h3 h4 h5 h6 h7 => hend H locs pc ls v V h1 h2 h3 h4 h5 h6 h7
  have fl_33 := hts (.fieldLink RX0 33 "NoonWells$Field" "wellCount" "I") (by decide +kernel)
  have inw_X0 := (by decide +kernel : ∀ w ∈ u_ws RX0 TX0 10, w ∈ wsX0_lendAtNoon)
  have fl_11 := hts (.fieldLink RX0 11 "NoonWells$Field" "wells" "[[I") (by decide +kernel)
  have mm_l := hts (.methodLink RX0 49 Lib.Math.min.name) (by decide +kernel)
  have mm_s := hts (.static Lib.Math.min.name) (by decide +kernel)
  have mm_i := hts (.initialized "java/lang/Math") (by decide +kernel)
  have mm_c := hts (.code Lib.Math.min.name Lib.Math.min.code 2 (some .int)) (by decide +kernel)
  have L9 : ∀ (n : Nat), ∀ (y1 y2 : Int32) (V : FV) (H : Heap) (locs : List Loc) (ls : Array Slot), f_X0_lendAtNoon_L9 n y1 y2 V = some (r, V') → va_P D vwCl (FW cy a V) H → va_D A (FW cy a V) → va_S A s.heap H locs → lv_has ls 6 [(0, .ref (a 0)), (1, .int y1), (2, .int y2)] → W p l e (RM 1 21) s m args below meth c H locs 0 0 Q (F0 m 9 ls []) := by
    intro n
    induction n with
    | zero =>
      intro y1 y2 V H locs ls hc
      cases hc
    | succ n ih =>
      intro y1 y2 V H locs ls hc hP hD hS hl
      refine lv_iload_n hx hb dX0_lendAtNoon_9 rfl (lv_at hl 2 rfl) ?_
      refine lv_if_le (tgt := 137) hx hb dX0_lendAtNoon_10 (by decide) (fun c1 => ?_) (fun c1 => ?_)
      · replace hc := ite_t c1 hc
        refine lv_iload_n hx hb dX0_lendAtNoon_137 rfl (lv_at hl 1 rfl) ?_
        exact hend H locs _ _ _ _ (some_fst hc) (some_snd hc) rfl hP hD hS dX0_lendAtNoon_138
      · replace hc := ite_f c1 hc
        refine lv_aload_n hx hb dX0_lendAtNoon_13 rfl (lv_at hl 0 rfl) ?_
        refine va_get (ci := 0) (v := .ref (a 1)) (C := RX0) (T := TX0) (N := 10) hx hb hts inw_X0 hown hK.1 hP 0 rfl rfl 0 (by decide) fl_11 (fun _ h9 => h9) rfl dX0_lendAtNoon_14 ?_
        refine lv_iconst (v := 0) hx hb dX0_lendAtNoon_17 (by decide) ?_
        refine g_aald (v := a 6) hx hb hK hP 1 rfl (vp_lit (by decide)) rfl dX0_lendAtNoon_18 ?_
        refine lv_iload_n hx hb dX0_lendAtNoon_19 rfl (lv_at hl 2 rfl) ?_
        obtain ⟨x2, hi2, hv2, hc⟩ := rd_some hc
        refine g_iald (x := x2) hx hb hK hP 6 rfl hi2 hv2 dX0_lendAtNoon_20 ?_
        refine lv_istore_n (lv' := [(3, .int x2), (0, .ref (a 0)), (1, .int y1), (2, .int y2)]) hx hb dX0_lendAtNoon_21 rfl hl (by decide) rfl (fun ls hl => ?_)
        refine lv_aload_n hx hb dX0_lendAtNoon_22 rfl (lv_at hl 1 rfl) ?_
        refine va_get (ci := 0) (v := .ref (a 1)) (C := RX0) (T := TX0) (N := 10) hx hb hts inw_X0 hown hK.1 hP 0 rfl rfl 0 (by decide) fl_11 (fun _ h9 => h9) rfl dX0_lendAtNoon_23 ?_
        refine lv_iconst (v := 4) hx hb dX0_lendAtNoon_26 (by decide) ?_
        refine g_aald (v := a 10) hx hb hK hP 1 rfl (vp_lit (by decide)) rfl dX0_lendAtNoon_27 ?_
        refine lv_iload_n hx hb dX0_lendAtNoon_28 rfl (lv_at hl 3 rfl) ?_
        obtain ⟨x3, hi3, hv3, hc⟩ := rd_some hc
        refine g_iald (x := x3) hx hb hK hP 10 rfl hi3 hv3 dX0_lendAtNoon_29 ?_
        refine lv_aload_n hx hb dX0_lendAtNoon_30 rfl (lv_at hl 1 rfl) ?_
        refine va_get (ci := 0) (v := .ref (a 1)) (C := RX0) (T := TX0) (N := 10) hx hb hts inw_X0 hown hK.1 hP 0 rfl rfl 0 (by decide) fl_11 (fun _ h9 => h9) rfl dX0_lendAtNoon_31 ?_
        refine lv_iconst (v := 1) hx hb dX0_lendAtNoon_34 (by decide) ?_
        refine g_aald (v := a 7) hx hb hK hP 1 rfl (vp_lit (by decide)) rfl dX0_lendAtNoon_35 ?_
        refine lv_iload_n hx hb dX0_lendAtNoon_36 rfl (lv_at hl 3 rfl) ?_
        obtain ⟨x4, hi4, hv4, hc⟩ := rd_some hc
        refine g_iald (x := x4) hx hb hK hP 7 rfl hi4 hv4 dX0_lendAtNoon_37 ?_
        refine lv_iconst (v := 2) hx hb dX0_lendAtNoon_38 (by decide) ?_
        refine lv_idiv hx hb dX0_lendAtNoon_39 (by decide) ?_
        refine lv_isub hx hb dX0_lendAtNoon_40 ?_
        refine lv_istore (lv' := [(4, .int (x3 - (x4 / 2))), (3, .int x2), (0, .ref (a 0)), (1, .int y1), (2, .int y2)]) hx hb dX0_lendAtNoon_41 hl (by decide) rfl (fun ls hl => ?_)
        refine lv_aload_n hx hb dX0_lendAtNoon_43 rfl (lv_at hl 2 rfl) ?_
        refine lv_iload_n hx hb dX0_lendAtNoon_44 rfl (lv_at hl 1 rfl) ?_
        obtain ⟨x5, hc5, hc⟩ := b1_some hc
        refine gc_VI (n := 1) (ci := 0) (w' := FW cy a V) hx hb hml hown hts hK hP hD hS hA hl.1 ⟨Nat.le_refl _, Nat.le_refl _⟩ (C_X0_isWell l D cy a V x2 x5 hc5) gX0_lendAtNoon_X0_isWell rfl (by decide +kernel) rfl ⟨by decide, by decide⟩ Jn.same rfl rfl rfl (Nat.le_of_ble_eq_true rfl) dX0_lendAtNoon_45 (fun H locs hP hD hS => ?_)
        refine lv_if_eq (tgt := 64) hx hb dX0_lendAtNoon_48 (by decide) (fun c6 => ?_) (fun c6 => ?_)
        · replace hc := ite_t c6 hc
          refine lv_iconst (v := 0) hx hb dX0_lendAtNoon_64 (by decide) ?_
          refine lv_istore (lv' := [(5, .int 0), (4, .int (x3 - (x4 / 2))), (3, .int x2), (0, .ref (a 0)), (1, .int y1), (2, .int y2)]) hx hb dX0_lendAtNoon_65 hl (by decide) rfl (fun ls hl => ?_)
          refine lv_iload hx hb dX0_lendAtNoon_67 (lv_at hl 0 rfl) ?_
          refine lv_if_le (tgt := 131) hx hb dX0_lendAtNoon_69 (by decide) (fun _ => ?_) (fun c9 => absurd c9 (by decide))
          refine lv_iinc (v := y2 + (-1)) (lv' := [(2, .int (y2 + (-1))), (5, .int 0), (4, .int (x3 - (x4 / 2))), (3, .int x2), (0, .ref (a 0)), (1, .int y1)]) hx hb dX0_lendAtNoon_131 hl (k := 5) rfl rfl (by decide) rfl (fun ls hl => ?_)
          refine lv_goto (tgt := 9) hx hb dX0_lendAtNoon_134 (by decide) ?_
          exact ih y1 (y2 + (-1)) V H locs ls hc hP hD hS (lv_sub hl [4, 5, 0] rfl)
        · replace hc := ite_f c6 hc
          refine lv_iload hx hb dX0_lendAtNoon_51 (lv_at hl 0 rfl) ?_
          refine lv_aload_n hx hb dX0_lendAtNoon_53 rfl (lv_at hl 2 rfl) ?_
          refine lv_iload_n hx hb dX0_lendAtNoon_54 rfl (lv_at hl 1 rfl) ?_
          obtain ⟨x7, hc7, hc⟩ := b1_some hc
          refine gc_VI (n := 1) (ci := 0) (w' := FW cy a V) hx hb hml hown hts hK hP hD hS hA hl.1 ⟨Nat.le_refl _, Nat.le_refl _⟩ (C_X0_roomIn l D cy a V x2 x7 hc7) gX0_lendAtNoon_X0_roomIn rfl (by decide +kernel) rfl ⟨by decide, by decide⟩ Jn.same rfl rfl rfl (Nat.le_of_ble_eq_true rfl) dX0_lendAtNoon_55 (fun H locs hP hD hS => ?_)
          obtain ⟨x8, ex8, hc⟩ := lt1_some hc
          refine g_min ex8 hx hb hml hl.1 hown mm_l mm_s mm_i mm_c (Nat.le_of_ble_eq_true rfl) (Nat.le_of_ble_eq_true rfl) (Nat.le_refl _) (Nat.le_refl _) dX0_lendAtNoon_58 ?_
          refine lv_goto (tgt := 65) hx hb dX0_lendAtNoon_61 (by decide) ?_
          refine lv_istore (lv' := [(5, .int x8), (4, .int (x3 - (x4 / 2))), (3, .int x2), (0, .ref (a 0)), (1, .int y1), (2, .int y2)]) hx hb dX0_lendAtNoon_65 hl (by decide) rfl (fun ls hl => ?_)
          refine lv_iload hx hb dX0_lendAtNoon_67 (lv_at hl 0 rfl) ?_
          refine lv_if_le (tgt := 131) hx hb dX0_lendAtNoon_69 (by decide) (fun c9 => ?_) (fun c9 => ?_)
          · replace hc := ite_t c9 hc
            refine lv_iinc (v := y2 + (-1)) (lv' := [(2, .int (y2 + (-1))), (5, .int x8), (4, .int (x3 - (x4 / 2))), (3, .int x2), (0, .ref (a 0)), (1, .int y1)]) hx hb dX0_lendAtNoon_131 hl (k := 5) rfl rfl (by decide) rfl (fun ls hl => ?_)
            refine lv_goto (tgt := 9) hx hb dX0_lendAtNoon_134 (by decide) ?_
            exact ih y1 (y2 + (-1)) V H locs ls hc hP hD hS (lv_sub hl [4, 5, 0] rfl)
          · replace hc := ite_f c9 hc
            refine lv_aload_n hx hb dX0_lendAtNoon_72 rfl (lv_at hl 3 rfl) ?_
            refine va_get (ci := 0) (v := .ref (a 1)) (C := RX0) (T := TX0) (N := 10) hx hb hts inw_X0 hown hK.1 hP 0 rfl rfl 0 (by decide) fl_11 (fun _ h9 => h9) rfl dX0_lendAtNoon_73 ?_
            refine lv_iconst (v := 4) hx hb dX0_lendAtNoon_76 (by decide) ?_
            refine g_aald (v := a 10) hx hb hK hP 1 rfl (vp_lit (by decide)) rfl dX0_lendAtNoon_77 ?_
            refine lv_iload_n hx hb dX0_lendAtNoon_78 rfl (lv_at hl 5 rfl) ?_
            refine lv_dup2_11 hx hb dX0_lendAtNoon_79 rfl rfl ?_
            obtain ⟨x10, hi10, hv10, hc⟩ := rd_some hc
            refine g_iald (x := x10) hx hb hK hP 10 rfl hi10 hv10 dX0_lendAtNoon_80 ?_
            refine lv_iload hx hb dX0_lendAtNoon_81 (lv_at hl 0 rfl) ?_
            refine lv_isub hx hb dX0_lendAtNoon_83 ?_
            obtain ⟨V11, hi11, eV11, hc⟩ := wr_some hc
            refine g_iast (w' := FW cy a V11) hx hb hK hP hD hS 10 rfl hi11 (by rw [← eV11]; rfl) dX0_lendAtNoon_84 (fun H locs hP hD hS => ?_)
            refine lv_aload_n hx hb dX0_lendAtNoon_85 rfl (lv_at hl 3 rfl) ?_
            refine va_get (ci := 0) (v := .ref (a 1)) (C := RX0) (T := TX0) (N := 10) hx hb hts inw_X0 hown hK.1 hP 0 rfl rfl 0 (by decide) fl_11 (fun _ h9 => h9) rfl dX0_lendAtNoon_86 ?_
            refine lv_iconst (v := 4) hx hb dX0_lendAtNoon_89 (by decide) ?_
            refine g_aald (v := a 10) hx hb hK hP 1 rfl (vp_lit (by decide)) rfl dX0_lendAtNoon_90 ?_
            refine lv_iload_n hx hb dX0_lendAtNoon_91 rfl (lv_at hl 2 rfl) ?_
            refine lv_dup2_11 hx hb dX0_lendAtNoon_92 rfl rfl ?_
            obtain ⟨x12, hi12, hv12, hc⟩ := rd_some hc
            refine g_iald (x := x12) hx hb hK hP 10 rfl hi12 hv12 dX0_lendAtNoon_93 ?_
            refine lv_iload hx hb dX0_lendAtNoon_94 (lv_at hl 0 rfl) ?_
            refine lv_iadd hx hb dX0_lendAtNoon_96 ?_
            obtain ⟨V13, hi13, eV13, hc⟩ := wr_some hc
            refine g_iast (w' := FW cy a V13) hx hb hK hP hD hS 10 rfl hi13 (by rw [← eV13]; rfl) dX0_lendAtNoon_97 (fun H locs hP hD hS => ?_)
            refine lv_aload_n hx hb dX0_lendAtNoon_98 rfl (lv_at hl 3 rfl) ?_
            refine va_get (ci := 0) (v := .ref (a 1)) (C := RX0) (T := TX0) (N := 10) hx hb hts inw_X0 hown hK.1 hP 0 rfl rfl 0 (by decide) fl_11 (fun _ h9 => h9) rfl dX0_lendAtNoon_99 ?_
            refine lv_iconst (v := 5) hx hb dX0_lendAtNoon_102 (by decide) ?_
            refine g_aald (v := a 11) hx hb hK hP 1 rfl (vp_lit (by decide)) rfl dX0_lendAtNoon_103 ?_
            refine lv_iload_n hx hb dX0_lendAtNoon_104 rfl (lv_at hl 5 rfl) ?_
            refine lv_dup2_11 hx hb dX0_lendAtNoon_105 rfl rfl ?_
            obtain ⟨x14, hi14, hv14, hc⟩ := rd_some hc
            refine g_iald (x := x14) hx hb hK hP 11 rfl hi14 hv14 dX0_lendAtNoon_106 ?_
            refine lv_iload hx hb dX0_lendAtNoon_107 (lv_at hl 0 rfl) ?_
            refine lv_iadd hx hb dX0_lendAtNoon_109 ?_
            obtain ⟨V15, hi15, eV15, hc⟩ := wr_some hc
            refine g_iast (w' := FW cy a V15) hx hb hK hP hD hS 11 rfl hi15 (by rw [← eV15]; rfl) dX0_lendAtNoon_110 (fun H locs hP hD hS => ?_)
            refine lv_aload_n hx hb dX0_lendAtNoon_111 rfl (lv_at hl 3 rfl) ?_
            refine va_get (ci := 0) (v := .ref (a 1)) (C := RX0) (T := TX0) (N := 10) hx hb hts inw_X0 hown hK.1 hP 0 rfl rfl 0 (by decide) fl_11 (fun _ h9 => h9) rfl dX0_lendAtNoon_112 ?_
            refine lv_bipush (v := 10) hx hb dX0_lendAtNoon_115 (by decide +kernel) ?_
            refine g_aald (v := a 16) hx hb hK hP 1 rfl (vp_lit (by decide)) rfl dX0_lendAtNoon_117 ?_
            refine lv_iload_n hx hb dX0_lendAtNoon_118 rfl (lv_at hl 2 rfl) ?_
            refine lv_dup2_11 hx hb dX0_lendAtNoon_119 rfl rfl ?_
            obtain ⟨x16, hi16, hv16, hc⟩ := rd_some hc
            refine g_iald (x := x16) hx hb hK hP 16 rfl hi16 hv16 dX0_lendAtNoon_120 ?_
            refine lv_iload hx hb dX0_lendAtNoon_121 (lv_at hl 0 rfl) ?_
            refine lv_iadd hx hb dX0_lendAtNoon_123 ?_
            obtain ⟨V17, hi17, eV17, hc⟩ := wr_some hc
            refine g_iast (w' := FW cy a V17) hx hb hK hP hD hS 16 rfl hi17 (by rw [← eV17]; rfl) dX0_lendAtNoon_124 (fun H locs hP hD hS => ?_)
            refine lv_iload_n hx hb dX0_lendAtNoon_125 rfl (lv_at hl 4 rfl) ?_
            refine lv_iconst (v := 1) hx hb dX0_lendAtNoon_126 (by decide) ?_
            refine lv_iload_n hx hb dX0_lendAtNoon_127 rfl (lv_at hl 5 rfl) ?_
            refine lv_ishl hx hb dX0_lendAtNoon_128 ?_
            refine lv_ior hx hb dX0_lendAtNoon_129 ?_
            refine lv_istore_n (lv' := [(1, .int (y1 ||| (1 <<< (y2 &&& 31)))), (5, .int x8), (4, .int (x3 - (x4 / 2))), (3, .int x2), (0, .ref (a 0)), (2, .int y2)]) hx hb dX0_lendAtNoon_130 rfl hl (by decide) rfl (fun ls hl => ?_)
            refine lv_iinc (v := y2 + (-1)) (lv' := [(2, .int (y2 + (-1))), (1, .int (y1 ||| (1 <<< (y2 &&& 31)))), (5, .int x8), (4, .int (x3 - (x4 / 2))), (3, .int x2), (0, .ref (a 0))]) hx hb dX0_lendAtNoon_131 hl (k := 5) rfl rfl (by decide) rfl (fun ls hl => ?_)
            refine lv_goto (tgt := 9) hx hb dX0_lendAtNoon_134 (by decide) ?_
            exact ih (y1 ||| (1 <<< (y2 &&& 31))) (y2 + (-1)) V17 H locs ls hc hP hD hS (lv_sub hl [5, 1, 0] rfl)
  obtain ⟨H, hHe⟩ : ∃ H : Heap, H = s.heap := ⟨_, rfl⟩
  obtain ⟨locs, hLe⟩ : ∃ x : List Loc, x = [] := ⟨_, rfl⟩
  have hP : va_P D vwCl (FW cy a V) H := by rw [hHe]; exact hP
  have hS : va_S A s.heap H locs := by rw [hHe, hLe]; exact hS
  have goal0 : W p l e (RM 1 21) s m args below meth c H locs 0 0 Q (F0 m 0 ls []) := by
    refine lv_iconst (v := 0) hx hb dX0_lendAtNoon_0 (by decide) ?_
    refine lv_istore_n (lv' := [(1, .int 0), (0, .ref (a 0))]) hx hb dX0_lendAtNoon_1 rfl hl (by decide) rfl (fun ls hl => ?_)
    refine lv_aload_n hx hb dX0_lendAtNoon_2 rfl (lv_at hl 1 rfl) ?_
    refine va_get (ci := 0) (v := .int (V 0 0)) (C := RX0) (T := TX0) (N := 10) hx hb hts inw_X0 hown hK.1 hP 0 rfl rfl 5 (by decide) fl_33 (fun _ h9 => h9) rfl dX0_lendAtNoon_3 ?_
    refine lv_iconst (v := 1) hx hb dX0_lendAtNoon_6 (by decide) ?_
    refine lv_isub hx hb dX0_lendAtNoon_7 ?_
    refine lv_istore_n (lv' := [(2, .int ((V 0 0) - 1)), (1, .int 0), (0, .ref (a 0))]) hx hb dX0_lendAtNoon_8 rfl hl (by decide) rfl (fun ls hl => ?_)
    exact L9 FUEL 0 ((V 0 0) - 1) V H locs ls hc hP hD hS (lv_sub hl [2, 1, 0] rfl)
  rw [hHe, hLe] at goal0
  exact goal0
set_option maxHeartbeats 4000000 in
set_option maxRecDepth 100000 in
theorem C_X0_payBack (l : Launch) (D : va_G) (cy : Nat → ClassId) (a : Nat → Nat) (V : FV) (p1 : Int32) (p2 : Int32) (V' : FV) (hc : f_X0_payBack V p1 p2 = some V') : ConV l yX0_payBack wsX0_payBack 1 21 D cy (FW cy a) [.ref (a 0), .int p1, .int p2] V V' := by
  refine bodyV (cc := cX0_payBack) (maxL := 4) (by decide +kernel) rfl (Nat.le_of_ble_eq_true rfl) ?_
  intro p e s m args below meth c A Q hx hb hml hts hown hK hP hD hA hS hend ls hl
  have hown : s.vm.findClass RX0 = some m.cls := hown
  have hP : va_P D vwCl (FW cy a V) s.heap := hP
  have hD : va_D A (FW cy a V) := hD
  have hl : lv_has ls 4 [(0, .ref (a 0)), (1, .int p1), (2, .int p2)] := hl
  have hend : ∀ (H : Heap) (locs : List Loc) (pc : Nat) (ls : Array Slot) (V : FV), V = V' → va_P D vwCl (FW cy a V) H → va_D A (FW cy a V) → va_S A s.heap H locs → decode cX0_payBack pc = .ok (.return_, 1) → W p l e (RM 1 21) s m args below meth c H locs 0 0 Q (F0 m pc ls []) := fun H locs pc ls V h1 h2 h3 h4 h5 => hend H locs pc ls V h1 h2 h3 h4 h5
  have fl_11 := hts (.fieldLink RX0 11 "NoonWells$Field" "wells" "[[I") (by decide +kernel)
  have inw_X0 := (by decide +kernel : ∀ w ∈ u_ws RX0 TX0 10, w ∈ wsX0_payBack)
  have mm_l := hts (.methodLink RX0 49 Lib.Math.min.name) (by decide +kernel)
  have mm_s := hts (.static Lib.Math.min.name) (by decide +kernel)
  have mm_i := hts (.initialized "java/lang/Math") (by decide +kernel)
  have mm_c := hts (.code Lib.Math.min.name Lib.Math.min.code 2 (some .int)) (by decide +kernel)
  obtain ⟨H, hHe⟩ : ∃ H : Heap, H = s.heap := ⟨_, rfl⟩
  obtain ⟨locs, hLe⟩ : ∃ x : List Loc, x = [] := ⟨_, rfl⟩
  have hP : va_P D vwCl (FW cy a V) H := by rw [hHe]; exact hP
  have hS : va_S A s.heap H locs := by rw [hHe, hLe]; exact hS
  have goal0 : W p l e (RM 1 21) s m args below meth c H locs 0 0 Q (F0 m 0 ls []) := by
    refine lv_aload_n hx hb dX0_payBack_0 rfl (lv_at hl 0 rfl) ?_
    refine va_get (ci := 0) (v := .ref (a 1)) (C := RX0) (T := TX0) (N := 10) hx hb hts inw_X0 hown hK.1 hP 0 rfl rfl 0 (by decide) fl_11 (fun _ h9 => h9) rfl dX0_payBack_1 ?_
    refine lv_iconst (v := 5) hx hb dX0_payBack_4 (by decide) ?_
    refine g_aald (v := a 11) hx hb hK hP 1 rfl (vp_lit (by decide)) rfl dX0_payBack_5 ?_
    refine lv_iload_n hx hb dX0_payBack_6 rfl (lv_at hl 2 rfl) ?_
    obtain ⟨x1, hi1, hv1, hc⟩ := rd_some hc
    refine g_iald (x := x1) hx hb hK hP 11 rfl hi1 hv1 dX0_payBack_7 ?_
    refine lv_aload_n hx hb dX0_payBack_8 rfl (lv_at hl 0 rfl) ?_
    refine va_get (ci := 0) (v := .ref (a 1)) (C := RX0) (T := TX0) (N := 10) hx hb hts inw_X0 hown hK.1 hP 0 rfl rfl 0 (by decide) fl_11 (fun _ h9 => h9) rfl dX0_payBack_9 ?_
    refine lv_iconst (v := 4) hx hb dX0_payBack_12 (by decide) ?_
    refine g_aald (v := a 10) hx hb hK hP 1 rfl (vp_lit (by decide)) rfl dX0_payBack_13 ?_
    refine lv_iload_n hx hb dX0_payBack_14 rfl (lv_at hl 1 rfl) ?_
    obtain ⟨x2, hi2, hv2, hc⟩ := rd_some hc
    refine g_iald (x := x2) hx hb hK hP 10 rfl hi2 hv2 dX0_payBack_15 ?_
    refine lv_aload_n hx hb dX0_payBack_16 rfl (lv_at hl 0 rfl) ?_
    refine lv_iload_n hx hb dX0_payBack_17 rfl (lv_at hl 2 rfl) ?_
    obtain ⟨x3, hc3, hc⟩ := b1_some hc
    refine gc_VI (n := 1) (ci := 0) (w' := FW cy a V) hx hb hml hown hts hK hP hD hS hA hl.1 ⟨Nat.le_refl _, Nat.le_refl _⟩ (C_X0_roomIn l D cy a V p2 x3 hc3) gX0_payBack_X0_roomIn rfl (by decide +kernel) rfl ⟨by decide, by decide⟩ Jn.same rfl rfl rfl (Nat.le_of_ble_eq_true rfl) dX0_payBack_18 (fun H locs hP hD hS => ?_)
    obtain ⟨x4, ex4, hc⟩ := lt1_some hc
    refine g_min ex4 hx hb hml hl.1 hown mm_l mm_s mm_i mm_c (Nat.le_of_ble_eq_true rfl) (Nat.le_of_ble_eq_true rfl) (Nat.le_refl _) (Nat.le_refl _) dX0_payBack_21 ?_
    obtain ⟨x5, ex5, hc⟩ := lt1_some hc
    refine g_min ex5 hx hb hml hl.1 hown mm_l mm_s mm_i mm_c (Nat.le_of_ble_eq_true rfl) (Nat.le_of_ble_eq_true rfl) (Nat.le_refl _) (Nat.le_refl _) dX0_payBack_24 ?_
    refine lv_istore_n (lv' := [(3, .int x5), (0, .ref (a 0)), (1, .int p1), (2, .int p2)]) hx hb dX0_payBack_27 rfl hl (by decide) rfl (fun ls hl => ?_)
    refine lv_aload_n hx hb dX0_payBack_28 rfl (lv_at hl 1 rfl) ?_
    refine va_get (ci := 0) (v := .ref (a 1)) (C := RX0) (T := TX0) (N := 10) hx hb hts inw_X0 hown hK.1 hP 0 rfl rfl 0 (by decide) fl_11 (fun _ h9 => h9) rfl dX0_payBack_29 ?_
    refine lv_iconst (v := 4) hx hb dX0_payBack_32 (by decide) ?_
    refine g_aald (v := a 10) hx hb hK hP 1 rfl (vp_lit (by decide)) rfl dX0_payBack_33 ?_
    refine lv_iload_n hx hb dX0_payBack_34 rfl (lv_at hl 2 rfl) ?_
    refine lv_dup2_11 hx hb dX0_payBack_35 rfl rfl ?_
    obtain ⟨x6, hi6, hv6, hc⟩ := rd_some hc
    refine g_iald (x := x6) hx hb hK hP 10 rfl hi6 hv6 dX0_payBack_36 ?_
    refine lv_iload_n hx hb dX0_payBack_37 rfl (lv_at hl 0 rfl) ?_
    refine lv_isub hx hb dX0_payBack_38 ?_
    obtain ⟨V7, hi7, eV7, hc⟩ := wr_some hc
    refine g_iast (w' := FW cy a V7) hx hb hK hP hD hS 10 rfl hi7 (by rw [← eV7]; rfl) dX0_payBack_39 (fun H locs hP hD hS => ?_)
    refine lv_aload_n hx hb dX0_payBack_40 rfl (lv_at hl 1 rfl) ?_
    refine va_get (ci := 0) (v := .ref (a 1)) (C := RX0) (T := TX0) (N := 10) hx hb hts inw_X0 hown hK.1 hP 0 rfl rfl 0 (by decide) fl_11 (fun _ h9 => h9) rfl dX0_payBack_41 ?_
    refine lv_iconst (v := 4) hx hb dX0_payBack_44 (by decide) ?_
    refine g_aald (v := a 10) hx hb hK hP 1 rfl (vp_lit (by decide)) rfl dX0_payBack_45 ?_
    refine lv_iload_n hx hb dX0_payBack_46 rfl (lv_at hl 3 rfl) ?_
    refine lv_dup2_11 hx hb dX0_payBack_47 rfl rfl ?_
    obtain ⟨x8, hi8, hv8, hc⟩ := rd_some hc
    refine g_iald (x := x8) hx hb hK hP 10 rfl hi8 hv8 dX0_payBack_48 ?_
    refine lv_iload_n hx hb dX0_payBack_49 rfl (lv_at hl 0 rfl) ?_
    refine lv_iadd hx hb dX0_payBack_50 ?_
    obtain ⟨V9, hi9, eV9, hc⟩ := wr_some hc
    refine g_iast (w' := FW cy a V9) hx hb hK hP hD hS 10 rfl hi9 (by rw [← eV9]; rfl) dX0_payBack_51 (fun H locs hP hD hS => ?_)
    refine lv_aload_n hx hb dX0_payBack_52 rfl (lv_at hl 1 rfl) ?_
    refine va_get (ci := 0) (v := .ref (a 1)) (C := RX0) (T := TX0) (N := 10) hx hb hts inw_X0 hown hK.1 hP 0 rfl rfl 0 (by decide) fl_11 (fun _ h9 => h9) rfl dX0_payBack_53 ?_
    refine lv_iconst (v := 5) hx hb dX0_payBack_56 (by decide) ?_
    refine g_aald (v := a 11) hx hb hK hP 1 rfl (vp_lit (by decide)) rfl dX0_payBack_57 ?_
    refine lv_iload_n hx hb dX0_payBack_58 rfl (lv_at hl 3 rfl) ?_
    refine lv_dup2_11 hx hb dX0_payBack_59 rfl rfl ?_
    obtain ⟨x10, hi10, hv10, hc⟩ := rd_some hc
    refine g_iald (x := x10) hx hb hK hP 11 rfl hi10 hv10 dX0_payBack_60 ?_
    refine lv_iload_n hx hb dX0_payBack_61 rfl (lv_at hl 0 rfl) ?_
    refine lv_isub hx hb dX0_payBack_62 ?_
    obtain ⟨V11, hi11, eV11, hc⟩ := wr_some hc
    refine g_iast (w' := FW cy a V11) hx hb hK hP hD hS 11 rfl hi11 (by rw [← eV11]; rfl) dX0_payBack_63 (fun H locs hP hD hS => ?_)
    refine lv_aload_n hx hb dX0_payBack_64 rfl (lv_at hl 1 rfl) ?_
    refine va_get (ci := 0) (v := .ref (a 1)) (C := RX0) (T := TX0) (N := 10) hx hb hts inw_X0 hown hK.1 hP 0 rfl rfl 0 (by decide) fl_11 (fun _ h9 => h9) rfl dX0_payBack_65 ?_
    refine lv_bipush (v := 11) hx hb dX0_payBack_68 (by decide +kernel) ?_
    refine g_aald (v := a 17) hx hb hK hP 1 rfl (vp_lit (by decide)) rfl dX0_payBack_70 ?_
    refine lv_iload_n hx hb dX0_payBack_71 rfl (lv_at hl 3 rfl) ?_
    refine lv_dup2_11 hx hb dX0_payBack_72 rfl rfl ?_
    obtain ⟨x12, hi12, hv12, hc⟩ := rd_some hc
    refine g_iald (x := x12) hx hb hK hP 17 rfl hi12 hv12 dX0_payBack_73 ?_
    refine lv_iload_n hx hb dX0_payBack_74 rfl (lv_at hl 0 rfl) ?_
    refine lv_iadd hx hb dX0_payBack_75 ?_
    obtain ⟨V13, hi13, eV13, hc⟩ := wr_some hc
    refine g_iast (w' := FW cy a V13) hx hb hK hP hD hS 17 rfl hi13 (by rw [← eV13]; rfl) dX0_payBack_76 (fun H locs hP hD hS => ?_)
    exact hend H locs _ _ _ (some_one hc) hP hD hS dX0_payBack_77
  rw [hHe, hLe] at goal0
  exact goal0
set_option maxHeartbeats 4000000 in
set_option maxRecDepth 100000 in
theorem C_X0_payBackInEvening (l : Launch) (D : va_G) (cy : Nat → ClassId) (a : Nat → Nat) (V : FV) (V' : FV) (hc : f_X0_payBackInEvening V = some V') : ConV l yX0_payBackInEvening wsX0_payBackInEvening 2 44 D cy (FW cy a) [.ref (a 0)] V V' := by
  refine bodyV (cc := cX0_payBackInEvening) (maxL := 3) (by decide +kernel) rfl (Nat.le_of_ble_eq_true rfl) ?_
  intro p e s m args below meth c A Q hx hb hml hts hown hK hP hD hA hS hend ls hl
  have hown : s.vm.findClass RX0 = some m.cls := hown
  have hP : va_P D vwCl (FW cy a V) s.heap := hP
  have hD : va_D A (FW cy a V) := hD
  have hl : lv_has ls 3 [(0, .ref (a 0))] := hl
  have hend : ∀ (H : Heap) (locs : List Loc) (pc : Nat) (ls : Array Slot) (V : FV), V = V' → va_P D vwCl (FW cy a V) H → va_D A (FW cy a V) → va_S A s.heap H locs → decode cX0_payBackInEvening pc = .ok (.return_, 1) → W p l e (RM 2 44) s m args below meth c H locs 0 0 Q (F0 m pc ls []) := fun H locs pc ls V h1 h2 h3 h4 h5 => hend H locs pc ls V h1 h2 h3 h4 h5
  have fl_33 := hts (.fieldLink RX0 33 "NoonWells$Field" "wellCount" "I") (by decide +kernel)
  have inw_X0 := (by decide +kernel : ∀ w ∈ u_ws RX0 TX0 10, w ∈ wsX0_payBackInEvening)
  have fl_11 := hts (.fieldLink RX0 11 "NoonWells$Field" "wells" "[[I") (by decide +kernel)
  have L14 : ∀ (k2 : Int32 → FV → Option (FV)) (hk2 : ∀ (y1 : Int32) (V : FV) (H : Heap) (locs : List Loc) (ls : Array Slot), k2 y1 V = some V' → va_P D vwCl (FW cy a V) H → va_D A (FW cy a V) → va_S A s.heap H locs → lv_has ls 3 [(0, .ref (a 0)), (1, .int y1)] → W p l e (RM 2 44) s m args below meth c H locs 0 0 Q (F0 m 2 ls [])) (n : Nat), ∀ (y1 y2 : Int32) (V : FV) (H : Heap) (locs : List Loc) (ls : Array Slot), f_X0_payBackInEvening_L14 k2 n y1 y2 V = some V' → va_P D vwCl (FW cy a V) H → va_D A (FW cy a V) → va_S A s.heap H locs → lv_has ls 3 [(0, .ref (a 0)), (1, .int y1), (2, .int y2)] → W p l e (RM 2 44) s m args below meth c H locs 0 0 Q (F0 m 14 ls []) := by
    intro k2 hk2 n
    induction n with
    | zero =>
      intro y1 y2 V H locs ls hc
      cases hc
    | succ n ih =>
      intro y1 y2 V H locs ls hc hP hD hS hl
      refine lv_iload_n hx hb dX0_payBackInEvening_14 rfl (lv_at hl 2 rfl) ?_
      refine lv_aload_n hx hb dX0_payBackInEvening_15 rfl (lv_at hl 0 rfl) ?_
      refine va_get (ci := 0) (v := .int (V 0 0)) (C := RX0) (T := TX0) (N := 10) hx hb hts inw_X0 hown hK.1 hP 0 rfl rfl 5 (by decide) fl_33 (fun _ h9 => h9) rfl dX0_payBackInEvening_16 ?_
      refine lv_icmp_ge (tgt := 46) hx hb dX0_payBackInEvening_19 (by decide) (fun c2 => ?_) (fun c2 => ?_)
      · replace hc := ite_t c2 hc
        refine lv_iinc (v := y1 + 1) (lv' := [(1, .int (y1 + 1)), (0, .ref (a 0)), (2, .int y2)]) hx hb dX0_payBackInEvening_46 hl (k := 1) rfl rfl (by decide) rfl (fun ls hl => ?_)
        refine lv_goto (tgt := 2) hx hb dX0_payBackInEvening_49 (by decide) ?_
        exact hk2 (y1 + 1) V H locs ls hc hP hD hS (lv_sub hl [1, 0] rfl)
      · replace hc := ite_f c2 hc
        refine lv_aload_n hx hb dX0_payBackInEvening_22 rfl (lv_at hl 0 rfl) ?_
        refine va_get (ci := 0) (v := .ref (a 1)) (C := RX0) (T := TX0) (N := 10) hx hb hts inw_X0 hown hK.1 hP 0 rfl rfl 0 (by decide) fl_11 (fun _ h9 => h9) rfl dX0_payBackInEvening_23 ?_
        refine lv_iconst (v := 0) hx hb dX0_payBackInEvening_26 (by decide) ?_
        refine g_aald (v := a 6) hx hb hK hP 1 rfl (vp_lit (by decide)) rfl dX0_payBackInEvening_27 ?_
        refine lv_iload_n hx hb dX0_payBackInEvening_28 rfl (lv_at hl 2 rfl) ?_
        obtain ⟨x3, hi3, hv3, hc⟩ := rd_some hc
        refine g_iald (x := x3) hx hb hK hP 6 rfl hi3 hv3 dX0_payBackInEvening_29 ?_
        refine lv_iload_n hx hb dX0_payBackInEvening_30 rfl (lv_at hl 1 rfl) ?_
        refine lv_icmp_ne (tgt := 40) hx hb dX0_payBackInEvening_31 (by decide) (fun c4 => ?_) (fun c4 => ?_)
        · replace hc := ite_f c4 hc
          refine lv_iinc (v := y2 + 1) (lv' := [(2, .int (y2 + 1)), (0, .ref (a 0)), (1, .int y1)]) hx hb dX0_payBackInEvening_40 hl (k := 2) rfl rfl (by decide) rfl (fun ls hl => ?_)
          refine lv_goto (tgt := 14) hx hb dX0_payBackInEvening_43 (by decide) ?_
          exact ih y1 (y2 + 1) V H locs ls hc hP hD hS (lv_sub hl [1, 2, 0] rfl)
        · replace hc := ite_t c4 hc
          refine lv_aload_n hx hb dX0_payBackInEvening_34 rfl (lv_at hl 0 rfl) ?_
          refine lv_iload_n hx hb dX0_payBackInEvening_35 rfl (lv_at hl 1 rfl) ?_
          refine lv_iload_n hx hb dX0_payBackInEvening_36 rfl (lv_at hl 2 rfl) ?_
          obtain ⟨V5, hc5, hc⟩ := b1_some hc
          refine gc_VV (n := 2) (ci := 0) (w' := FW cy a V5) hx hb hml hown hts hK hP hD hS hA hl.1 ⟨Nat.le_refl _, Nat.le_refl _⟩ (C_X0_payBack l D cy a V y1 y2 V5 hc5) gX0_payBackInEvening_X0_payBack rfl (by decide +kernel) rfl ⟨by decide, by decide⟩ Jn.same rfl rfl rfl (Nat.le_of_ble_eq_true rfl) dX0_payBackInEvening_37 (fun H locs hP hD hS => ?_)
          refine lv_iinc (v := y2 + 1) (lv' := [(2, .int (y2 + 1)), (0, .ref (a 0)), (1, .int y1)]) hx hb dX0_payBackInEvening_40 hl (k := 2) rfl rfl (by decide) rfl (fun ls hl => ?_)
          refine lv_goto (tgt := 14) hx hb dX0_payBackInEvening_43 (by decide) ?_
          exact ih y1 (y2 + 1) V5 H locs ls hc hP hD hS (lv_sub hl [1, 2, 0] rfl)
  have L2 : ∀ (n : Nat), ∀ (y1 : Int32) (V : FV) (H : Heap) (locs : List Loc) (ls : Array Slot), f_X0_payBackInEvening_L2 n y1 V = some V' → va_P D vwCl (FW cy a V) H → va_D A (FW cy a V) → va_S A s.heap H locs → lv_has ls 3 [(0, .ref (a 0)), (1, .int y1)] → W p l e (RM 2 44) s m args below meth c H locs 0 0 Q (F0 m 2 ls []) := by
    intro n
    induction n with
    | zero =>
      intro y1 V H locs ls hc
      cases hc
    | succ n ih =>
      intro y1 V H locs ls hc hP hD hS hl
      refine lv_iload_n hx hb dX0_payBackInEvening_2 rfl (lv_at hl 1 rfl) ?_
      refine lv_aload_n hx hb dX0_payBackInEvening_3 rfl (lv_at hl 0 rfl) ?_
      refine va_get (ci := 0) (v := .int (V 0 0)) (C := RX0) (T := TX0) (N := 10) hx hb hts inw_X0 hown hK.1 hP 0 rfl rfl 5 (by decide) fl_33 (fun _ h9 => h9) rfl dX0_payBackInEvening_4 ?_
      refine lv_icmp_ge (tgt := 52) hx hb dX0_payBackInEvening_7 (by decide) (fun c1 => ?_) (fun c1 => ?_)
      · replace hc := ite_t c1 hc
        exact hend H locs _ _ _ (some_one hc) hP hD hS dX0_payBackInEvening_52
      · replace hc := ite_f c1 hc
        refine lv_iload_n hx hb dX0_payBackInEvening_10 rfl (lv_at hl 1 rfl) ?_
        refine lv_iconst (v := 1) hx hb dX0_payBackInEvening_11 (by decide) ?_
        refine lv_iadd hx hb dX0_payBackInEvening_12 ?_
        refine lv_istore_n (lv' := [(2, .int (y1 + 1)), (0, .ref (a 0)), (1, .int y1)]) hx hb dX0_payBackInEvening_13 rfl hl (by decide) rfl (fun ls hl => ?_)
        exact L14 (f_X0_payBackInEvening_L2 n) ih FUEL y1 (y1 + 1) V H locs ls hc hP hD hS (lv_sub hl [1, 2, 0] rfl)
  obtain ⟨H, hHe⟩ : ∃ H : Heap, H = s.heap := ⟨_, rfl⟩
  obtain ⟨locs, hLe⟩ : ∃ x : List Loc, x = [] := ⟨_, rfl⟩
  have hP : va_P D vwCl (FW cy a V) H := by rw [hHe]; exact hP
  have hS : va_S A s.heap H locs := by rw [hHe, hLe]; exact hS
  have goal0 : W p l e (RM 2 44) s m args below meth c H locs 0 0 Q (F0 m 0 ls []) := by
    refine lv_iconst (v := 0) hx hb dX0_payBackInEvening_0 (by decide) ?_
    refine lv_istore_n (lv' := [(1, .int 0), (0, .ref (a 0))]) hx hb dX0_payBackInEvening_1 rfl hl (by decide) rfl (fun ls hl => ?_)
    exact L2 FUEL 0 V H locs ls hc hP hD hS (lv_sub hl [1, 0] rfl)
  rw [hHe, hLe] at goal0
  exact goal0
set_option maxHeartbeats 4000000 in
set_option maxRecDepth 100000 in
theorem C_X0_serveWaiting (l : Launch) (D : va_G) (cy : Nat → ClassId) (a : Nat → Nat) (V : FV) (r : Int32) (V' : FV) (hc : f_X0_serveWaiting V = some (r, V')) : ConI l yX0_serveWaiting wsX0_serveWaiting 2 50 D cy (FW cy a) [.ref (a 0)] V V' r := by
  refine bodyI (cc := cX0_serveWaiting) (maxL := 7) (ty := .int) (by decide +kernel) rfl (Nat.le_of_ble_eq_true rfl) ?_
  intro p e s m args below meth c A Q hx hb hml hts hown hK hP hD hA hS hend ls hl
  have hown : s.vm.findClass RX0 = some m.cls := hown
  have hP : va_P D vwCl (FW cy a V) s.heap := hP
  have hD : va_D A (FW cy a V) := hD
  have hl : lv_has ls 7 [(0, .ref (a 0))] := hl
  have hend : ∀ (H : Heap) (locs : List Loc) (pc : Nat) (ls : Array Slot) (v : Int32) (V : FV), v = r → V = V' → narrow .int (.int v) = .int v → va_P D vwCl (FW cy a V) H → va_D A (FW cy a V) → va_S A s.heap H locs → decode cX0_serveWaiting pc = .ok (.ireturn, 1) → W p l e (RM 2 50) s m args below meth c H locs 0 0 Q (F0 m pc ls [.int v]) := fun H locs pc ls v V h1 h2 h3 h4 h5 h6 h7 => hend H locs pc ls v V h1 h2 h3 h4 h5 h6 h7
  have fl_40 := hts (.fieldLink RX0 40 "NoonWells$Field" "waiting" "I") (by decide +kernel)
  have inw_X0 := (by decide +kernel : ∀ w ∈ u_ws RX0 TX0 10, w ∈ wsX0_serveWaiting)
  have fl_46 := hts (.fieldLink RX0 46 "NoonWells$Field" "drawnBehindWaiting" "I") (by decide +kernel)
  have fl_19 := hts (.fieldLink RX0 19 "NoonWells$Field" "requests" "[[I") (by decide +kernel)
  have fl_22 := hts (.fieldLink RX0 22 "NoonWells$Field" "settings" "[I") (by decide +kernel)
  have L12 : ∀ (n : Nat), ∀ (y1 y2 y3 y4 : Int32) (V : FV) (H : Heap) (locs : List Loc) (ls : Array Slot), f_X0_serveWaiting_L12 n y1 y2 y3 y4 V = some (r, V') → va_P D vwCl (FW cy a V) H → va_D A (FW cy a V) → va_S A s.heap H locs → lv_has ls 7 [(0, .ref (a 0)), (1, .int y1), (2, .int y2), (3, .int y3), (4, .int y4)] → W p l e (RM 2 50) s m args below meth c H locs 0 0 Q (F0 m 12 ls []) := by
    intro n
    induction n with
    | zero =>
      intro y1 y2 y3 y4 V H locs ls hc
      cases hc
    | succ n ih =>
      intro y1 y2 y3 y4 V H locs ls hc hP hD hS hl
      refine lv_iload hx hb dX0_serveWaiting_12 (lv_at hl 4 rfl) ?_
      refine lv_iload_n hx hb dX0_serveWaiting_14 rfl (lv_at hl 3 rfl) ?_
      refine lv_icmp_ge (tgt := 99) hx hb dX0_serveWaiting_15 (by decide) (fun c1 => ?_) (fun c1 => ?_)
      · replace hc := ite_t c1 hc
        refine lv_aload_n hx hb dX0_serveWaiting_99 rfl (lv_at hl 0 rfl) ?_
        refine lv_iload_n hx hb dX0_serveWaiting_100 rfl (lv_at hl 1 rfl) ?_
        obtain ⟨V2, eV2, hc⟩ := lt1_some hc
        refine g_put (ci := 0) (C := RX0) (T := TX0) (N := 10) (w' := FW cy a V2) hx hb hts inw_X0 tyX0 tyX0_ok nmX0 hown hK hP hD hS 0 rfl rfl 7 (by decide) fl_40 (fun _ h9 => h9) rfl (by decide +kernel) (Nat.le_of_ble_eq_true rfl) (by rw [← eV2]; rfl) dX0_serveWaiting_101 (fun H locs hP hD hS => ?_)
        refine lv_aload_n hx hb dX0_serveWaiting_104 rfl (lv_at hl 0 rfl) ?_
        refine lv_dup hx hb dX0_serveWaiting_105 rfl ?_
        refine va_get (ci := 0) (v := .int (V2 0 4)) (C := RX0) (T := TX0) (N := 10) hx hb hts inw_X0 hown hK.1 hP 0 rfl rfl 9 (by decide) fl_46 (fun _ h9 => h9) rfl dX0_serveWaiting_106 ?_
        refine lv_iload_n hx hb dX0_serveWaiting_109 rfl (lv_at hl 3 rfl) ?_
        refine lv_iload_n hx hb dX0_serveWaiting_110 rfl (lv_at hl 1 rfl) ?_
        refine lv_isub hx hb dX0_serveWaiting_111 ?_
        refine lv_iadd hx hb dX0_serveWaiting_112 ?_
        obtain ⟨V3, eV3, hc⟩ := lt1_some hc
        refine g_put (ci := 0) (C := RX0) (T := TX0) (N := 10) (w' := FW cy a V3) hx hb hts inw_X0 tyX0 tyX0_ok nmX0 hown hK hP hD hS 0 rfl rfl 9 (by decide) fl_46 (fun _ h9 => h9) rfl (by decide +kernel) (Nat.le_of_ble_eq_true rfl) (by rw [← eV3]; rfl) dX0_serveWaiting_113 (fun H locs hP hD hS => ?_)
        refine lv_iload_n hx hb dX0_serveWaiting_116 rfl (lv_at hl 3 rfl) ?_
        refine lv_iload_n hx hb dX0_serveWaiting_117 rfl (lv_at hl 1 rfl) ?_
        refine lv_isub hx hb dX0_serveWaiting_118 ?_
        exact hend H locs _ _ _ _ (some_fst hc) (some_snd hc) rfl hP hD hS dX0_serveWaiting_119
      · replace hc := ite_f c1 hc
        refine lv_aload_n hx hb dX0_serveWaiting_18 rfl (lv_at hl 0 rfl) ?_
        refine va_get (ci := 0) (v := .ref (a 3)) (C := RX0) (T := TX0) (N := 10) hx hb hts inw_X0 hown hK.1 hP 0 rfl rfl 2 (by decide) fl_19 (fun _ h9 => h9) rfl dX0_serveWaiting_19 ?_
        refine lv_iconst (v := 0) hx hb dX0_serveWaiting_22 (by decide) ?_
        refine g_aald (v := a 22) hx hb hK hP 3 rfl (vp_lit (by decide)) rfl dX0_serveWaiting_23 ?_
        refine lv_iload hx hb dX0_serveWaiting_24 (lv_at hl 4 rfl) ?_
        obtain ⟨x4, hi4, hv4, hc⟩ := rd_some hc
        refine g_iald (x := x4) hx hb hK hP 22 rfl hi4 hv4 dX0_serveWaiting_26 ?_
        refine lv_istore (lv' := [(5, .int x4), (0, .ref (a 0)), (1, .int y1), (2, .int y2), (3, .int y3), (4, .int y4)]) hx hb dX0_serveWaiting_27 hl (by decide) rfl (fun ls hl => ?_)
        refine lv_aload_n hx hb dX0_serveWaiting_29 rfl (lv_at hl 1 rfl) ?_
        refine va_get (ci := 0) (v := .ref (a 3)) (C := RX0) (T := TX0) (N := 10) hx hb hts inw_X0 hown hK.1 hP 0 rfl rfl 2 (by decide) fl_19 (fun _ h9 => h9) rfl dX0_serveWaiting_30 ?_
        refine lv_iconst (v := 1) hx hb dX0_serveWaiting_33 (by decide) ?_
        refine g_aald (v := a 23) hx hb hK hP 3 rfl (vp_lit (by decide)) rfl dX0_serveWaiting_34 ?_
        refine lv_iload hx hb dX0_serveWaiting_35 (lv_at hl 5 rfl) ?_
        obtain ⟨x5, hi5, hv5, hc⟩ := rd_some hc
        refine g_iald (x := x5) hx hb hK hP 23 rfl hi5 hv5 dX0_serveWaiting_37 ?_
        refine lv_istore (lv' := [(6, .int x5), (5, .int x4), (0, .ref (a 0)), (1, .int y1), (2, .int y2), (3, .int y3), (4, .int y4)]) hx hb dX0_serveWaiting_38 hl (by decide) rfl (fun ls hl => ?_)
        refine lv_iload_n hx hb dX0_serveWaiting_40 rfl (lv_at hl 4 rfl) ?_
        refine lv_if_eq (tgt := 67) hx hb dX0_serveWaiting_41 (by decide) (fun c6 => ?_) (fun c6 => ?_)
        · replace hc := ite_t c6 hc
          refine lv_aload_n hx hb dX0_serveWaiting_67 rfl (lv_at hl 2 rfl) ?_
          refine va_get (ci := 0) (v := .ref (a 4)) (C := RX0) (T := TX0) (N := 10) hx hb hts inw_X0 hown hK.1 hP 0 rfl rfl 3 (by decide) fl_22 (fun _ h9 => h9) rfl dX0_serveWaiting_68 ?_
          refine lv_iconst (v := 1) hx hb dX0_serveWaiting_71 (by decide) ?_
          refine g_iald (x := V 4 1) hx hb hK hP 4 rfl (vp_lit (by decide)) rfl dX0_serveWaiting_72 ?_
          refine lv_iconst (v := 1) hx hb dX0_serveWaiting_73 (by decide) ?_
          refine lv_icmp_ne (tgt := 81) hx hb dX0_serveWaiting_74 (by decide) (fun c7 => ?_) (fun c7 => ?_)
          · replace hc := ite_f c7 hc
            refine lv_iconst (v := 0) hx hb dX0_serveWaiting_81 (by decide) ?_
            refine lv_istore_n (lv' := [(2, .int 0), (6, .int x5), (5, .int x4), (0, .ref (a 0)), (1, .int y1), (3, .int y3), (4, .int y4)]) hx hb dX0_serveWaiting_82 rfl hl (by decide) rfl (fun ls hl => ?_)
            refine lv_aload_n hx hb dX0_serveWaiting_83 rfl (lv_at hl 3 rfl) ?_
            refine lv_iload hx hb dX0_serveWaiting_84 (lv_at hl 6 rfl) ?_
            refine lv_iload_n hx hb dX0_serveWaiting_86 rfl (lv_at hl 4 rfl) ?_
            obtain ⟨V8, hc8, hc⟩ := b1_some hc
            refine gc_VV (n := 2) (ci := 0) (w' := FW cy a V8) hx hb hml hown hts hK hP hD hS hA hl.1 ⟨Nat.le_refl _, Nat.le_refl _⟩ (C_X0_moveRequest l D cy a V y4 y1 V8 hc8) gX0_serveWaiting_X0_moveRequest rfl (by decide +kernel) rfl ⟨by decide, by decide⟩ Jn.same rfl rfl rfl (Nat.le_of_ble_eq_true rfl) dX0_serveWaiting_87 (fun H locs hP hD hS => ?_)
            refine lv_iinc (v := y1 + 1) (lv' := [(1, .int (y1 + 1)), (2, .int 0), (6, .int x5), (5, .int x4), (0, .ref (a 0)), (3, .int y3), (4, .int y4)]) hx hb dX0_serveWaiting_90 hl (k := 4) rfl rfl (by decide) rfl (fun ls hl => ?_)
            refine lv_iinc (v := y4 + 1) (lv' := [(4, .int (y4 + 1)), (1, .int (y1 + 1)), (2, .int 0), (6, .int x5), (5, .int x4), (0, .ref (a 0)), (3, .int y3)]) hx hb dX0_serveWaiting_93 hl (k := 6) rfl rfl (by decide) rfl (fun ls hl => ?_)
            refine lv_goto (tgt := 12) hx hb dX0_serveWaiting_96 (by decide) ?_
            exact ih (y1 + 1) 0 y3 (y4 + 1) V8 H locs ls hc hP hD hS (lv_sub hl [5, 1, 2, 6, 0] rfl)
          · replace hc := ite_t c7 hc
            refine lv_iconst (v := 1) hx hb dX0_serveWaiting_77 (by decide) ?_
            refine lv_goto (tgt := 82) hx hb dX0_serveWaiting_78 (by decide) ?_
            refine lv_istore_n (lv' := [(2, .int 1), (6, .int x5), (5, .int x4), (0, .ref (a 0)), (1, .int y1), (3, .int y3), (4, .int y4)]) hx hb dX0_serveWaiting_82 rfl hl (by decide) rfl (fun ls hl => ?_)
            refine lv_aload_n hx hb dX0_serveWaiting_83 rfl (lv_at hl 3 rfl) ?_
            refine lv_iload hx hb dX0_serveWaiting_84 (lv_at hl 6 rfl) ?_
            refine lv_iload_n hx hb dX0_serveWaiting_86 rfl (lv_at hl 4 rfl) ?_
            obtain ⟨V9, hc9, hc⟩ := b1_some hc
            refine gc_VV (n := 2) (ci := 0) (w' := FW cy a V9) hx hb hml hown hts hK hP hD hS hA hl.1 ⟨Nat.le_refl _, Nat.le_refl _⟩ (C_X0_moveRequest l D cy a V y4 y1 V9 hc9) gX0_serveWaiting_X0_moveRequest rfl (by decide +kernel) rfl ⟨by decide, by decide⟩ Jn.same rfl rfl rfl (Nat.le_of_ble_eq_true rfl) dX0_serveWaiting_87 (fun H locs hP hD hS => ?_)
            refine lv_iinc (v := y1 + 1) (lv' := [(1, .int (y1 + 1)), (2, .int 1), (6, .int x5), (5, .int x4), (0, .ref (a 0)), (3, .int y3), (4, .int y4)]) hx hb dX0_serveWaiting_90 hl (k := 4) rfl rfl (by decide) rfl (fun ls hl => ?_)
            refine lv_iinc (v := y4 + 1) (lv' := [(4, .int (y4 + 1)), (1, .int (y1 + 1)), (2, .int 1), (6, .int x5), (5, .int x4), (0, .ref (a 0)), (3, .int y3)]) hx hb dX0_serveWaiting_93 hl (k := 6) rfl rfl (by decide) rfl (fun ls hl => ?_)
            refine lv_goto (tgt := 12) hx hb dX0_serveWaiting_96 (by decide) ?_
            exact ih (y1 + 1) 1 y3 (y4 + 1) V9 H locs ls hc hP hD hS (lv_sub hl [5, 1, 2, 6, 0] rfl)
        · replace hc := ite_f c6 hc
          refine lv_aload_n hx hb dX0_serveWaiting_44 rfl (lv_at hl 2 rfl) ?_
          refine lv_iload hx hb dX0_serveWaiting_45 (lv_at hl 1 rfl) ?_
          refine lv_iload hx hb dX0_serveWaiting_47 (lv_at hl 0 rfl) ?_
          obtain ⟨x10, V10, hc10, hc⟩ := b2_some hc
          refine gc_VI (n := 2) (ci := 0) (w' := FW cy a V10) hx hb hml hown hts hK hP hD hS hA hl.1 ⟨Nat.le_refl _, Nat.le_refl _⟩ (C_X0_shareOut l D cy a V x4 x5 x10 V10 hc10) gX0_serveWaiting_X0_shareOut rfl (by decide +kernel) rfl ⟨by decide, by decide⟩ Jn.same rfl rfl rfl (Nat.le_of_ble_eq_true rfl) dX0_serveWaiting_49 (fun H locs hP hD hS => ?_)
          refine lv_iload hx hb dX0_serveWaiting_52 (lv_at hl 0 rfl) ?_
          refine lv_icmp_ne (tgt := 67) hx hb dX0_serveWaiting_54 (by decide) (fun c11 => ?_) (fun c11 => ?_)
          · replace hc := ite_f c11 hc
            refine lv_aload_n hx hb dX0_serveWaiting_67 rfl (lv_at hl 2 rfl) ?_
            refine va_get (ci := 0) (v := .ref (a 4)) (C := RX0) (T := TX0) (N := 10) hx hb hts inw_X0 hown hK.1 hP 0 rfl rfl 3 (by decide) fl_22 (fun _ h9 => h9) rfl dX0_serveWaiting_68 ?_
            refine lv_iconst (v := 1) hx hb dX0_serveWaiting_71 (by decide) ?_
            refine g_iald (x := V10 4 1) hx hb hK hP 4 rfl (vp_lit (by decide)) rfl dX0_serveWaiting_72 ?_
            refine lv_iconst (v := 1) hx hb dX0_serveWaiting_73 (by decide) ?_
            refine lv_icmp_ne (tgt := 81) hx hb dX0_serveWaiting_74 (by decide) (fun c12 => ?_) (fun c12 => ?_)
            · replace hc := ite_f c12 hc
              refine lv_iconst (v := 0) hx hb dX0_serveWaiting_81 (by decide) ?_
              refine lv_istore_n (lv' := [(2, .int 0), (6, .int x5), (5, .int x4), (0, .ref (a 0)), (1, .int y1), (3, .int y3), (4, .int y4)]) hx hb dX0_serveWaiting_82 rfl hl (by decide) rfl (fun ls hl => ?_)
              refine lv_aload_n hx hb dX0_serveWaiting_83 rfl (lv_at hl 3 rfl) ?_
              refine lv_iload hx hb dX0_serveWaiting_84 (lv_at hl 6 rfl) ?_
              refine lv_iload_n hx hb dX0_serveWaiting_86 rfl (lv_at hl 4 rfl) ?_
              obtain ⟨V13, hc13, hc⟩ := b1_some hc
              refine gc_VV (n := 2) (ci := 0) (w' := FW cy a V13) hx hb hml hown hts hK hP hD hS hA hl.1 ⟨Nat.le_refl _, Nat.le_refl _⟩ (C_X0_moveRequest l D cy a V10 y4 y1 V13 hc13) gX0_serveWaiting_X0_moveRequest rfl (by decide +kernel) rfl ⟨by decide, by decide⟩ Jn.same rfl rfl rfl (Nat.le_of_ble_eq_true rfl) dX0_serveWaiting_87 (fun H locs hP hD hS => ?_)
              refine lv_iinc (v := y1 + 1) (lv' := [(1, .int (y1 + 1)), (2, .int 0), (6, .int x5), (5, .int x4), (0, .ref (a 0)), (3, .int y3), (4, .int y4)]) hx hb dX0_serveWaiting_90 hl (k := 4) rfl rfl (by decide) rfl (fun ls hl => ?_)
              refine lv_iinc (v := y4 + 1) (lv' := [(4, .int (y4 + 1)), (1, .int (y1 + 1)), (2, .int 0), (6, .int x5), (5, .int x4), (0, .ref (a 0)), (3, .int y3)]) hx hb dX0_serveWaiting_93 hl (k := 6) rfl rfl (by decide) rfl (fun ls hl => ?_)
              refine lv_goto (tgt := 12) hx hb dX0_serveWaiting_96 (by decide) ?_
              exact ih (y1 + 1) 0 y3 (y4 + 1) V13 H locs ls hc hP hD hS (lv_sub hl [5, 1, 2, 6, 0] rfl)
            · replace hc := ite_t c12 hc
              refine lv_iconst (v := 1) hx hb dX0_serveWaiting_77 (by decide) ?_
              refine lv_goto (tgt := 82) hx hb dX0_serveWaiting_78 (by decide) ?_
              refine lv_istore_n (lv' := [(2, .int 1), (6, .int x5), (5, .int x4), (0, .ref (a 0)), (1, .int y1), (3, .int y3), (4, .int y4)]) hx hb dX0_serveWaiting_82 rfl hl (by decide) rfl (fun ls hl => ?_)
              refine lv_aload_n hx hb dX0_serveWaiting_83 rfl (lv_at hl 3 rfl) ?_
              refine lv_iload hx hb dX0_serveWaiting_84 (lv_at hl 6 rfl) ?_
              refine lv_iload_n hx hb dX0_serveWaiting_86 rfl (lv_at hl 4 rfl) ?_
              obtain ⟨V14, hc14, hc⟩ := b1_some hc
              refine gc_VV (n := 2) (ci := 0) (w' := FW cy a V14) hx hb hml hown hts hK hP hD hS hA hl.1 ⟨Nat.le_refl _, Nat.le_refl _⟩ (C_X0_moveRequest l D cy a V10 y4 y1 V14 hc14) gX0_serveWaiting_X0_moveRequest rfl (by decide +kernel) rfl ⟨by decide, by decide⟩ Jn.same rfl rfl rfl (Nat.le_of_ble_eq_true rfl) dX0_serveWaiting_87 (fun H locs hP hD hS => ?_)
              refine lv_iinc (v := y1 + 1) (lv' := [(1, .int (y1 + 1)), (2, .int 1), (6, .int x5), (5, .int x4), (0, .ref (a 0)), (3, .int y3), (4, .int y4)]) hx hb dX0_serveWaiting_90 hl (k := 4) rfl rfl (by decide) rfl (fun ls hl => ?_)
              refine lv_iinc (v := y4 + 1) (lv' := [(4, .int (y4 + 1)), (1, .int (y1 + 1)), (2, .int 1), (6, .int x5), (5, .int x4), (0, .ref (a 0)), (3, .int y3)]) hx hb dX0_serveWaiting_93 hl (k := 6) rfl rfl (by decide) rfl (fun ls hl => ?_)
              refine lv_goto (tgt := 12) hx hb dX0_serveWaiting_96 (by decide) ?_
              exact ih (y1 + 1) 1 y3 (y4 + 1) V14 H locs ls hc hP hD hS (lv_sub hl [5, 1, 2, 6, 0] rfl)
          · replace hc := ite_t c11 hc
            refine lv_aload_n hx hb dX0_serveWaiting_57 rfl (lv_at hl 2 rfl) ?_
            refine lv_iload hx hb dX0_serveWaiting_58 (lv_at hl 1 rfl) ?_
            obtain ⟨x15, V15, hc15, hc⟩ := b2_some hc
            refine gc_VI (n := 1) (ci := 0) (w' := FW cy a V15) hx hb hml hown hts hK hP hD hS hA hl.1 ⟨Nat.le_refl _, Nat.le_refl _⟩ (C_X0_pourShares l D cy a V10 x4 x15 V15 hc15) gX0_serveWaiting_X0_pourShares rfl (by decide +kernel) rfl ⟨by decide, by decide⟩ Jn.same rfl rfl rfl (Nat.le_of_ble_eq_true rfl) dX0_serveWaiting_60 (fun H locs hP hD hS => ?_)
            refine lv_pop hx hb dX0_serveWaiting_63 rfl ?_
            refine lv_goto (tgt := 93) hx hb dX0_serveWaiting_64 (by decide) ?_
            refine lv_iinc (v := y4 + 1) (lv' := [(4, .int (y4 + 1)), (6, .int x5), (5, .int x4), (0, .ref (a 0)), (1, .int y1), (2, .int y2), (3, .int y3)]) hx hb dX0_serveWaiting_93 hl (k := 6) rfl rfl (by decide) rfl (fun ls hl => ?_)
            refine lv_goto (tgt := 12) hx hb dX0_serveWaiting_96 (by decide) ?_
            exact ih y1 y2 y3 (y4 + 1) V15 H locs ls hc hP hD hS (lv_sub hl [3, 4, 5, 6, 0] rfl)
  obtain ⟨H, hHe⟩ : ∃ H : Heap, H = s.heap := ⟨_, rfl⟩
  obtain ⟨locs, hLe⟩ : ∃ x : List Loc, x = [] := ⟨_, rfl⟩
  have hP : va_P D vwCl (FW cy a V) H := by rw [hHe]; exact hP
  have hS : va_S A s.heap H locs := by rw [hHe, hLe]; exact hS
  have goal0 : W p l e (RM 2 50) s m args below meth c H locs 0 0 Q (F0 m 0 ls []) := by
    refine lv_iconst (v := 0) hx hb dX0_serveWaiting_0 (by decide) ?_
    refine lv_istore_n (lv' := [(1, .int 0), (0, .ref (a 0))]) hx hb dX0_serveWaiting_1 rfl hl (by decide) rfl (fun ls hl => ?_)
    refine lv_iconst (v := 1) hx hb dX0_serveWaiting_2 (by decide) ?_
    refine lv_istore_n (lv' := [(2, .int 1), (1, .int 0), (0, .ref (a 0))]) hx hb dX0_serveWaiting_3 rfl hl (by decide) rfl (fun ls hl => ?_)
    refine lv_aload_n hx hb dX0_serveWaiting_4 rfl (lv_at hl 2 rfl) ?_
    refine va_get (ci := 0) (v := .int (V 0 2)) (C := RX0) (T := TX0) (N := 10) hx hb hts inw_X0 hown hK.1 hP 0 rfl rfl 7 (by decide) fl_40 (fun _ h9 => h9) rfl dX0_serveWaiting_5 ?_
    refine lv_istore_n (lv' := [(3, .int (V 0 2)), (2, .int 1), (1, .int 0), (0, .ref (a 0))]) hx hb dX0_serveWaiting_8 rfl hl (by decide) rfl (fun ls hl => ?_)
    refine lv_iconst (v := 0) hx hb dX0_serveWaiting_9 (by decide) ?_
    refine lv_istore (lv' := [(4, .int 0), (3, .int (V 0 2)), (2, .int 1), (1, .int 0), (0, .ref (a 0))]) hx hb dX0_serveWaiting_10 hl (by decide) rfl (fun ls hl => ?_)
    exact L12 FUEL 0 1 (V 0 2) 0 V H locs ls hc hP hD hS (lv_sub hl [4, 3, 2, 1, 0] rfl)
  rw [hHe, hLe] at goal0
  exact goal0
end
section
set_option maxHeartbeats 4000000 in
set_option maxRecDepth 100000 in
theorem C_X0_passTick (l : Launch) (D : va_G) (cy : Nat → ClassId) (a : Nat → Nat) (V : FV) (r : Int32) (V' : FV) (hc : f_X0_passTick V = some (r, V')) : ConI l yX0_passTick wsX0_passTick 3 76 D cy (FW cy a) [.ref (a 0)] V V' r := by
  refine bodyI (cc := cX0_passTick) (maxL := 1) (ty := .int) (by decide +kernel) rfl (Nat.le_of_ble_eq_true rfl) ?_
  intro p e s m args below meth c A Q hx hb hml hts hown hK hP hD hA hS hend ls hl
  have hown : s.vm.findClass RX0 = some m.cls := hown
  have hP : va_P D vwCl (FW cy a V) s.heap := hP
  have hD : va_D A (FW cy a V) := hD
  have hl : lv_has ls 1 [(0, .ref (a 0))] := hl
  have hend : ∀ (H : Heap) (locs : List Loc) (pc : Nat) (ls : Array Slot) (v : Int32) (V : FV), v = r → V = V' → narrow .int (.int v) = .int v → va_P D vwCl (FW cy a V) H → va_D A (FW cy a V) → va_S A s.heap H locs → decode cX0_passTick pc = .ok (.ireturn, 1) → W p l e (RM 3 76) s m args below meth c H locs 0 0 Q (F0 m pc ls [.int v]) := fun H locs pc ls v V h1 h2 h3 h4 h5 h6 h7 => hend H locs pc ls v V h1 h2 h3 h4 h5 h6 h7
  have fl_43 := hts (.fieldLink RX0 43 "NoonWells$Field" "time" "I") (by decide +kernel)
  have inw_X0 := (by decide +kernel : ∀ w ∈ u_ws RX0 TX0 10, w ∈ wsX0_passTick)
  have fl_22 := hts (.fieldLink RX0 22 "NoonWells$Field" "settings" "[I") (by decide +kernel)
  obtain ⟨H, hHe⟩ : ∃ H : Heap, H = s.heap := ⟨_, rfl⟩
  obtain ⟨locs, hLe⟩ : ∃ x : List Loc, x = [] := ⟨_, rfl⟩
  have hP : va_P D vwCl (FW cy a V) H := by rw [hHe]; exact hP
  have hS : va_S A s.heap H locs := by rw [hHe, hLe]; exact hS
  have goal0 : W p l e (RM 3 76) s m args below meth c H locs 0 0 Q (F0 m 0 ls []) := by
    refine lv_aload_n hx hb dX0_passTick_0 rfl (lv_at hl 0 rfl) ?_
    refine lv_dup hx hb dX0_passTick_1 rfl ?_
    refine va_get (ci := 0) (v := .int (V 0 3)) (C := RX0) (T := TX0) (N := 10) hx hb hts inw_X0 hown hK.1 hP 0 rfl rfl 8 (by decide) fl_43 (fun _ h9 => h9) rfl dX0_passTick_2 ?_
    refine lv_iconst (v := 1) hx hb dX0_passTick_5 (by decide) ?_
    refine lv_iadd hx hb dX0_passTick_6 ?_
    obtain ⟨V1, eV1, hc⟩ := lt1_some hc
    refine g_put (ci := 0) (C := RX0) (T := TX0) (N := 10) (w' := FW cy a V1) hx hb hts inw_X0 tyX0 tyX0_ok nmX0 hown hK hP hD hS 0 rfl rfl 8 (by decide) fl_43 (fun _ h9 => h9) rfl (by decide +kernel) (Nat.le_of_ble_eq_true rfl) (by rw [← eV1]; rfl) dX0_passTick_7 (fun H locs hP hD hS => ?_)
    refine lv_aload_n hx hb dX0_passTick_10 rfl (lv_at hl 0 rfl) ?_
    obtain ⟨V2, hc2, hc⟩ := b1_some hc
    refine gc_VV (n := 0) (ci := 0) (w' := FW cy a V2) hx hb hml hown hts hK hP hD hS hA hl.1 ⟨Nat.le_refl _, Nat.le_refl _⟩ (C_X0_flowIn l D cy a V1 V2 hc2) gX0_passTick_X0_flowIn rfl (by decide +kernel) rfl ⟨by decide, by decide⟩ Jn.same rfl rfl rfl (Nat.le_of_ble_eq_true rfl) dX0_passTick_11 (fun H locs hP hD hS => ?_)
    refine lv_aload_n hx hb dX0_passTick_14 rfl (lv_at hl 0 rfl) ?_
    obtain ⟨x3, hc3, hc⟩ := b1_some hc
    refine gc_VI (n := 0) (ci := 0) (w' := FW cy a V2) hx hb hml hown hts hK hP hD hS hA hl.1 ⟨Nat.le_refl _, Nat.le_refl _⟩ (C_X0_timeOfDay l D cy a V2 x3 hc3) gX0_passTick_X0_timeOfDay rfl (by decide +kernel) rfl ⟨by decide, by decide⟩ Jn.same rfl rfl rfl (Nat.le_of_ble_eq_true rfl) dX0_passTick_15 (fun H locs hP hD hS => ?_)
    refine lv_if_ne (tgt := 29) hx hb dX0_passTick_18 (by decide) (fun c4 => ?_) (fun c4 => ?_)
    · replace hc := ite_f c4 hc
      refine lv_aload_n hx hb dX0_passTick_29 rfl (lv_at hl 0 rfl) ?_
      obtain ⟨x5, hc5, hc⟩ := b1_some hc
      refine gc_VI (n := 0) (ci := 0) (w' := FW cy a V2) hx hb hml hown hts hK hP hD hS hA hl.1 ⟨Nat.le_refl _, Nat.le_refl _⟩ (C_X0_timeOfDay l D cy a V2 x5 hc5) gX0_passTick_X0_timeOfDay rfl (by decide +kernel) rfl ⟨by decide, by decide⟩ Jn.same rfl rfl rfl (Nat.le_of_ble_eq_true rfl) dX0_passTick_30 (fun H locs hP hD hS => ?_)
      refine lv_aload_n hx hb dX0_passTick_33 rfl (lv_at hl 0 rfl) ?_
      refine va_get (ci := 0) (v := .ref (a 4)) (C := RX0) (T := TX0) (N := 10) hx hb hts inw_X0 hown hK.1 hP 0 rfl rfl 3 (by decide) fl_22 (fun _ h9 => h9) rfl dX0_passTick_34 ?_
      refine lv_iconst (v := 0) hx hb dX0_passTick_37 (by decide) ?_
      refine g_iald (x := V2 4 0) hx hb hK hP 4 rfl (vp_lit (by decide)) rfl dX0_passTick_38 ?_
      refine lv_iconst (v := 2) hx hb dX0_passTick_39 (by decide) ?_
      refine lv_idiv hx hb dX0_passTick_40 (by decide) ?_
      refine lv_icmp_ne (tgt := 48) hx hb dX0_passTick_41 (by decide) (fun c6 => ?_) (fun c6 => ?_)
      · replace hc := ite_f c6 hc
        refine lv_aload_n hx hb dX0_passTick_48 rfl (lv_at hl 0 rfl) ?_
        obtain ⟨x7, V7, hc7, hc⟩ := b2_some hc
        refine gc_VI (n := 0) (ci := 0) (w' := FW cy a V7) hx hb hml hown hts hK hP hD hS hA hl.1 ⟨Nat.le_refl _, Nat.le_refl _⟩ (C_X0_serveWaiting l D cy a V2 x7 V7 hc7) gX0_passTick_X0_serveWaiting rfl (by decide +kernel) rfl ⟨by decide, by decide⟩ Jn.same rfl rfl rfl (Nat.le_of_ble_eq_true rfl) dX0_passTick_49 (fun H locs hP hD hS => ?_)
        exact hend H locs _ _ _ _ (some_fst hc) (some_snd hc) rfl hP hD hS dX0_passTick_52
      · replace hc := ite_t c6 hc
        refine lv_aload_n hx hb dX0_passTick_44 rfl (lv_at hl 0 rfl) ?_
        obtain ⟨V8, hc8, hc⟩ := b1_some hc
        refine gc_VV (n := 0) (ci := 0) (w' := FW cy a V8) hx hb hml hown hts hK hP hD hS hA hl.1 ⟨Nat.le_refl _, Nat.le_refl _⟩ (C_X0_payBackInEvening l D cy a V2 V8 hc8) gX0_passTick_X0_payBackInEvening rfl (by decide +kernel) rfl ⟨by decide, by decide⟩ Jn.same rfl rfl rfl (Nat.le_of_ble_eq_true rfl) dX0_passTick_45 (fun H locs hP hD hS => ?_)
        refine lv_aload_n hx hb dX0_passTick_48 rfl (lv_at hl 0 rfl) ?_
        obtain ⟨x9, V9, hc9, hc⟩ := b2_some hc
        refine gc_VI (n := 0) (ci := 0) (w' := FW cy a V9) hx hb hml hown hts hK hP hD hS hA hl.1 ⟨Nat.le_refl _, Nat.le_refl _⟩ (C_X0_serveWaiting l D cy a V8 x9 V9 hc9) gX0_passTick_X0_serveWaiting rfl (by decide +kernel) rfl ⟨by decide, by decide⟩ Jn.same rfl rfl rfl (Nat.le_of_ble_eq_true rfl) dX0_passTick_49 (fun H locs hP hD hS => ?_)
        exact hend H locs _ _ _ _ (some_fst hc) (some_snd hc) rfl hP hD hS dX0_passTick_52
    · replace hc := ite_t c4 hc
      refine lv_aload_n hx hb dX0_passTick_21 rfl (lv_at hl 0 rfl) ?_
      obtain ⟨x10, V10, hc10, hc⟩ := b2_some hc
      refine gc_VI (n := 0) (ci := 0) (w' := FW cy a V10) hx hb hml hown hts hK hP hD hS hA hl.1 ⟨Nat.le_refl _, Nat.le_refl _⟩ (C_X0_lendAtNoon l D cy a V2 x10 V10 hc10) gX0_passTick_X0_lendAtNoon rfl (by decide +kernel) rfl ⟨by decide, by decide⟩ Jn.same rfl rfl rfl (Nat.le_of_ble_eq_true rfl) dX0_passTick_22 (fun H locs hP hD hS => ?_)
      refine lv_pop hx hb dX0_passTick_25 rfl ?_
      refine lv_goto (tgt := 48) hx hb dX0_passTick_26 (by decide) ?_
      refine lv_aload_n hx hb dX0_passTick_48 rfl (lv_at hl 0 rfl) ?_
      obtain ⟨x11, V11, hc11, hc⟩ := b2_some hc
      refine gc_VI (n := 0) (ci := 0) (w' := FW cy a V11) hx hb hml hown hts hK hP hD hS hA hl.1 ⟨Nat.le_refl _, Nat.le_refl _⟩ (C_X0_serveWaiting l D cy a V10 x11 V11 hc11) gX0_passTick_X0_serveWaiting rfl (by decide +kernel) rfl ⟨by decide, by decide⟩ Jn.same rfl rfl rfl (Nat.le_of_ble_eq_true rfl) dX0_passTick_49 (fun H locs hP hD hS => ?_)
      exact hend H locs _ _ _ _ (some_fst hc) (some_snd hc) rfl hP hD hS dX0_passTick_52
  rw [hHe, hLe] at goal0
  exact goal0
set_option maxHeartbeats 4000000 in
set_option maxRecDepth 100000 in
theorem C_X0_passTicks (l : Launch) (D : va_G) (cy : Nat → ClassId) (a : Nat → Nat) (V : FV) (p1 : Int32) (r : Int32) (V' : FV) (hc : f_X0_passTicks V p1 = some (r, V')) : ConI l yX0_passTicks wsX0_passTicks 4 96 D cy (FW cy a) [.ref (a 0), .int p1] V V' r := by
  refine bodyI (cc := cX0_passTicks) (maxL := 4) (ty := .int) (by decide +kernel) rfl (Nat.le_of_ble_eq_true rfl) ?_
  intro p e s m args below meth c A Q hx hb hml hts hown hK hP hD hA hS hend ls hl
  have hown : s.vm.findClass RX0 = some m.cls := hown
  have hP : va_P D vwCl (FW cy a V) s.heap := hP
  have hD : va_D A (FW cy a V) := hD
  have hl : lv_has ls 4 [(0, .ref (a 0)), (1, .int p1)] := hl
  have hend : ∀ (H : Heap) (locs : List Loc) (pc : Nat) (ls : Array Slot) (v : Int32) (V : FV), v = r → V = V' → narrow .int (.int v) = .int v → va_P D vwCl (FW cy a V) H → va_D A (FW cy a V) → va_S A s.heap H locs → decode cX0_passTicks pc = .ok (.ireturn, 1) → W p l e (RM 4 96) s m args below meth c H locs 0 0 Q (F0 m pc ls [.int v]) := fun H locs pc ls v V h1 h2 h3 h4 h5 h6 h7 => hend H locs pc ls v V h1 h2 h3 h4 h5 h6 h7
  have fl_43 := hts (.fieldLink RX0 43 "NoonWells$Field" "time" "I") (by decide +kernel)
  have inw_X0 := (by decide +kernel : ∀ w ∈ u_ws RX0 TX0 10, w ∈ wsX0_passTicks)
  have L32 : ∀ (n : Nat), ∀ (y1 y2 y3 : Int32) (V : FV) (H : Heap) (locs : List Loc) (ls : Array Slot), f_X0_passTicks_L32 n y1 y2 y3 V = some (r, V') → va_P D vwCl (FW cy a V) H → va_D A (FW cy a V) → va_S A s.heap H locs → lv_has ls 4 [(0, .ref (a 0)), (1, .int y1), (2, .int y2), (3, .int y3)] → W p l e (RM 4 96) s m args below meth c H locs 0 0 Q (F0 m 32 ls []) := by
    intro n
    induction n with
    | zero =>
      intro y1 y2 y3 V H locs ls hc
      cases hc
    | succ n ih =>
      intro y1 y2 y3 V H locs ls hc hP hD hS hl
      refine lv_iload_n hx hb dX0_passTicks_32 rfl (lv_at hl 3 rfl) ?_
      refine lv_iload_n hx hb dX0_passTicks_33 rfl (lv_at hl 1 rfl) ?_
      refine lv_icmp_ge (tgt := 50) hx hb dX0_passTicks_34 (by decide) (fun c4 => ?_) (fun c4 => ?_)
      · replace hc := ite_t c4 hc
        refine lv_iload_n hx hb dX0_passTicks_50 rfl (lv_at hl 2 rfl) ?_
        exact hend H locs _ _ _ _ (some_fst hc) (some_snd hc) rfl hP hD hS dX0_passTicks_51
      · replace hc := ite_f c4 hc
        refine lv_iload_n hx hb dX0_passTicks_37 rfl (lv_at hl 2 rfl) ?_
        refine lv_aload_n hx hb dX0_passTicks_38 rfl (lv_at hl 0 rfl) ?_
        obtain ⟨x5, V5, hc5, hc⟩ := b2_some hc
        refine gc_VI (n := 0) (ci := 0) (w' := FW cy a V5) hx hb hml hown hts hK hP hD hS hA hl.1 ⟨Nat.le_refl _, Nat.le_refl _⟩ (C_X0_passTick l D cy a V x5 V5 hc5) gX0_passTicks_X0_passTick rfl (by decide +kernel) rfl ⟨by decide, by decide⟩ Jn.same rfl rfl rfl (Nat.le_of_ble_eq_true rfl) dX0_passTicks_39 (fun H locs hP hD hS => ?_)
        refine lv_iadd hx hb dX0_passTicks_42 ?_
        refine lv_istore_n (lv' := [(2, .int (y2 + x5)), (0, .ref (a 0)), (1, .int y1), (3, .int y3)]) hx hb dX0_passTicks_43 rfl hl (by decide) rfl (fun ls hl => ?_)
        refine lv_iinc (v := y3 + 1) (lv' := [(3, .int (y3 + 1)), (2, .int (y2 + x5)), (0, .ref (a 0)), (1, .int y1)]) hx hb dX0_passTicks_44 hl (k := 3) rfl rfl (by decide) rfl (fun ls hl => ?_)
        refine lv_goto (tgt := 32) hx hb dX0_passTicks_47 (by decide) ?_
        exact ih y1 (y2 + x5) (y3 + 1) V5 H locs ls hc hP hD hS (lv_sub hl [2, 3, 1, 0] rfl)
  obtain ⟨H, hHe⟩ : ∃ H : Heap, H = s.heap := ⟨_, rfl⟩
  obtain ⟨locs, hLe⟩ : ∃ x : List Loc, x = [] := ⟨_, rfl⟩
  have hP : va_P D vwCl (FW cy a V) H := by rw [hHe]; exact hP
  have hS : va_S A s.heap H locs := by rw [hHe, hLe]; exact hS
  have goal0 : W p l e (RM 4 96) s m args below meth c H locs 0 0 Q (F0 m 0 ls []) := by
    refine lv_iload_n hx hb dX0_passTicks_0 rfl (lv_at hl 1 rfl) ?_
    refine lv_iconst (v := 1) hx hb dX0_passTicks_1 (by decide) ?_
    refine lv_icmp_lt (tgt := 12) hx hb dX0_passTicks_2 (by decide) (fun c1 => ?_) (fun c1 => ?_)
    · replace hc := ite_t c1 hc
      refine lv_iconst (v := (-1)) hx hb dX0_passTicks_12 (by decide) ?_
      exact hend H locs _ _ _ _ (some_fst hc) (some_snd hc) rfl hP hD hS dX0_passTicks_13
    · replace hc := ite_f c1 hc
      refine lv_iload_n hx hb dX0_passTicks_5 rfl (lv_at hl 1 rfl) ?_
      refine lv_sipush (v := 200) hx hb dX0_passTicks_6 (by decide +kernel) ?_
      refine lv_icmp_le (tgt := 14) hx hb dX0_passTicks_9 (by decide) (fun c2 => ?_) (fun c2 => ?_)
      · replace hc := ite_t c2 hc
        refine lv_aload_n hx hb dX0_passTicks_14 rfl (lv_at hl 0 rfl) ?_
        refine va_get (ci := 0) (v := .int (V 0 3)) (C := RX0) (T := TX0) (N := 10) hx hb hts inw_X0 hown hK.1 hP 0 rfl rfl 8 (by decide) fl_43 (fun _ h9 => h9) rfl dX0_passTicks_15 ?_
        refine lv_iload_n hx hb dX0_passTicks_18 rfl (lv_at hl 1 rfl) ?_
        refine lv_iadd hx hb dX0_passTicks_19 ?_
        refine lv_ldc (v := 50000) hx hb hown (hts (.constant RX0 92 50000) (by decide +kernel)) dX0_passTicks_20 ?_
        refine lv_icmp_le (tgt := 28) hx hb dX0_passTicks_22 (by decide) (fun c3 => ?_) (fun c3 => ?_)
        · replace hc := ite_t c3 hc
          refine lv_iconst (v := 0) hx hb dX0_passTicks_28 (by decide) ?_
          refine lv_istore_n (lv' := [(2, .int 0), (0, .ref (a 0)), (1, .int p1)]) hx hb dX0_passTicks_29 rfl hl (by decide) rfl (fun ls hl => ?_)
          refine lv_iconst (v := 0) hx hb dX0_passTicks_30 (by decide) ?_
          refine lv_istore_n (lv' := [(3, .int 0), (2, .int 0), (0, .ref (a 0)), (1, .int p1)]) hx hb dX0_passTicks_31 rfl hl (by decide) rfl (fun ls hl => ?_)
          exact L32 FUEL p1 0 0 V H locs ls hc hP hD hS (lv_sub hl [2, 3, 1, 0] rfl)
        · replace hc := ite_f c3 hc
          refine lv_bipush (v := (-3)) hx hb dX0_passTicks_25 (by decide +kernel) ?_
          exact hend H locs _ _ _ _ (some_fst hc) (some_snd hc) rfl hP hD hS dX0_passTicks_27
      · replace hc := ite_f c2 hc
        refine lv_iconst (v := (-1)) hx hb dX0_passTicks_12 (by decide) ?_
        exact hend H locs _ _ _ _ (some_fst hc) (some_snd hc) rfl hP hD hS dX0_passTicks_13
  rw [hHe, hLe] at goal0
  exact goal0
end
