/-! ===== BEGIN words of one list among another's, by their places ===== -/
theorem goodIn_r {big : List Cond} (ws : List Cond) (ps : List Nat) (hp : ws = ps.filterMap (fun i => big[i]?)) (h : ws.all goodWord = true) : GoodIn big ws := by
  intro w hw
  have h1 := List.all_eq_true.mp h w hw
  rw [hp] at hw
  obtain ⟨i, -, hi⟩ := List.mem_filterMap.mp hw
  have hm : w ∈ big := by first | exact List.mem_of_getElem? hi | exact List.getElem?_mem hi
  exact ⟨hm, good_of_word h1⟩
theorem goodIn_app {big a b : List Cond} (ha : GoodIn big a) (hb : GoodIn big b) : GoodIn big (a ++ b) := fun w h => (List.mem_append.mp h).elim (ha w) (hb w)
theorem goodIn_ca {big a b : List Cond} {c : Cond} (ha : GoodIn big (c :: a)) (hb : GoodIn big b) : GoodIn big (c :: (a ++ b)) := fun w h => (List.mem_cons.mp h).elim (fun e => ha w (List.mem_cons.mpr (Or.inl e))) (fun h => (List.mem_append.mp h).elim (fun h => ha w (List.mem_cons.mpr (Or.inr h))) (hb w))
theorem goodIn_sub {big ws : List Cond} (hm : ∀ w ∈ ws, w ∈ big) (h : ws.all goodWord = true) : GoodIn big ws := fun w hw => ⟨hm w hw, good_of_word (List.all_eq_true.mp h w hw)⟩
/-! ===== END ===== -/

/-! ===== BEGIN printed: names, fields, word lists, decode rows ===== -/
def RX0 : String := "OrganWind$State"
def TX0 : u_T := fun k => match k with
  | 0 => ("OrganWind$State", "manual", "[I", true)
  | 1 => ("OrganWind$State", "demand", "[I", true)
  | 2 => ("OrganWind$State", "least", "[I", true)
  | 3 => ("OrganWind$State", "got", "[I", true)
  | 4 => ("OrganWind$State", "ciphering", "[I", true)
  | 5 => ("OrganWind$State", "offset", "[I", true)
  | 6 => ("OrganWind$State", "setting", "[I", true)
  | 7 => ("OrganWind$State", "pressed", "[I", true)
  | 8 => ("OrganWind$State", "strokesBegun", "[I", true)
  | 9 => ("OrganWind$State", "drawn", "I", false)
  | 10 => ("OrganWind$State", "manualCoupler", "Z", false)
  | 11 => ("OrganWind$State", "octaveCoupler", "Z", false)
  | 12 => ("OrganWind$State", "volume", "I", false)
  | 13 => ("OrganWind$State", "time", "I", false)
  | 14 => ("OrganWind$State", "made", "I", false)
  | 15 => ("OrganWind$State", "spilled", "I", false)
  | 16 => ("OrganWind$State", "lastFeeder", "I", false)
  | 17 => ("OrganWind$State", "strokeLeft", "I", false)
  | 18 => ("OrganWind$State", "strokePart", "I", false)
  | _ => ("OrganWind$State", "strokeTicks", "I", false)
def tyX0 : Nat → FieldType := fun k => match k with
  | 0 => .array .int
  | 1 => .array .int
  | 2 => .array .int
  | 3 => .array .int
  | 4 => .array .int
  | 5 => .array .int
  | 6 => .array .int
  | 7 => .array .int
  | 8 => .array .int
  | 9 => .int
  | 10 => .boolean
  | 11 => .boolean
  | 12 => .int
  | 13 => .int
  | 14 => .int
  | 15 => .int
  | 16 => .int
  | 17 => .int
  | 18 => .int
  | _ => .int
abbrev wsX00 : List Cond := u_ws RX0 TX0 20
theorem nmX0 : ∀ a, a < 20 → ∀ b, b < 20 → a ≠ b → (TX0 a).2.1 ≠ (TX0 b).2.1 := by decide +kernel
theorem tyX0_ok : ∀ k, k < 20 → parseFieldDescriptor (TX0 k).2.2.1 = some (tyX0 k) := by decide +kernel
abbrev cX0_init : ByteArray := prog_2_method_1_code
def yX0_init : MethodName := ⟨RX0, "<init>", "()V"⟩
abbrev cX0_takeStops : ByteArray := prog_2_method_2_code
def yX0_takeStops : MethodName := ⟨RX0, "takeStops", "(LOrganWind$State;)V"⟩
abbrev cX0_takeBellows : ByteArray := prog_2_method_3_code
def yX0_takeBellows : MethodName := ⟨RX0, "takeBellows", "(LOrganWind$State;)V"⟩
abbrev cX0_manualOf : ByteArray := prog_2_method_4_code
def yX0_manualOf : MethodName := ⟨RX0, "manualOf", "(I)I"⟩
abbrev cX0_need : ByteArray := prog_2_method_5_code
def yX0_need : MethodName := ⟨RX0, "need", "(II)I"⟩
abbrev cX0_actingKeys : ByteArray := prog_2_method_6_code
def yX0_actingKeys : MethodName := ⟨RX0, "actingKeys", "(I)I"⟩
abbrev cX0_reservoirPressure : ByteArray := prog_2_method_7_code
def yX0_reservoirPressure : MethodName := ⟨RX0, "reservoirPressure", "()I"⟩
abbrev cX0_pump : ByteArray := prog_2_method_8_code
def yX0_pump : MethodName := ⟨RX0, "pump", "()V"⟩
abbrev cX0_beginStroke : ByteArray := prog_2_method_9_code
def yX0_beginStroke : MethodName := ⟨RX0, "beginStroke", "()V"⟩
abbrev cX0_makePart : ByteArray := prog_2_method_10_code
def yX0_makePart : MethodName := ⟨RX0, "makePart", "()V"⟩
def RX1 : String := "OrganWind$Text"
def TX1 : u_T := fun k => match k with
  | 0 => ("OrganWind$Text", "letters", "[I", true)
  | 1 => ("OrganWind$Text", "length", "I", false)
  | 2 => ("OrganWind$Text", "at", "I", false)
  | 3 => ("OrganWind$Text", "fault", "I", false)
  | 4 => ("OrganWind$Text", "kind", "I", false)
  | 5 => ("OrganWind$Text", "place", "I", false)
  | _ => ("OrganWind$Text", "number", "I", false)
def tyX1 : Nat → FieldType := fun k => match k with
  | 0 => .array .int
  | 1 => .int
  | 2 => .int
  | 3 => .int
  | 4 => .int
  | 5 => .int
  | _ => .int
abbrev wsX10 : List Cond := u_ws RX1 TX1 7
theorem nmX1 : ∀ a, a < 7 → ∀ b, b < 7 → a ≠ b → (TX1 a).2.1 ≠ (TX1 b).2.1 := by decide +kernel
theorem tyX1_ok : ∀ k, k < 7 → parseFieldDescriptor (TX1 k).2.2.1 = some (tyX1 k) := by decide +kernel
abbrev cX1_init : ByteArray := prog_3_method_1_code
def yX1_init : MethodName := ⟨RX1, "<init>", "()V"⟩
abbrev cX1_add : ByteArray := prog_3_method_2_code
def yX1_add : MethodName := ⟨RX1, "add", "(I)Z"⟩
abbrev cX1_begin : ByteArray := prog_3_method_3_code
def yX1_begin : MethodName := ⟨RX1, "begin", "()V"⟩
abbrev cX1_hasMore : ByteArray := prog_3_method_4_code
def yX1_hasMore : MethodName := ⟨RX1, "hasMore", "()Z"⟩
abbrev cX1_findFault : ByteArray := prog_3_method_5_code
def yX1_findFault : MethodName := ⟨RX1, "findFault", "()I"⟩
abbrev cX1_readAct : ByteArray := prog_3_method_6_code
def yX1_readAct : MethodName := ⟨RX1, "readAct", "()V"⟩
abbrev cX1_readDigit : ByteArray := prog_3_method_7_code
def yX1_readDigit : MethodName := ⟨RX1, "readDigit", "(I)I"⟩
abbrev cX1_readNumber : ByteArray := prog_3_method_8_code
def yX1_readNumber : MethodName := ⟨RX1, "readNumber", "(II)I"⟩
abbrev cX1_isDigitHere : ByteArray := prog_3_method_9_code
def yX1_isDigitHere : MethodName := ⟨RX1, "isDigitHere", "()Z"⟩
abbrev cX1_letterHere : ByteArray := prog_3_method_10_code
def yX1_letterHere : MethodName := ⟨RX1, "letterHere", "()I"⟩
def RX2 : String := "OrganWind$Wind"
def TX2 : u_T := fun k => match k with
  | 0 => ("OrganWind$Wind", "open", "[I", true)
  | 1 => ("OrganWind$Wind", "needs", "[I", true)
  | 2 => ("OrganWind$Wind", "pressure", "[I", true)
  | 3 => ("OrganWind$Wind", "asked", "[I", true)
  | 4 => ("OrganWind$Wind", "gets", "[I", true)
  | _ => ("OrganWind$Wind", "speaking", "[I", true)
def tyX2 : Nat → FieldType := fun k => match k with
  | 0 => .array .int
  | 1 => .array .int
  | 2 => .array .int
  | 3 => .array .int
  | 4 => .array .int
  | _ => .array .int
abbrev wsX20 : List Cond := u_ws RX2 TX2 6
theorem nmX2 : ∀ a, a < 6 → ∀ b, b < 6 → a ≠ b → (TX2 a).2.1 ≠ (TX2 b).2.1 := by decide +kernel
theorem tyX2_ok : ∀ k, k < 6 → parseFieldDescriptor (TX2 k).2.2.1 = some (tyX2 k) := by decide +kernel
abbrev cX2_init : ByteArray := prog_4_method_1_code
def yX2_init : MethodName := ⟨RX2, "<init>", "()V"⟩
abbrev cX2_listen : ByteArray := prog_4_method_2_code
def yX2_listen : MethodName := ⟨RX2, "listen", "(LOrganWind$State;IZ)V"⟩
abbrev cX2_openPipes : ByteArray := prog_4_method_3_code
def yX2_openPipes : MethodName := ⟨RX2, "openPipes", "(LOrganWind$State;IZ)V"⟩
abbrev cX2_setPressures : ByteArray := prog_4_method_4_code
def yX2_setPressures : MethodName := ⟨RX2, "setPressures", "(LOrganWind$State;)V"⟩
abbrev cX2_asks : ByteArray := prog_4_method_5_code
def yX2_asks : MethodName := ⟨RX2, "asks", "(LOrganWind$State;II)I"⟩
abbrev cX2_addUpAsked : ByteArray := prog_4_method_6_code
def yX2_addUpAsked : MethodName := ⟨RX2, "addUpAsked", "(LOrganWind$State;)V"⟩
abbrev cX2_feedPipes : ByteArray := prog_4_method_7_code
def yX2_feedPipes : MethodName := ⟨RX2, "feedPipes", "(LOrganWind$State;)V"⟩
def RX3 : String := "OrganWind"
def TX3 : u_T := fun k => match k with
  | 0 => ("OrganWind", "organ", "LOrganWind$State;", true)
  | 1 => ("OrganWind", "forecast", "LOrganWind$State;", true)
  | 2 => ("OrganWind", "history", "[LOrganWind$State;", true)
  | 3 => ("OrganWind", "slots", "[LOrganWind$State;", true)
  | 4 => ("OrganWind", "saved", "[Z", true)
  | 5 => ("OrganWind", "text", "LOrganWind$Text;", true)
  | 6 => ("OrganWind", "wind", "LOrganWind$Wind;", true)
  | 7 => ("OrganWind", "trial", "LOrganWind$Wind;", true)
  | _ => ("OrganWind", "recorded", "I", false)
def tyX3 : Nat → FieldType := fun k => match k with
  | 0 => .object "OrganWind$State"
  | 1 => .object "OrganWind$State"
  | 2 => .array (.object "OrganWind$State")
  | 3 => .array (.object "OrganWind$State")
  | 4 => .array .boolean
  | 5 => .object "OrganWind$Text"
  | 6 => .object "OrganWind$Wind"
  | 7 => .object "OrganWind$Wind"
  | _ => .int
abbrev wsX30 : List Cond := u_ws RX3 TX3 9
theorem nmX3 : ∀ a, a < 9 → ∀ b, b < 9 → a ≠ b → (TX3 a).2.1 ≠ (TX3 b).2.1 := by decide +kernel
theorem tyX3_ok : ∀ k, k < 9 → parseFieldDescriptor (TX3 k).2.2.1 = some (tyX3 k) := by decide +kernel
abbrev cX3_init : ByteArray := prog_1_method_1_code
def yX3_init : MethodName := ⟨RX3, "<init>", "()V"⟩
abbrev cX3_layOut : ByteArray := prog_1_method_2_code
def yX3_layOut : MethodName := ⟨RX3, "layOut", "(IIII)I"⟩
abbrev cX3_stop : ByteArray := prog_1_method_3_code
def yX3_stop : MethodName := ⟨RX3, "stop", "(II)I"⟩
abbrev cX3_set : ByteArray := prog_1_method_4_code
def yX3_set : MethodName := ⟨RX3, "set", "(II)I"⟩
abbrev cX3_cipher : ByteArray := prog_1_method_5_code
def yX3_cipher : MethodName := ⟨RX3, "cipher", "(IIZ)I"⟩
abbrev cX3_draw : ByteArray := prog_1_method_6_code
def yX3_draw : MethodName := ⟨RX3, "draw", "(IZ)I"⟩
abbrev cX3_press : ByteArray := prog_1_method_7_code
def yX3_press : MethodName := ⟨RX3, "press", "(IIZ)I"⟩
abbrev cX3_couple : ByteArray := prog_1_method_8_code
def yX3_couple : MethodName := ⟨RX3, "couple", "(ZZ)I"⟩
abbrev cX3_tick : ByteArray := prog_1_method_9_code
def yX3_tick : MethodName := ⟨RX3, "tick", "(I)I"⟩
abbrev cX3_append : ByteArray := prog_1_method_10_code
def yX3_append : MethodName := ⟨RX3, "append", "(I)I"⟩
abbrev cX3_play : ByteArray := prog_1_method_13_code
def yX3_play : MethodName := ⟨RX3, "play", "()I"⟩
abbrev cX3_carryOutAct : ByteArray := prog_1_method_14_code
def yX3_carryOutAct : MethodName := ⟨RX3, "carryOutAct", "()V"⟩
abbrev cX3_tell : ByteArray := prog_1_method_15_code
def yX3_tell : MethodName := ⟨RX3, "tell", "(I)I"⟩
abbrev cX3_numberTold : ByteArray := prog_1_method_16_code
def yX3_numberTold : MethodName := ⟨RX3, "numberTold", "(I)I"⟩
abbrev cX3_chest : ByteArray := prog_1_method_17_code
def yX3_chest : MethodName := ⟨RX3, "chest", "(II)I"⟩
abbrev cX3_chestTold : ByteArray := prog_1_method_18_code
def yX3_chestTold : MethodName := ⟨RX3, "chestTold", "(II)I"⟩
abbrev cX3_strokes : ByteArray := prog_1_method_19_code
def yX3_strokes : MethodName := ⟨RX3, "strokes", "(I)I"⟩
abbrev cX3_pipe : ByteArray := prog_1_method_20_code
def yX3_pipe : MethodName := ⟨RX3, "pipe", "(III)I"⟩
abbrev cX3_pipeTold : ByteArray := prog_1_method_21_code
def yX3_pipeTold : MethodName := ⟨RX3, "pipeTold", "(III)I"⟩
abbrev cX3_reason : ByteArray := prog_1_method_22_code
def yX3_reason : MethodName := ⟨RX3, "reason", "(II)I"⟩
abbrev cX3_reasonTold : ByteArray := prog_1_method_23_code
def yX3_reasonTold : MethodName := ⟨RX3, "reasonTold", "(II)I"⟩
abbrev cX3_tune : ByteArray := prog_1_method_24_code
def yX3_tune : MethodName := ⟨RX3, "tune", "(II)I"⟩
abbrev cX3_mistuned : ByteArray := prog_1_method_25_code
def yX3_mistuned : MethodName := ⟨RX3, "mistuned", "()I"⟩
abbrev cX3_greatestDifference : ByteArray := prog_1_method_26_code
def yX3_greatestDifference : MethodName := ⟨RX3, "greatestDifference", "()I"⟩
abbrev cX3_search : ByteArray := prog_1_method_27_code
def yX3_search : MethodName := ⟨RX3, "search", "(I)I"⟩
abbrev cX3_cipheringStop : ByteArray := prog_1_method_28_code
def yX3_cipheringStop : MethodName := ⟨RX3, "cipheringStop", "()I"⟩
abbrev cX3_testsOfSearch : ByteArray := prog_1_method_29_code
def yX3_testsOfSearch : MethodName := ⟨RX3, "testsOfSearch", "()I"⟩
abbrev cX3_lowestCipher : ByteArray := prog_1_method_30_code
def yX3_lowestCipher : MethodName := ⟨RX3, "lowestCipher", "(I)I"⟩
abbrev cX3_isHeard : ByteArray := prog_1_method_31_code
def yX3_isHeard : MethodName := ⟨RX3, "isHeard", "(I)Z"⟩
abbrev cX3_robbed : ByteArray := prog_1_method_32_code
def yX3_robbed : MethodName := ⟨RX3, "robbed", "(I)I"⟩
abbrev cX3_lowest : ByteArray := prog_1_method_33_code
def yX3_lowest : MethodName := ⟨RX3, "lowest", "(I)I"⟩
abbrev cX3_undo : ByteArray := prog_1_method_34_code
def yX3_undo : MethodName := ⟨RX3, "undo", "()I"⟩
abbrev cX3_save : ByteArray := prog_1_method_35_code
def yX3_save : MethodName := ⟨RX3, "save", "(I)I"⟩
abbrev cX3_restore : ByteArray := prog_1_method_36_code
def yX3_restore : MethodName := ⟨RX3, "restore", "(I)I"⟩
abbrev cX3_checksum : ByteArray := prog_1_method_37_code
def yX3_checksum : MethodName := ⟨RX3, "checksum", "()J"⟩
abbrev cX3_mixOpenPipes : ByteArray := prog_1_method_38_code
def yX3_mixOpenPipes : MethodName := ⟨RX3, "mixOpenPipes", "(J)J"⟩
abbrev cX3_mix : ByteArray := prog_1_method_39_code
def yX3_mix : MethodName := ⟨RX3, "mix", "(JI)J"⟩
abbrev cX3_readWind : ByteArray := prog_1_method_40_code
def yX3_readWind : MethodName := ⟨RX3, "readWind", "()V"⟩
abbrev cX3_letPass : ByteArray := prog_1_method_41_code
def yX3_letPass : MethodName := ⟨RX3, "letPass", "(LOrganWind$State;I)I"⟩
abbrev cX3_detuning : ByteArray := prog_1_method_42_code
def yX3_detuning : MethodName := ⟨RX3, "detuning", "(I)I"⟩
abbrev cX3_pitch : ByteArray := prog_1_method_43_code
def yX3_pitch : MethodName := ⟨RX3, "pitch", "(II)I"⟩
abbrev cX3_remember : ByteArray := prog_1_method_44_code
def yX3_remember : MethodName := ⟨RX3, "remember", "()V"⟩
abbrev cX3_copyState : ByteArray := prog_1_method_45_code
def yX3_copyState : MethodName := ⟨RX3, "copyState", "(LOrganWind$State;LOrganWind$State;)V"⟩
abbrev cX3_isStop : ByteArray := prog_1_method_46_code
def yX3_isStop : MethodName := ⟨RX3, "isStop", "(I)Z"⟩
abbrev cX3_isManual : ByteArray := prog_1_method_47_code
def yX3_isManual : MethodName := ⟨RX3, "isManual", "(I)Z"⟩
abbrev cX3_isKey : ByteArray := prog_1_method_48_code
def yX3_isKey : MethodName := ⟨RX3, "isKey", "(I)Z"⟩
abbrev cX3_isSlot : ByteArray := prog_1_method_49_code
def yX3_isSlot : MethodName := ⟨RX3, "isSlot", "(I)Z"⟩
abbrev cX3_isWithin : ByteArray := prog_1_method_50_code
def yX3_isWithin : MethodName := ⟨RX3, "isWithin", "(III)Z"⟩
abbrev cX3_pipeIndex : ByteArray := prog_1_method_51_code
def yX3_pipeIndex : MethodName := ⟨RX3, "pipeIndex", "(II)I"⟩
abbrev cX3_divide : ByteArray := prog_1_method_52_code
def yX3_divide : MethodName := ⟨RX3, "divide", "(II)I"⟩
abbrev cX3_isIn : ByteArray := prog_1_method_53_code
def yX3_isIn : MethodName := ⟨RX3, "isIn", "(II)Z"⟩
abbrev cX3_with : ByteArray := prog_1_method_54_code
def yX3_with : MethodName := ⟨RX3, "with", "(IIZ)I"⟩
abbrev cX3_rowOfStops : ByteArray := prog_1_method_55_code
def yX3_rowOfStops : MethodName := ⟨RX3, "rowOfStops", "(II)I"⟩
abbrev cX3_countOfAll : ByteArray := prog_1_method_56_code
def yX3_countOfAll : MethodName := ⟨RX3, "countOfAll", "([I)I"⟩
abbrev cX3_sumOf : ByteArray := prog_1_method_57_code
def yX3_sumOf : MethodName := ⟨RX3, "sumOf", "([I)I"⟩
def RX4 : String := "OrganWindModel"
def TX4 : u_T := fun k => match k with
  | _ => ("", "", "", false)
def tyX4 : Nat → FieldType := fun k => match k with
  | _ => .int
abbrev wsX40 : List Cond := u_ws RX4 TX4 0
theorem nmX4 : ∀ a, a < 0 → ∀ b, b < 0 → a ≠ b → (TX4 a).2.1 ≠ (TX4 b).2.1 := by decide +kernel
theorem tyX4_ok : ∀ k, k < 0 → parseFieldDescriptor (TX4 k).2.2.1 = some (tyX4 k) := by decide +kernel
def RJ6 : String := "java/lang/Integer"
def TJ6 : u_T := fun k => match k with
  | _ => ("", "", "", false)
def tyJ6 : Nat → FieldType := fun k => match k with
  | _ => .int
abbrev wsJ60 : List Cond := u_ws RJ6 TJ6 0
theorem nmJ6 : ∀ a, a < 0 → ∀ b, b < 0 → a ≠ b → (TJ6 a).2.1 ≠ (TJ6 b).2.1 := by decide +kernel
theorem tyJ6_ok : ∀ k, k < 0 → parseFieldDescriptor (TJ6 k).2.2.1 = some (tyJ6 k) := by decide +kernel
abbrev cJ6_bitCount_0f7a4 : ByteArray := prog_7_method_49_code
def yJ6_bitCount_0f7a4 : MethodName := ⟨RJ6, "bitCount", "(I)I"⟩
def RJ9 : String := "java/lang/Math"
def TJ9 : u_T := fun k => match k with
  | _ => ("", "", "", false)
def tyJ9 : Nat → FieldType := fun k => match k with
  | _ => .int
abbrev wsJ90 : List Cond := u_ws RJ9 TJ9 0
theorem nmJ9 : ∀ a, a < 0 → ∀ b, b < 0 → a ≠ b → (TJ9 a).2.1 ≠ (TJ9 b).2.1 := by decide +kernel
theorem tyJ9_ok : ∀ k, k < 0 → parseFieldDescriptor (TJ9 k).2.2.1 = some (tyJ9 k) := by decide +kernel
abbrev cJ9_floorDiv_7cf53 : ByteArray := prog_8_method_47_code
def yJ9_floorDiv_7cf53 : MethodName := ⟨RJ9, "floorDiv", "(II)I"⟩
abbrev cJ9_max_7cf53 : ByteArray := prog_8_method_65_code
def yJ9_max_7cf53 : MethodName := ⟨RJ9, "max", "(II)I"⟩
abbrev cJ9_min_7cf53 : ByteArray := prog_8_method_69_code
def yJ9_min_7cf53 : MethodName := ⟨RJ9, "min", "(II)I"⟩
def RJ10 : String := "java/lang/System"
def TJ10 : u_T := fun k => match k with
  | _ => ("", "", "", false)
def tyJ10 : Nat → FieldType := fun k => match k with
  | _ => .int
abbrev wsJ100 : List Cond := u_ws RJ10 TJ10 0
theorem nmJ10 : ∀ a, a < 0 → ∀ b, b < 0 → a ≠ b → (TJ10 a).2.1 ≠ (TJ10 b).2.1 := by decide +kernel
theorem tyJ10_ok : ∀ k, k < 0 → parseFieldDescriptor (TJ10 k).2.2.1 = some (tyJ10 k) := by decide +kernel
def RL : String := "OrganWindLaw"
abbrev cL_cell : ByteArray := method_2_code
def yL_cell : MethodName := ⟨RL, "cell", "([II)I"⟩
abbrev cL_begins : ByteArray := method_3_code
def yL_begins : MethodName := ⟨RL, "begins", "([I[I[I)V"⟩
abbrev cL_low : ByteArray := method_4_code
def yL_low : MethodName := ⟨RL, "low", "(I)I"⟩
abbrev cL_high : ByteArray := method_5_code
def yL_high : MethodName := ⟨RL, "high", "(I)I"⟩
abbrev cL_bits : ByteArray := method_6_code
def yL_bits : MethodName := ⟨RL, "bits", "(I)I"⟩
abbrev cL_drawn : ByteArray := method_7_code
def yL_drawn : MethodName := ⟨RL, "drawn", "([I)I"⟩
abbrev cL_acts : ByteArray := method_12_code
def yL_acts : MethodName := ⟨RL, "acts", "(LOrganWind;[I[I[I[II)Z"⟩
abbrev cL_sound : ByteArray := method_14_code
def yL_sound : MethodName := ⟨RL, "sound", "(LOrganWind;I)Z"⟩
abbrev cL_goes : ByteArray := method_15_code
def yL_goes : MethodName := ⟨RL, "goes", "(LOrganWind;I)Z"⟩
abbrev cL_searches : ByteArray := method_16_code
def yL_searches : MethodName := ⟨RL, "searches", "(LOrganWind;)Z"⟩
abbrev cL_refuses : ByteArray := method_17_code
def yL_refuses : MethodName := ⟨RL, "refuses", "(LOrganWind;)Z"⟩
abbrev cL_law : ByteArray := code
def yL_law : MethodName := ⟨RL, "law", "([I)Z"⟩
abbrev vwCl : List vw_C := [(RX0, TX0, 20), (RX1, TX1, 7), (RX2, TX2, 6), (RX3, TX3, 9)]
