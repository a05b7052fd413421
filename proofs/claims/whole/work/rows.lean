section
/-! ===== BEGIN words of one list among another's, by their places ===== -/
theorem goodIn_r {big : List Cond} (ws : List Cond) (ps : List Nat) (hp : ws = ps.filterMap (fun i => big[i]?)) (h : ws.all goodWord = true) : GoodIn big ws := by
  intro w hw
  have h1 := List.all_eq_true.mp h w hw
  rw [hp] at hw
  obtain ⟨i, -, hi⟩ := List.mem_filterMap.mp hw
  have hm : w ∈ big := by first | exact List.mem_of_getElem? hi | exact List.getElem?_mem hi
  exact ⟨hm, good_of_word h1⟩
theorem goodIn_app {big a b : List Cond} (ha : GoodIn big a) (hb : GoodIn big b) : GoodIn big (a ++ b) := fun w h => (List.mem_append.mp h).elim (ha w) (hb w)
theorem goodIn_ca {big a b : List Cond} {c : Cond} (ha : GoodIn big (c :: a)) (hb : GoodIn big b) : GoodIn big (c :: (a ++ b)) := fun w h => (List.mem_cons.mp h).elim (fun e => ha w (List.mem_cons.mpr (Or.inl e))) (fun h => (List.mem_append.mp h).elim (fun h => ha w (List.mem_cons.mpr (Or.inr h))) (hb w))
theorem goodIn_sub {big ws : List Cond} (hm : ∀ w ∈ ws, w ∈ big) (h : ws.all goodWord = true) : GoodIn big ws := fun w hw => ⟨hm w hw, good_of_word (List.all_eq_true.mp h w hw)⟩
/-! ===== END ===== -/

/-! ===== BEGIN printed: names, fields, word lists, decode rows ===== -/
def RX0 : String := "GnatPortraits$Capital"
def TX0 : u_T := fun k => match k with
  | 0 => ("GnatPortraits$Capital", "isTold", "Z", false)
  | 1 => ("GnatPortraits$Capital", "gnats", "I", false)
  | 2 => ("GnatPortraits$Capital", "sitters", "I", false)
  | 3 => ("GnatPortraits$Capital", "windows", "I", false)
  | 4 => ("GnatPortraits$Capital", "critics", "I", false)
  | 5 => ("GnatPortraits$Capital", "outlines", "[I", true)
  | 6 => ("GnatPortraits$Capital", "firstLamps", "[I", true)
  | _ => ("GnatPortraits$Capital", "views", "[I", true)
def tyX0 : Nat → FieldType := fun k => match k with
  | 0 => .boolean
  | 1 => .int
  | 2 => .int
  | 3 => .int
  | 4 => .int
  | 5 => .array .int
  | 6 => .array .int
  | _ => .array .int
abbrev wsX00 : List Cond := u_ws RX0 TX0 8
theorem nmX0 : ∀ a, a < 8 → ∀ b, b < 8 → a ≠ b → (TX0 a).2.1 ≠ (TX0 b).2.1 := by decide +kernel
theorem tyX0_ok : ∀ k, k < 8 → parseFieldDescriptor (TX0 k).2.2.1 = some (tyX0 k) := by decide +kernel
abbrev cX0_init : ByteArray := prog_2_method_1_code
def yX0_init : MethodName := ⟨RX0, "<init>", "()V"⟩
abbrev cX0_empty : ByteArray := prog_2_method_2_code
def yX0_empty : MethodName := ⟨RX0, "empty", "()V"⟩
abbrev cX0_takeFrom : ByteArray := prog_2_method_3_code
def yX0_takeFrom : MethodName := ⟨RX0, "takeFrom", "(LGnatPortraits$Capital;)V"⟩
def RX1 : String := "GnatPortraits$Evening"
def TX1 : u_T := fun k => match k with
  | 0 => ("GnatPortraits$Evening", "blowing", "I", false)
  | 1 => ("GnatPortraits$Evening", "batted", "I", false)
  | 2 => ("GnatPortraits$Evening", "eyes", "I", false)
  | 3 => ("GnatPortraits$Evening", "raining", "Z", false)
  | 4 => ("GnatPortraits$Evening", "smoking", "I", false)
  | 5 => ("GnatPortraits$Evening", "dusks", "I", false)
  | 6 => ("GnatPortraits$Evening", "albumSize", "I", false)
  | 7 => ("GnatPortraits$Evening", "albumNext", "I", false)
  | 8 => ("GnatPortraits$Evening", "lamps", "[I", true)
  | 9 => ("GnatPortraits$Evening", "standing", "[I", true)
  | 10 => ("GnatPortraits$Evening", "glasses", "[I", true)
  | 11 => ("GnatPortraits$Evening", "albumWindows", "[I", true)
  | 12 => ("GnatPortraits$Evening", "albumSitters", "[I", true)
  | _ => ("GnatPortraits$Evening", "albumDots", "[I", true)
def tyX1 : Nat → FieldType := fun k => match k with
  | 0 => .int
  | 1 => .int
  | 2 => .int
  | 3 => .boolean
  | 4 => .int
  | 5 => .int
  | 6 => .int
  | 7 => .int
  | 8 => .array .int
  | 9 => .array .int
  | 10 => .array .int
  | 11 => .array .int
  | 12 => .array .int
  | _ => .array .int
abbrev wsX10 : List Cond := u_ws RX1 TX1 14
theorem nmX1 : ∀ a, a < 14 → ∀ b, b < 14 → a ≠ b → (TX1 a).2.1 ≠ (TX1 b).2.1 := by decide +kernel
theorem tyX1_ok : ∀ k, k < 14 → parseFieldDescriptor (TX1 k).2.2.1 = some (tyX1 k) := by decide +kernel
abbrev cX1_init : ByteArray := prog_3_method_1_code
def yX1_init : MethodName := ⟨RX1, "<init>", "()V"⟩
abbrev cX1_begin : ByteArray := prog_3_method_2_code
def yX1_begin : MethodName := ⟨RX1, "begin", "(LGnatPortraits$Capital;)V"⟩
abbrev cX1_copy : ByteArray := prog_3_method_3_code
def yX1_copy : MethodName := ⟨RX1, "copy", "(LGnatPortraits$Evening;LGnatPortraits$Evening;)V"⟩
abbrev cX1_windowOf : ByteArray := prog_3_method_4_code
def yX1_windowOf : MethodName := ⟨RX1, "windowOf", "(I)I"⟩
abbrev cX1_moveTo : ByteArray := prog_3_method_5_code
def yX1_moveTo : MethodName := ⟨RX1, "moveTo", "(II)V"⟩
abbrev cX1_keepInAlbum : ByteArray := prog_3_method_6_code
def yX1_keepInAlbum : MethodName := ⟨RX1, "keepInAlbum", "(III)V"⟩
abbrev cX1_albumPlace : ByteArray := prog_3_method_7_code
def yX1_albumPlace : MethodName := ⟨RX1, "albumPlace", "(I)I"⟩
abbrev cX1_timesInAlbum : ByteArray := prog_3_method_8_code
def yX1_timesInAlbum : MethodName := ⟨RX1, "timesInAlbum", "(I)I"⟩
abbrev cX1_endDusk : ByteArray := prog_3_method_9_code
def yX1_endDusk : MethodName := ⟨RX1, "endDusk", "()V"⟩
def RX2 : String := "GnatPortraits$Past"
def TX2 : u_T := fun k => match k with
  | 0 => ("GnatPortraits$Past", "evenings", "[LGnatPortraits$Evening;", true)
  | 1 => ("GnatPortraits$Past", "size", "I", false)
  | _ => ("GnatPortraits$Past", "next", "I", false)
def tyX2 : Nat → FieldType := fun k => match k with
  | 0 => .array (.object "GnatPortraits$Evening")
  | 1 => .int
  | _ => .int
abbrev wsX20 : List Cond := u_ws RX2 TX2 3
theorem nmX2 : ∀ a, a < 3 → ∀ b, b < 3 → a ≠ b → (TX2 a).2.1 ≠ (TX2 b).2.1 := by decide +kernel
theorem tyX2_ok : ∀ k, k < 3 → parseFieldDescriptor (TX2 k).2.2.1 = some (tyX2 k) := by decide +kernel
abbrev cX2_init : ByteArray := prog_4_method_1_code
def yX2_init : MethodName := ⟨RX2, "<init>", "()V"⟩
abbrev cX2_forget : ByteArray := prog_4_method_2_code
def yX2_forget : MethodName := ⟨RX2, "forget", "()V"⟩
abbrev cX2_remember : ByteArray := prog_4_method_3_code
def yX2_remember : MethodName := ⟨RX2, "remember", "(LGnatPortraits$Evening;)V"⟩
abbrev cX2_recall : ByteArray := prog_4_method_4_code
def yX2_recall : MethodName := ⟨RX2, "recall", "(LGnatPortraits$Evening;)V"⟩
def RX3 : String := "GnatPortraits$Placing"
def TX3 : u_T := fun k => match k with
  | 0 => ("GnatPortraits$Placing", "sitters", "I", false)
  | 1 => ("GnatPortraits$Placing", "windows", "I", false)
  | 2 => ("GnatPortraits$Placing", "most", "I", false)
  | 3 => ("GnatPortraits$Placing", "drawn", "[I", true)
  | 4 => ("GnatPortraits$Placing", "chosen", "[I", true)
  | _ => ("GnatPortraits$Placing", "best", "[I", true)
def tyX3 : Nat → FieldType := fun k => match k with
  | 0 => .int
  | 1 => .int
  | 2 => .int
  | 3 => .array .int
  | 4 => .array .int
  | _ => .array .int
abbrev wsX30 : List Cond := u_ws RX3 TX3 6
theorem nmX3 : ∀ a, a < 6 → ∀ b, b < 6 → a ≠ b → (TX3 a).2.1 ≠ (TX3 b).2.1 := by decide +kernel
theorem tyX3_ok : ∀ k, k < 6 → parseFieldDescriptor (TX3 k).2.2.1 = some (tyX3 k) := by decide +kernel
abbrev cX3_init : ByteArray := prog_5_method_1_code
def yX3_init : MethodName := ⟨RX3, "<init>", "()V"⟩
abbrev cX3_begin : ByteArray := prog_5_method_2_code
def yX3_begin : MethodName := ⟨RX3, "begin", "(LGnatPortraits$Capital;)V"⟩
abbrev cX3_takeChosen : ByteArray := prog_5_method_3_code
def yX3_takeChosen : MethodName := ⟨RX3, "takeChosen", "(I)V"⟩
def RX4 : String := "GnatPortraits$Reader"
def TX4 : u_T := fun k => match k with
  | 0 => ("GnatPortraits$Reader", "letters", "[I", true)
  | 1 => ("GnatPortraits$Reader", "found", "LGnatPortraits$Capital;", true)
  | 2 => ("GnatPortraits$Reader", "length", "I", false)
  | 3 => ("GnatPortraits$Reader", "at", "I", false)
  | 4 => ("GnatPortraits$Reader", "faultKind", "I", false)
  | _ => ("GnatPortraits$Reader", "faultAt", "I", false)
def tyX4 : Nat → FieldType := fun k => match k with
  | 0 => .array .int
  | 1 => .object "GnatPortraits$Capital"
  | 2 => .int
  | 3 => .int
  | 4 => .int
  | _ => .int
abbrev wsX40 : List Cond := u_ws RX4 TX4 6
theorem nmX4 : ∀ a, a < 6 → ∀ b, b < 6 → a ≠ b → (TX4 a).2.1 ≠ (TX4 b).2.1 := by decide +kernel
theorem tyX4_ok : ∀ k, k < 6 → parseFieldDescriptor (TX4 k).2.2.1 = some (tyX4 k) := by decide +kernel
abbrev cX4_init : ByteArray := prog_6_method_1_code
def yX4_init : MethodName := ⟨RX4, "<init>", "()V"⟩
abbrev cX4_add : ByteArray := prog_6_method_2_code
def yX4_add : MethodName := ⟨RX4, "add", "(I)V"⟩
abbrev cX4_read : ByteArray := prog_6_method_3_code
def yX4_read : MethodName := ⟨RX4, "read", "()V"⟩
abbrev cX4_readClause : ByteArray := prog_6_method_4_code
def yX4_readClause : MethodName := ⟨RX4, "readClause", "()V"⟩
abbrev cX4_faultOfWord : ByteArray := prog_6_method_5_code
def yX4_faultOfWord : MethodName := ⟨RX4, "faultOfWord", "(I)I"⟩
abbrev cX4_readSitter : ByteArray := prog_6_method_6_code
def yX4_readSitter : MethodName := ⟨RX4, "readSitter", "()V"⟩
abbrev cX4_readNumber : ByteArray := prog_6_method_7_code
def yX4_readNumber : MethodName := ⟨RX4, "readNumber", "(II)I"⟩
abbrev cX4_readSign : ByteArray := prog_6_method_8_code
def yX4_readSign : MethodName := ⟨RX4, "readSign", "(I)V"⟩
abbrev cX4_skipBlanks : ByteArray := prog_6_method_9_code
def yX4_skipBlanks : MethodName := ⟨RX4, "skipBlanks", "()V"⟩
abbrev cX4_letterHere : ByteArray := prog_6_method_10_code
def yX4_letterHere : MethodName := ⟨RX4, "letterHere", "()I"⟩
abbrev cX4_isFigure : ByteArray := prog_6_method_11_code
def yX4_isFigure : MethodName := ⟨RX4, "isFigure", "(I)Z"⟩
abbrev cX4_blame : ByteArray := prog_6_method_12_code
def yX4_blame : MethodName := ⟨RX4, "blame", "(II)V"⟩
def RX5 : String := "GnatPortraits"
def TX5 : u_T := fun k => match k with
  | 0 => ("GnatPortraits", "reader", "LGnatPortraits$Reader;", true)
  | 1 => ("GnatPortraits", "city", "LGnatPortraits$Capital;", true)
  | 2 => ("GnatPortraits", "now", "LGnatPortraits$Evening;", true)
  | 3 => ("GnatPortraits", "past", "LGnatPortraits$Past;", true)
  | 4 => ("GnatPortraits", "images", "[LGnatPortraits$Evening;", true)
  | 5 => ("GnatPortraits", "imageKept", "[Z", true)
  | 6 => ("GnatPortraits", "imageSeeds", "[I", true)
  | 7 => ("GnatPortraits", "placing", "LGnatPortraits$Placing;", true)
  | 8 => ("GnatPortraits", "tally", "[I", true)
  | 9 => ("GnatPortraits", "seedNow", "I", false)
  | 10 => ("GnatPortraits", "toldOf", "I", false)
  | 11 => ("GnatPortraits", "toldDrawn", "I", false)
  | _ => ("GnatPortraits", "toldMissing", "I", false)
def tyX5 : Nat → FieldType := fun k => match k with
  | 0 => .object "GnatPortraits$Reader"
  | 1 => .object "GnatPortraits$Capital"
  | 2 => .object "GnatPortraits$Evening"
  | 3 => .object "GnatPortraits$Past"
  | 4 => .array (.object "GnatPortraits$Evening")
  | 5 => .array .boolean
  | 6 => .array .int
  | 7 => .object "GnatPortraits$Placing"
  | 8 => .array .int
  | 9 => .int
  | 10 => .int
  | 11 => .int
  | _ => .int
abbrev wsX50 : List Cond := u_ws RX5 TX5 13
theorem nmX5 : ∀ a, a < 13 → ∀ b, b < 13 → a ≠ b → (TX5 a).2.1 ≠ (TX5 b).2.1 := by decide +kernel
theorem tyX5_ok : ∀ k, k < 13 → parseFieldDescriptor (TX5 k).2.2.1 = some (tyX5 k) := by decide +kernel
abbrev cX5_init : ByteArray := prog_1_method_1_code
def yX5_init : MethodName := ⟨RX5, "<init>", "()V"⟩
abbrev cX5_feed : ByteArray := prog_1_method_2_code
def yX5_feed : MethodName := ⟨RX5, "feed", "(I)I"⟩
abbrev cX5_capital : ByteArray := prog_1_method_3_code
def yX5_capital : MethodName := ⟨RX5, "capital", "()I"⟩
abbrev cX5_fault : ByteArray := prog_1_method_4_code
def yX5_fault : MethodName := ⟨RX5, "fault", "()I"⟩
abbrev cX5_told : ByteArray := prog_1_method_5_code
def yX5_told : MethodName := ⟨RX5, "told", "(I)I"⟩
abbrev cX5_sitter : ByteArray := prog_1_method_6_code
def yX5_sitter : MethodName := ⟨RX5, "sitter", "(II)I"⟩
abbrev cX5_window : ByteArray := prog_1_method_7_code
def yX5_window : MethodName := ⟨RX5, "window", "(II)I"⟩
abbrev cX5_album : ByteArray := prog_1_method_8_code
def yX5_album : MethodName := ⟨RX5, "album", "(II)I"⟩
abbrev cX5_glass : ByteArray := prog_1_method_9_code
def yX5_glass : MethodName := ⟨RX5, "glass", "(I)I"⟩
abbrev cX5_stand : ByteArray := prog_1_method_10_code
def yX5_stand : MethodName := ⟨RX5, "stand", "(II)I"⟩
abbrev cX5_go : ByteArray := prog_1_method_11_code
def yX5_go : MethodName := ⟨RX5, "go", "(I)I"⟩
abbrev cX5_lamp : ByteArray := prog_1_method_12_code
def yX5_lamp : MethodName := ⟨RX5, "lamp", "(II)I"⟩
abbrev cX5_wind : ByteArray := prog_1_method_13_code
def yX5_wind : MethodName := ⟨RX5, "wind", "(I)I"⟩
abbrev cX5_bats : ByteArray := prog_1_method_14_code
def yX5_bats : MethodName := ⟨RX5, "bats", "(I)I"⟩
abbrev cX5_eye : ByteArray := prog_1_method_15_code
def yX5_eye : MethodName := ⟨RX5, "eye", "(I)I"⟩
abbrev cX5_rain : ByteArray := prog_1_method_16_code
def yX5_rain : MethodName := ⟨RX5, "rain", "(Z)I"⟩
abbrev cX5_smoke : ByteArray := prog_1_method_17_code
def yX5_smoke : MethodName := ⟨RX5, "smoke", "(IZ)I"⟩
abbrev cX5_press : ByteArray := prog_1_method_18_code
def yX5_press : MethodName := ⟨RX5, "press", "(II)I"⟩
abbrev cX5_dusk : ByteArray := prog_1_method_19_code
def yX5_dusk : MethodName := ⟨RX5, "dusk", "(I)I"⟩
abbrev cX5_drift : ByteArray := prog_1_method_20_code
def yX5_drift : MethodName := ⟨RX5, "drift", "(I)I"⟩
abbrev cX5_undo : ByteArray := prog_1_method_21_code
def yX5_undo : MethodName := ⟨RX5, "undo", "()I"⟩
abbrev cX5_like : ByteArray := prog_1_method_22_code
def yX5_like : MethodName := ⟨RX5, "like", "(II)I"⟩
abbrev cX5_seenAs : ByteArray := prog_1_method_23_code
def yX5_seenAs : MethodName := ⟨RX5, "seenAs", "(I)I"⟩
abbrev cX5_bestLamp : ByteArray := prog_1_method_24_code
def yX5_bestLamp : MethodName := ⟨RX5, "bestLamp", "(III)I"⟩
abbrev cX5_who : ByteArray := prog_1_method_25_code
def yX5_who : MethodName := ⟨RX5, "who", "(II)I"⟩
abbrev cX5_parted : ByteArray := prog_1_method_26_code
def yX5_parted : MethodName := ⟨RX5, "parted", "(II)I"⟩
abbrev cX5_places : ByteArray := prog_1_method_27_code
def yX5_places : MethodName := ⟨RX5, "places", "(I)I"⟩
abbrev cX5_apart : ByteArray := prog_1_method_28_code
def yX5_apart : MethodName := ⟨RX5, "apart", "(III)I"⟩
abbrev cX5_turned : ByteArray := prog_1_method_29_code
def yX5_turned : MethodName := ⟨RX5, "turned", "(II)I"⟩
abbrev cX5_votes : ByteArray := prog_1_method_30_code
def yX5_votes : MethodName := ⟨RX5, "votes", "(II)I"⟩
abbrev cX5_clear : ByteArray := prog_1_method_31_code
def yX5_clear : MethodName := ⟨RX5, "clear", "(II)I"⟩
abbrev cX5_tellOf : ByteArray := prog_1_method_32_code
def yX5_tellOf : MethodName := ⟨RX5, "tellOf", "(IZ)I"⟩
abbrev cX5_ask : ByteArray := prog_1_method_33_code
def yX5_ask : MethodName := ⟨RX5, "ask", "()I"⟩
abbrev cX5_tear : ByteArray := prog_1_method_34_code
def yX5_tear : MethodName := ⟨RX5, "tear", "()I"⟩
abbrev cX5_seed : ByteArray := prog_1_method_35_code
def yX5_seed : MethodName := ⟨RX5, "seed", "(I)I"⟩
abbrev cX5_keep : ByteArray := prog_1_method_36_code
def yX5_keep : MethodName := ⟨RX5, "keep", "(I)I"⟩
abbrev cX5_goBack : ByteArray := prog_1_method_37_code
def yX5_goBack : MethodName := ⟨RX5, "goBack", "(I)I"⟩
abbrev cX5_isSitter : ByteArray := prog_1_method_38_code
def yX5_isSitter : MethodName := ⟨RX5, "isSitter", "(I)Z"⟩
abbrev cX5_isWindow : ByteArray := prog_1_method_39_code
def yX5_isWindow : MethodName := ⟨RX5, "isWindow", "(I)Z"⟩
abbrev cX5_isGlass : ByteArray := prog_1_method_40_code
def yX5_isGlass : MethodName := ⟨RX5, "isGlass", "(I)Z"⟩
abbrev cX5_isImage : ByteArray := prog_1_method_41_code
def yX5_isImage : MethodName := ⟨RX5, "isImage", "(I)Z"⟩
abbrev cX5_isDot : ByteArray := prog_1_method_42_code
def yX5_isDot : MethodName := ⟨RX5, "isDot", "(I)Z"⟩
abbrev cX5_isSetOfDots : ByteArray := prog_1_method_43_code
def yX5_isSetOfDots : MethodName := ⟨RX5, "isSetOfDots", "(I)Z"⟩
abbrev cX5_refusalOfDusks : ByteArray := prog_1_method_44_code
def yX5_refusalOfDusks : MethodName := ⟨RX5, "refusalOfDusks", "(I)I"⟩
abbrev cX5_shifted : ByteArray := prog_1_method_45_code
def yX5_shifted : MethodName := ⟨RX5, "shifted", "(II)I"⟩
abbrev cX5_lowestOf : ByteArray := prog_1_method_46_code
def yX5_lowestOf : MethodName := ⟨RX5, "lowestOf", "(II)I"⟩
abbrev cX5_likeness : ByteArray := prog_1_method_47_code
def yX5_likeness : MethodName := ⟨RX5, "likeness", "(II)I"⟩
abbrev cX5_drawnBy : ByteArray := prog_1_method_48_code
def yX5_drawnBy : MethodName := ⟨RX5, "drawnBy", "(II)I"⟩
abbrev cX5_drawnAt : ByteArray := prog_1_method_49_code
def yX5_drawnAt : MethodName := ⟨RX5, "drawnAt", "(I)I"⟩
abbrev cX5_cloudNow : ByteArray := prog_1_method_50_code
def yX5_cloudNow : MethodName := ⟨RX5, "cloudNow", "()I"⟩
abbrev cX5_mostLike : ByteArray := prog_1_method_51_code
def yX5_mostLike : MethodName := ⟨RX5, "mostLike", "(II)I"⟩
abbrev cX5_holesOf : ByteArray := prog_1_method_52_code
def yX5_holesOf : MethodName := ⟨RX5, "holesOf", "(I)I"⟩
abbrev cX5_neighboursOf : ByteArray := prog_1_method_53_code
def yX5_neighboursOf : MethodName := ⟨RX5, "neighboursOf", "(I)I"⟩
abbrev cX5_mirrorOf : ByteArray := prog_1_method_54_code
def yX5_mirrorOf : MethodName := ⟨RX5, "mirrorOf", "(I)I"⟩
abbrev cX5_passDusk : ByteArray := prog_1_method_55_code
def yX5_passDusk : MethodName := ⟨RX5, "passDusk", "()V"⟩
abbrev cX5_happenByDraw : ByteArray := prog_1_method_56_code
def yX5_happenByDraw : MethodName := ⟨RX5, "happenByDraw", "()V"⟩
abbrev cX5_standByDraw : ByteArray := prog_1_method_57_code
def yX5_standByDraw : MethodName := ⟨RX5, "standByDraw", "()V"⟩
abbrev cX5_nextDraw : ByteArray := prog_1_method_58_code
def yX5_nextDraw : MethodName := ⟨RX5, "nextDraw", "(I)I"⟩
abbrev cX5_placeFrom : ByteArray := prog_1_method_59_code
def yX5_placeFrom : MethodName := ⟨RX5, "placeFrom", "(LGnatPortraits$Placing;IIII)V"⟩
abbrev cX5_countVotes : ByteArray := prog_1_method_60_code
def yX5_countVotes : MethodName := ⟨RX5, "countVotes", "(I)V"⟩
abbrev cX5_elected : ByteArray := prog_1_method_61_code
def yX5_elected : MethodName := ⟨RX5, "elected", "()I"⟩
abbrev cX5_forgetToldOf : ByteArray := prog_1_method_62_code
def yX5_forgetToldOf : MethodName := ⟨RX5, "forgetToldOf", "()V"⟩
abbrev cX5_fits : ByteArray := prog_1_method_63_code
def yX5_fits : MethodName := ⟨RX5, "fits", "(III)Z"⟩
abbrev cX5_pairsThatFit : ByteArray := prog_1_method_64_code
def yX5_pairsThatFit : MethodName := ⟨RX5, "pairsThatFit", "(I)I"⟩
abbrev cX5_sittersThatFit : ByteArray := prog_1_method_65_code
def yX5_sittersThatFit : MethodName := ⟨RX5, "sittersThatFit", "()I"⟩
def RX6 : String := "GnatPortraitsModel"
def TX6 : u_T := fun k => match k with
  | 0 => ("GnatPortraitsModel", "gnats", "I", false)
  | 1 => ("GnatPortraitsModel", "sitters", "I", false)
  | 2 => ("GnatPortraitsModel", "outline", "[I", true)
  | 3 => ("GnatPortraitsModel", "windows", "I", false)
  | 4 => ("GnatPortraitsModel", "lampTold", "[I", true)
  | 5 => ("GnatPortraitsModel", "critics", "I", false)
  | 6 => ("GnatPortraitsModel", "looks", "[I", true)
  | 7 => ("GnatPortraitsModel", "now", "[I", true)
  | 8 => ("GnatPortraitsModel", "seed", "I", false)
  | 9 => ("GnatPortraitsModel", "text", "[I", true)
  | 10 => ("GnatPortraitsModel", "texted", "I", false)
  | 11 => ("GnatPortraitsModel", "faultPlace", "I", false)
  | 12 => ("GnatPortraitsModel", "at0", "I", false)
  | 13 => ("GnatPortraitsModel", "number", "I", false)
  | 14 => ("GnatPortraitsModel", "numberAt", "I", false)
  | 15 => ("GnatPortraitsModel", "readGnats", "I", false)
  | 16 => ("GnatPortraitsModel", "readSitters", "I", false)
  | 17 => ("GnatPortraitsModel", "readOutline", "[I", true)
  | 18 => ("GnatPortraitsModel", "readWindows", "I", false)
  | 19 => ("GnatPortraitsModel", "readLamp", "[I", true)
  | 20 => ("GnatPortraitsModel", "readCritics", "I", false)
  | 21 => ("GnatPortraitsModel", "readLooks", "[I", true)
  | 22 => ("GnatPortraitsModel", "undos", "I", false)
  | 23 => ("GnatPortraitsModel", "past", "[I", true)
  | 24 => ("GnatPortraitsModel", "tried", "[I", true)
  | 25 => ("GnatPortraitsModel", "best", "[I", true)
  | 26 => ("GnatPortraitsModel", "dotsBy", "[I", true)
  | 27 => ("GnatPortraitsModel", "toldOf", "I", false)
  | 28 => ("GnatPortraitsModel", "dotTold", "[I", true)
  | 29 => ("GnatPortraitsModel", "isTold", "[I", true)
  | 30 => ("GnatPortraitsModel", "having", "[I", true)
  | 31 => ("GnatPortraitsModel", "images", "[I", true)
  | _ => ("GnatPortraitsModel", "isKept", "[Z", true)
def tyX6 : Nat → FieldType := fun k => match k with
  | 0 => .int
  | 1 => .int
  | 2 => .array .int
  | 3 => .int
  | 4 => .array .int
  | 5 => .int
  | 6 => .array .int
  | 7 => .array .int
  | 8 => .int
  | 9 => .array .int
  | 10 => .int
  | 11 => .int
  | 12 => .int
  | 13 => .int
  | 14 => .int
  | 15 => .int
  | 16 => .int
  | 17 => .array .int
  | 18 => .int
  | 19 => .array .int
  | 20 => .int
  | 21 => .array .int
  | 22 => .int
  | 23 => .array .int
  | 24 => .array .int
  | 25 => .array .int
  | 26 => .array .int
  | 27 => .int
  | 28 => .array .int
  | 29 => .array .int
  | 30 => .array .int
  | 31 => .array .int
  | _ => .array .boolean
abbrev wsX60 : List Cond := u_ws RX6 TX6 33
theorem nmX6 : ∀ a, a < 33 → ∀ b, b < 33 → a ≠ b → (TX6 a).2.1 ≠ (TX6 b).2.1 := by decide +kernel
theorem tyX6_ok : ∀ k, k < 33 → parseFieldDescriptor (TX6 k).2.2.1 = some (tyX6 k) := by decide +kernel
abbrev cX6_init : ByteArray := prog_8_method_1_code
def yX6_init : MethodName := ⟨RX6, "<init>", "()V"⟩
abbrev cX6_in : ByteArray := prog_8_method_3_code
def yX6_in : MethodName := ⟨RX6, "in", "(JJJ)Z"⟩
abbrev cX6_has : ByteArray := prog_8_method_4_code
def yX6_has : MethodName := ⟨RX6, "has", "(II)Z"⟩
abbrev cX6_ones : ByteArray := prog_8_method_5_code
def yX6_ones : MethodName := ⟨RX6, "ones", "(I)I"⟩
abbrev cX6_isCapital : ByteArray := prog_8_method_6_code
def yX6_isCapital : MethodName := ⟨RX6, "isCapital", "()Z"⟩
abbrev cX6_isSitter : ByteArray := prog_8_method_7_code
def yX6_isSitter : MethodName := ⟨RX6, "isSitter", "(I)Z"⟩
abbrev cX6_isWindow : ByteArray := prog_8_method_8_code
def yX6_isWindow : MethodName := ⟨RX6, "isWindow", "(I)Z"⟩
abbrev cX6_empties : ByteArray := prog_8_method_9_code
def yX6_empties : MethodName := ⟨RX6, "empties", "()V"⟩
abbrev cX6_feed : ByteArray := prog_8_method_10_code
def yX6_feed : MethodName := ⟨RX6, "feed", "(I)I"⟩
abbrev cX6_here : ByteArray := prog_8_method_11_code
def yX6_here : MethodName := ⟨RX6, "here", "()I"⟩
abbrev cX6_fails : ByteArray := prog_8_method_12_code
def yX6_fails : MethodName := ⟨RX6, "fails", "(II)I"⟩
abbrev cX6_takeNumber : ByteArray := prog_8_method_13_code
def yX6_takeNumber : MethodName := ⟨RX6, "takeNumber", "(II)I"⟩
abbrev cX6_takeGnats : ByteArray := prog_8_method_14_code
def yX6_takeGnats : MethodName := ⟨RX6, "takeGnats", "()I"⟩
abbrev cX6_takeSitter : ByteArray := prog_8_method_15_code
def yX6_takeSitter : MethodName := ⟨RX6, "takeSitter", "()I"⟩
abbrev cX6_takeWindow : ByteArray := prog_8_method_16_code
def yX6_takeWindow : MethodName := ⟨RX6, "takeWindow", "()I"⟩
abbrev cX6_takeCritic : ByteArray := prog_8_method_17_code
def yX6_takeCritic : MethodName := ⟨RX6, "takeCritic", "()I"⟩
abbrev cX6_isFull : ByteArray := prog_8_method_18_code
def yX6_isFull : MethodName := ⟨RX6, "isFull", "(I)Z"⟩
abbrev cX6_takeBody : ByteArray := prog_8_method_19_code
def yX6_takeBody : MethodName := ⟨RX6, "takeBody", "(I)I"⟩
abbrev cX6_takeClause : ByteArray := prog_8_method_20_code
def yX6_takeClause : MethodName := ⟨RX6, "takeClause", "()I"⟩
abbrev cX6_takeRead : ByteArray := prog_8_method_21_code
def yX6_takeRead : MethodName := ⟨RX6, "takeRead", "()V"⟩
abbrev cX6_capital : ByteArray := prog_8_method_22_code
def yX6_capital : MethodName := ⟨RX6, "capital", "()I"⟩
abbrev cX6_fault : ByteArray := prog_8_method_23_code
def yX6_fault : MethodName := ⟨RX6, "fault", "()I"⟩
abbrev cX6_shifted : ByteArray := prog_8_method_24_code
def yX6_shifted : MethodName := ⟨RX6, "shifted", "(II)I"⟩
abbrev cX6_drawnBy : ByteArray := prog_8_method_25_code
def yX6_drawnBy : MethodName := ⟨RX6, "drawnBy", "(II)I"⟩
abbrev cX6_whoIsAt : ByteArray := prog_8_method_26_code
def yX6_whoIsAt : MethodName := ⟨RX6, "whoIsAt", "(I)I"⟩
abbrev cX6_drawnAt : ByteArray := prog_8_method_27_code
def yX6_drawnAt : MethodName := ⟨RX6, "drawnAt", "(I)I"⟩
abbrev cX6_cloud : ByteArray := prog_8_method_28_code
def yX6_cloud : MethodName := ⟨RX6, "cloud", "()I"⟩
abbrev cX6_likeBy : ByteArray := prog_8_method_29_code
def yX6_likeBy : MethodName := ⟨RX6, "likeBy", "(II)I"⟩
abbrev cX6_mostLike : ByteArray := prog_8_method_30_code
def yX6_mostLike : MethodName := ⟨RX6, "mostLike", "(II)I"⟩
abbrev cX6_often : ByteArray := prog_8_method_31_code
def yX6_often : MethodName := ⟨RX6, "often", "(I)I"⟩
abbrev cX6_told : ByteArray := prog_8_method_32_code
def yX6_told : MethodName := ⟨RX6, "told", "(I)I"⟩
abbrev cX6_sitter : ByteArray := prog_8_method_33_code
def yX6_sitter : MethodName := ⟨RX6, "sitter", "(II)I"⟩
abbrev cX6_window : ByteArray := prog_8_method_34_code
def yX6_window : MethodName := ⟨RX6, "window", "(II)I"⟩
abbrev cX6_album : ByteArray := prog_8_method_35_code
def yX6_album : MethodName := ⟨RX6, "album", "(II)I"⟩
abbrev cX6_glass : ByteArray := prog_8_method_36_code
def yX6_glass : MethodName := ⟨RX6, "glass", "(I)I"⟩
abbrev cX6_remember : ByteArray := prog_8_method_37_code
def yX6_remember : MethodName := ⟨RX6, "remember", "()V"⟩
abbrev cX6_stand : ByteArray := prog_8_method_38_code
def yX6_stand : MethodName := ⟨RX6, "stand", "(II)I"⟩
abbrev cX6_go : ByteArray := prog_8_method_39_code
def yX6_go : MethodName := ⟨RX6, "go", "(I)I"⟩
abbrev cX6_lamp : ByteArray := prog_8_method_40_code
def yX6_lamp : MethodName := ⟨RX6, "lamp", "(II)I"⟩
abbrev cX6_wind : ByteArray := prog_8_method_41_code
def yX6_wind : MethodName := ⟨RX6, "wind", "(I)I"⟩
abbrev cX6_bats : ByteArray := prog_8_method_42_code
def yX6_bats : MethodName := ⟨RX6, "bats", "(I)I"⟩
abbrev cX6_eye : ByteArray := prog_8_method_43_code
def yX6_eye : MethodName := ⟨RX6, "eye", "(I)I"⟩
abbrev cX6_rain : ByteArray := prog_8_method_44_code
def yX6_rain : MethodName := ⟨RX6, "rain", "(Z)I"⟩
abbrev cX6_smoke : ByteArray := prog_8_method_45_code
def yX6_smoke : MethodName := ⟨RX6, "smoke", "(IZ)I"⟩
abbrev cX6_press : ByteArray := prog_8_method_46_code
def yX6_press : MethodName := ⟨RX6, "press", "(II)I"⟩
abbrev cX6_keepsOne : ByteArray := prog_8_method_47_code
def yX6_keepsOne : MethodName := ⟨RX6, "keepsOne", "(III)V"⟩
abbrev cX6_passes : ByteArray := prog_8_method_48_code
def yX6_passes : MethodName := ⟨RX6, "passes", "()V"⟩
abbrev cX6_dusksRefused : ByteArray := prog_8_method_49_code
def yX6_dusksRefused : MethodName := ⟨RX6, "dusksRefused", "(I)I"⟩
abbrev cX6_dusk : ByteArray := prog_8_method_50_code
def yX6_dusk : MethodName := ⟨RX6, "dusk", "(I)I"⟩
abbrev cX6_draw : ByteArray := prog_8_method_51_code
def yX6_draw : MethodName := ⟨RX6, "draw", "(I)I"⟩
abbrev cX6_chance : ByteArray := prog_8_method_52_code
def yX6_chance : MethodName := ⟨RX6, "chance", "()V"⟩
abbrev cX6_drift : ByteArray := prog_8_method_53_code
def yX6_drift : MethodName := ⟨RX6, "drift", "(I)I"⟩
abbrev cX6_undo : ByteArray := prog_8_method_54_code
def yX6_undo : MethodName := ⟨RX6, "undo", "()I"⟩
abbrev cX6_like : ByteArray := prog_8_method_55_code
def yX6_like : MethodName := ⟨RX6, "like", "(II)I"⟩
abbrev cX6_seenAs : ByteArray := prog_8_method_56_code
def yX6_seenAs : MethodName := ⟨RX6, "seenAs", "(I)I"⟩
abbrev cX6_bestLamp : ByteArray := prog_8_method_57_code
def yX6_bestLamp : MethodName := ⟨RX6, "bestLamp", "(III)I"⟩
abbrev cX6_who : ByteArray := prog_8_method_58_code
def yX6_who : MethodName := ⟨RX6, "who", "(II)I"⟩
abbrev cX6_parted : ByteArray := prog_8_method_59_code
def yX6_parted : MethodName := ⟨RX6, "parted", "(II)I"⟩
abbrev cX6_bestPlaces : ByteArray := prog_8_method_60_code
def yX6_bestPlaces : MethodName := ⟨RX6, "bestPlaces", "()I"⟩
abbrev cX6_places : ByteArray := prog_8_method_61_code
def yX6_places : MethodName := ⟨RX6, "places", "(I)I"⟩
abbrev cX6_apart : ByteArray := prog_8_method_62_code
def yX6_apart : MethodName := ⟨RX6, "apart", "(III)I"⟩
abbrev cX6_isHole : ByteArray := prog_8_method_63_code
def yX6_isHole : MethodName := ⟨RX6, "isHole", "(II)Z"⟩
abbrev cX6_turned : ByteArray := prog_8_method_64_code
def yX6_turned : MethodName := ⟨RX6, "turned", "(II)I"⟩
abbrev cX6_maskOf : ByteArray := prog_8_method_65_code
def yX6_maskOf : MethodName := ⟨RX6, "maskOf", "(I)I"⟩
abbrev cX6_votesFor : ByteArray := prog_8_method_66_code
def yX6_votesFor : MethodName := ⟨RX6, "votesFor", "(II)I"⟩
abbrev cX6_votes : ByteArray := prog_8_method_67_code
def yX6_votes : MethodName := ⟨RX6, "votes", "(II)I"⟩
abbrev cX6_clear : ByteArray := prog_8_method_68_code
def yX6_clear : MethodName := ⟨RX6, "clear", "(II)I"⟩
abbrev cX6_tellOf : ByteArray := prog_8_method_69_code
def yX6_tellOf : MethodName := ⟨RX6, "tellOf", "(IZ)I"⟩
abbrev cX6_isSo : ByteArray := prog_8_method_70_code
def yX6_isSo : MethodName := ⟨RX6, "isSo", "(I)Z"⟩
abbrev cX6_mayBe : ByteArray := prog_8_method_71_code
def yX6_mayBe : MethodName := ⟨RX6, "mayBe", "()I"⟩
abbrev cX6_ask : ByteArray := prog_8_method_72_code
def yX6_ask : MethodName := ⟨RX6, "ask", "()I"⟩
abbrev cX6_tear : ByteArray := prog_8_method_73_code
def yX6_tear : MethodName := ⟨RX6, "tear", "()I"⟩
abbrev cX6_seed : ByteArray := prog_8_method_74_code
def yX6_seed : MethodName := ⟨RX6, "seed", "(I)I"⟩
abbrev cX6_keep : ByteArray := prog_8_method_75_code
def yX6_keep : MethodName := ⟨RX6, "keep", "(I)I"⟩
abbrev cX6_goBack : ByteArray := prog_8_method_76_code
def yX6_goBack : MethodName := ⟨RX6, "goBack", "(I)I"⟩
def RJ6 : String := "java/lang/Integer"
def TJ6 : u_T := fun k => match k with
  | _ => ("", "", "", false)
def tyJ6 : Nat → FieldType := fun k => match k with
  | _ => .int
abbrev wsJ60 : List Cond := u_ws RJ6 TJ6 0
theorem nmJ6 : ∀ a, a < 0 → ∀ b, b < 0 → a ≠ b → (TJ6 a).2.1 ≠ (TJ6 b).2.1 := by decide +kernel
theorem tyJ6_ok : ∀ k, k < 0 → parseFieldDescriptor (TJ6 k).2.2.1 = some (tyJ6 k) := by decide +kernel
abbrev cJ6_bitCount_0f7a4 : ByteArray := prog_9_method_49_code
def yJ6_bitCount_0f7a4 : MethodName := ⟨RJ6, "bitCount", "(I)I"⟩
def RJ9 : String := "java/lang/Math"
def TJ9 : u_T := fun k => match k with
  | _ => ("", "", "", false)
def tyJ9 : Nat → FieldType := fun k => match k with
  | _ => .int
abbrev wsJ90 : List Cond := u_ws RJ9 TJ9 0
theorem nmJ9 : ∀ a, a < 0 → ∀ b, b < 0 → a ≠ b → (TJ9 a).2.1 ≠ (TJ9 b).2.1 := by decide +kernel
theorem tyJ9_ok : ∀ k, k < 0 → parseFieldDescriptor (TJ9 k).2.2.1 = some (tyJ9 k) := by decide +kernel
abbrev cJ9_floorMod_7cf53 : ByteArray := prog_10_method_50_code
def yJ9_floorMod_7cf53 : MethodName := ⟨RJ9, "floorMod", "(II)I"⟩
abbrev cJ9_max_7cf53 : ByteArray := prog_10_method_65_code
def yJ9_max_7cf53 : MethodName := ⟨RJ9, "max", "(II)I"⟩
abbrev cJ9_min_7cf53 : ByteArray := prog_10_method_69_code
def yJ9_min_7cf53 : MethodName := ⟨RJ9, "min", "(II)I"⟩
def RJ10 : String := "java/lang/System"
def TJ10 : u_T := fun k => match k with
  | _ => ("", "", "", false)
def tyJ10 : Nat → FieldType := fun k => match k with
  | _ => .int
abbrev wsJ100 : List Cond := u_ws RJ10 TJ10 0
theorem nmJ10 : ∀ a, a < 0 → ∀ b, b < 0 → a ≠ b → (TJ10 a).2.1 ≠ (TJ10 b).2.1 := by decide +kernel
theorem tyJ10_ok : ∀ k, k < 0 → parseFieldDescriptor (TJ10 k).2.2.1 = some (tyJ10 k) := by decide +kernel
def RL : String := "GnatPortraitsLaw"
abbrev cL_law : ByteArray := code
def yL_law : MethodName := ⟨RL, "law", "([I)Z"⟩
def wsX0_init : List Cond := .code yX0_init cX0_init 1 none :: ([.methodLink RX0 3 objectInit, .instanceMethod objectInit, .code objectInit ⟨#[0xb1]⟩ 1 none, .arrayClass .int, .fieldLink RX0 9 "GnatPortraits$Capital" "outlines" "[I", .fieldLink RX0 15 "GnatPortraits$Capital" "firstLamps" "[I", .fieldLink RX0 18 "GnatPortraits$Capital" "views" "[I"] ++ wsX00)
def wsX0_empty : List Cond := .code yX0_empty cX0_empty 1 none :: ([.fieldLink RX0 21 "GnatPortraits$Capital" "isTold" "Z", .fieldLink RX0 25 "GnatPortraits$Capital" "gnats" "I", .fieldLink RX0 29 "GnatPortraits$Capital" "sitters" "I", .fieldLink RX0 32 "GnatPortraits$Capital" "windows" "I", .fieldLink RX0 35 "GnatPortraits$Capital" "critics" "I"] ++ wsX00)
def wsX0_takeFrom : List Cond := .code yX0_takeFrom cX0_takeFrom 2 none :: ([.fieldLink RX0 21 "GnatPortraits$Capital" "isTold" "Z", .fieldLink RX0 25 "GnatPortraits$Capital" "gnats" "I", .fieldLink RX0 29 "GnatPortraits$Capital" "sitters" "I", .fieldLink RX0 32 "GnatPortraits$Capital" "windows" "I", .fieldLink RX0 35 "GnatPortraits$Capital" "critics" "I", .fieldLink RX0 9 "GnatPortraits$Capital" "outlines" "[I", .methodLink RX0 38 arraycopyName, .native arraycopyName, .static arraycopyName, .initialized "java/lang/System", .fieldLink RX0 15 "GnatPortraits$Capital" "firstLamps" "[I", .fieldLink RX0 18 "GnatPortraits$Capital" "views" "[I"] ++ wsX00)
def wsX1_init : List Cond := .code yX1_init cX1_init 2 none :: ([.methodLink RX1 3 objectInit, .instanceMethod objectInit, .code objectInit ⟨#[0xb1]⟩ 1 none, .arrayClass .int, .fieldLink RX1 9 "GnatPortraits$Evening" "lamps" "[I", .fieldLink RX1 15 "GnatPortraits$Evening" "standing" "[I", .fieldLink RX1 18 "GnatPortraits$Evening" "glasses" "[I", .fieldLink RX1 21 "GnatPortraits$Evening" "albumWindows" "[I", .fieldLink RX1 24 "GnatPortraits$Evening" "albumSitters" "[I", .fieldLink RX1 27 "GnatPortraits$Evening" "albumDots" "[I"] ++ wsX10)
def wsX1_begin : List Cond := .code yX1_begin cX1_begin 3 none :: ([.fieldLink RX1 30 "GnatPortraits$Evening" "blowing" "I", .fieldLink RX1 34 "GnatPortraits$Evening" "batted" "I", .fieldLink RX1 37 "GnatPortraits$Evening" "eyes" "I", .fieldLink RX1 40 "GnatPortraits$Evening" "raining" "Z", .fieldLink RX1 44 "GnatPortraits$Evening" "smoking" "I", .fieldLink RX1 47 "GnatPortraits$Evening" "dusks" "I", .fieldLink RX1 50 "GnatPortraits$Evening" "albumSize" "I", .fieldLink RX1 53 "GnatPortraits$Evening" "albumNext" "I", .fieldLink RX1 9 "GnatPortraits$Evening" "lamps" "[I", .fieldLink RX1 15 "GnatPortraits$Evening" "standing" "[I", .fieldLink RX1 18 "GnatPortraits$Evening" "glasses" "[I"] ++ wsX10 ++ wsX00)
def wsX1_copy : List Cond := .code yX1_copy cX1_copy 2 none :: ([.fieldLink RX1 30 "GnatPortraits$Evening" "blowing" "I", .fieldLink RX1 34 "GnatPortraits$Evening" "batted" "I", .fieldLink RX1 37 "GnatPortraits$Evening" "eyes" "I", .fieldLink RX1 40 "GnatPortraits$Evening" "raining" "Z", .fieldLink RX1 44 "GnatPortraits$Evening" "smoking" "I", .fieldLink RX1 47 "GnatPortraits$Evening" "dusks" "I", .fieldLink RX1 50 "GnatPortraits$Evening" "albumSize" "I", .fieldLink RX1 53 "GnatPortraits$Evening" "albumNext" "I", .fieldLink RX1 9 "GnatPortraits$Evening" "lamps" "[I", .methodLink RX1 61 arraycopyName, .native arraycopyName, .static arraycopyName, .initialized "java/lang/System", .fieldLink RX1 15 "GnatPortraits$Evening" "standing" "[I", .fieldLink RX1 18 "GnatPortraits$Evening" "glasses" "[I", .fieldLink RX1 21 "GnatPortraits$Evening" "albumWindows" "[I", .fieldLink RX1 24 "GnatPortraits$Evening" "albumSitters" "[I", .fieldLink RX1 27 "GnatPortraits$Evening" "albumDots" "[I"] ++ wsX10)
def wsX1_windowOf : List Cond := .code yX1_windowOf cX1_windowOf 3 (some .int) :: ([.fieldLink RX1 15 "GnatPortraits$Evening" "standing" "[I"] ++ wsX10)
def wsX1_moveTo : List Cond := .code yX1_moveTo cX1_moveTo 4 none :: ([.fieldLink RX1 15 "GnatPortraits$Evening" "standing" "[I"] ++ wsX10)
def wsX1_keepInAlbum : List Cond := .code yX1_keepInAlbum cX1_keepInAlbum 4 none :: ([.fieldLink RX1 53 "GnatPortraits$Evening" "albumNext" "I", .fieldLink RX1 21 "GnatPortraits$Evening" "albumWindows" "[I", .fieldLink RX1 24 "GnatPortraits$Evening" "albumSitters" "[I", .fieldLink RX1 27 "GnatPortraits$Evening" "albumDots" "[I", .fieldLink RX1 50 "GnatPortraits$Evening" "albumSize" "I", .methodLink RX1 67 Lib.Math.min.name, .static Lib.Math.min.name, .initialized "java/lang/Math", .code Lib.Math.min.name Lib.Math.min.code 2 (some .int)] ++ wsX10)
def wsJ9_floorMod_7cf53 : List Cond := .code yJ9_floorMod_7cf53 cJ9_floorMod_7cf53 3 (some .int) :: ([])
def wsX1_albumPlace : List Cond := .code yX1_albumPlace cX1_albumPlace 2 (some .int) :: ([.fieldLink RX1 53 "GnatPortraits$Evening" "albumNext" "I", .methodLink RX1 73 yJ9_floorMod_7cf53, .static yJ9_floorMod_7cf53, .initialized RJ9, .code yJ9_floorMod_7cf53 cJ9_floorMod_7cf53 3 (some .int)] ++ wsX10)
def wsX1_timesInAlbum : List Cond := .code yX1_timesInAlbum cX1_timesInAlbum 4 (some .int) :: ([.fieldLink RX1 50 "GnatPortraits$Evening" "albumSize" "I", .fieldLink RX1 24 "GnatPortraits$Evening" "albumSitters" "[I", .methodLink RX1 76 yX1_albumPlace, .instanceMethod yX1_albumPlace, .selects RX1 yX1_albumPlace yX1_albumPlace, .initialized RX1, .code yX1_albumPlace cX1_albumPlace 2 (some .int), .fieldLink RX1 53 "GnatPortraits$Evening" "albumNext" "I", .methodLink RX1 73 yJ9_floorMod_7cf53, .static yJ9_floorMod_7cf53, .initialized RJ9, .code yJ9_floorMod_7cf53 cJ9_floorMod_7cf53 3 (some .int)] ++ wsX10)
def wsX1_endDusk : List Cond := .code yX1_endDusk cX1_endDusk 1 none :: ([.fieldLink RX1 30 "GnatPortraits$Evening" "blowing" "I", .fieldLink RX1 34 "GnatPortraits$Evening" "batted" "I", .fieldLink RX1 40 "GnatPortraits$Evening" "raining" "Z", .fieldLink RX1 44 "GnatPortraits$Evening" "smoking" "I", .fieldLink RX1 47 "GnatPortraits$Evening" "dusks" "I", .fieldLink RX1 37 "GnatPortraits$Evening" "eyes" "I"] ++ wsX10)
def wsX2_init : List Cond := .code yX2_init cX2_init 2 none :: ([.methodLink RX2 3 objectInit, .instanceMethod objectInit, .code objectInit ⟨#[0xb1]⟩ 1 none, .classLink RX2 9 RX1, .fieldLink RX2 11 "GnatPortraits$Past" "evenings" "[LGnatPortraits$Evening;", .instantiable RX1 14, .initialized RX1, .instanceMethod yX1_init, .code yX1_init cX1_init 2 none, .methodLink RX1 3 objectInit, .arrayClass .int, .fieldLink RX1 9 "GnatPortraits$Evening" "lamps" "[I", .fieldLink RX1 15 "GnatPortraits$Evening" "standing" "[I", .fieldLink RX1 18 "GnatPortraits$Evening" "glasses" "[I", .fieldLink RX1 21 "GnatPortraits$Evening" "albumWindows" "[I", .fieldLink RX1 24 "GnatPortraits$Evening" "albumSitters" "[I", .fieldLink RX1 27 "GnatPortraits$Evening" "albumDots" "[I"] ++ wsX20 ++ wsX10)
def wsX2_forget : List Cond := .code yX2_forget cX2_forget 1 none :: ([.fieldLink RX2 18 "GnatPortraits$Past" "size" "I", .fieldLink RX2 22 "GnatPortraits$Past" "next" "I"] ++ wsX20)
def wsX2_remember_r1 : List Cond := [Cond.fieldLink RX2 22 "GnatPortraits$Past" "next" "I", Cond.fieldLink RX2 11 "GnatPortraits$Past" "evenings" "[LGnatPortraits$Evening;", Cond.fieldLink RX2 18 "GnatPortraits$Past" "size" "I", Cond.methodLink RX2 29 Lib.Math.min.name, Cond.static Lib.Math.min.name, Cond.initialized "java/lang/Math", Cond.code Lib.Math.min.name Lib.Math.min.code 2 (some .int), Cond.static yX1_copy, Cond.initialized RX1, Cond.code yX1_copy cX1_copy 2 none, Cond.fieldLink RX1 30 "GnatPortraits$Evening" "blowing" "I", Cond.fieldLink RX1 34 "GnatPortraits$Evening" "batted" "I", Cond.fieldLink RX1 37 "GnatPortraits$Evening" "eyes" "I", Cond.fieldLink RX1 40 "GnatPortraits$Evening" "raining" "Z", Cond.fieldLink RX1 44 "GnatPortraits$Evening" "smoking" "I", Cond.fieldLink RX1 47 "GnatPortraits$Evening" "dusks" "I", Cond.fieldLink RX1 50 "GnatPortraits$Evening" "albumSize" "I", Cond.fieldLink RX1 53 "GnatPortraits$Evening" "albumNext" "I", Cond.fieldLink RX1 9 "GnatPortraits$Evening" "lamps" "[I", Cond.methodLink RX1 61 arraycopyName, Cond.native arraycopyName, Cond.static arraycopyName, Cond.initialized "java/lang/System", Cond.fieldLink RX1 15 "GnatPortraits$Evening" "standing" "[I"]
def wsX2_remember_r2 : List Cond := [Cond.fieldLink RX1 18 "GnatPortraits$Evening" "glasses" "[I", Cond.fieldLink RX1 21 "GnatPortraits$Evening" "albumWindows" "[I", Cond.fieldLink RX1 24 "GnatPortraits$Evening" "albumSitters" "[I", Cond.fieldLink RX1 27 "GnatPortraits$Evening" "albumDots" "[I"]
def wsX2_remember : List Cond := .code yX2_remember cX2_remember 2 none :: ((wsX2_remember_r1 ++ wsX2_remember_r2) ++ wsX20 ++ wsX10)
def wsX2_recall_r1 : List Cond := [Cond.fieldLink RX2 22 "GnatPortraits$Past" "next" "I", Cond.fieldLink RX2 18 "GnatPortraits$Past" "size" "I", Cond.methodLink RX2 38 Lib.Math.max.name, Cond.static Lib.Math.max.name, Cond.initialized "java/lang/Math", Cond.code Lib.Math.max.name Lib.Math.max.code 2 (some .int), Cond.fieldLink RX2 11 "GnatPortraits$Past" "evenings" "[LGnatPortraits$Evening;", Cond.methodLink RX2 35 yJ9_floorMod_7cf53, Cond.static yJ9_floorMod_7cf53, Cond.initialized RJ9, Cond.code yJ9_floorMod_7cf53 cJ9_floorMod_7cf53 3 (some .int), Cond.static yX1_copy, Cond.initialized RX1, Cond.code yX1_copy cX1_copy 2 none, Cond.fieldLink RX1 30 "GnatPortraits$Evening" "blowing" "I", Cond.fieldLink RX1 34 "GnatPortraits$Evening" "batted" "I", Cond.fieldLink RX1 37 "GnatPortraits$Evening" "eyes" "I", Cond.fieldLink RX1 40 "GnatPortraits$Evening" "raining" "Z", Cond.fieldLink RX1 44 "GnatPortraits$Evening" "smoking" "I", Cond.fieldLink RX1 47 "GnatPortraits$Evening" "dusks" "I", Cond.fieldLink RX1 50 "GnatPortraits$Evening" "albumSize" "I", Cond.fieldLink RX1 53 "GnatPortraits$Evening" "albumNext" "I", Cond.fieldLink RX1 9 "GnatPortraits$Evening" "lamps" "[I", Cond.methodLink RX1 61 arraycopyName]
def wsX2_recall_r2 : List Cond := [Cond.native arraycopyName, Cond.static arraycopyName, Cond.initialized "java/lang/System", Cond.fieldLink RX1 15 "GnatPortraits$Evening" "standing" "[I", Cond.fieldLink RX1 18 "GnatPortraits$Evening" "glasses" "[I", Cond.fieldLink RX1 21 "GnatPortraits$Evening" "albumWindows" "[I", Cond.fieldLink RX1 24 "GnatPortraits$Evening" "albumSitters" "[I", Cond.fieldLink RX1 27 "GnatPortraits$Evening" "albumDots" "[I"]
def wsX2_recall : List Cond := .code yX2_recall cX2_recall 2 none :: ((wsX2_recall_r1 ++ wsX2_recall_r2) ++ wsX20 ++ wsX10)
def wsX3_init : List Cond := .code yX3_init cX3_init 1 none :: ([.methodLink RX3 3 objectInit, .instanceMethod objectInit, .code objectInit ⟨#[0xb1]⟩ 1 none, .arrayClass .int, .fieldLink RX3 9 "GnatPortraits$Placing" "drawn" "[I", .fieldLink RX3 15 "GnatPortraits$Placing" "chosen" "[I", .fieldLink RX3 18 "GnatPortraits$Placing" "best" "[I"] ++ wsX30)
def wsX3_begin : List Cond := .code yX3_begin cX3_begin 3 none :: ([.fieldLink RX3 27 "GnatPortraits$Placing" "sitters" "I", .fieldLink RX3 31 "GnatPortraits$Placing" "windows" "I", .fieldLink RX3 32 "GnatPortraits$Placing" "most" "I", .fieldLink RX3 15 "GnatPortraits$Placing" "chosen" "[I", .fieldLink RX3 18 "GnatPortraits$Placing" "best" "[I"] ++ wsX00 ++ wsX30)
def wsX3_takeChosen : List Cond := .code yX3_takeChosen cX3_takeChosen 3 none :: ([.fieldLink RX3 32 "GnatPortraits$Placing" "most" "I", .fieldLink RX3 31 "GnatPortraits$Placing" "windows" "I", .fieldLink RX3 18 "GnatPortraits$Placing" "best" "[I", .fieldLink RX3 15 "GnatPortraits$Placing" "chosen" "[I"] ++ wsX30)
def wsX4_init : List Cond := .code yX4_init cX4_init 1 none :: ([.methodLink RX4 3 objectInit, .instanceMethod objectInit, .code objectInit ⟨#[0xb1]⟩ 1 none, .arrayClass .int, .fieldLink RX4 9 "GnatPortraits$Reader" "letters" "[I", .classLink RX4 15 RX0, .instantiable RX0 8, .initialized RX0, .fieldLink RX4 18 "GnatPortraits$Reader" "found" "LGnatPortraits$Capital;", .fieldLink RX4 22 "GnatPortraits$Reader" "faultAt" "I", .instanceMethod yX0_init, .code yX0_init cX0_init 1 none, .methodLink RX0 3 objectInit, .fieldLink RX0 9 "GnatPortraits$Capital" "outlines" "[I", .fieldLink RX0 15 "GnatPortraits$Capital" "firstLamps" "[I", .fieldLink RX0 18 "GnatPortraits$Capital" "views" "[I"] ++ wsX40 ++ wsX00)
def wsX4_add : List Cond := .code yX4_add cX4_add 2 none :: ([.fieldLink RX4 26 "GnatPortraits$Reader" "length" "I", .fieldLink RX4 9 "GnatPortraits$Reader" "letters" "[I"] ++ wsX40)
def wsX4_letterHere : List Cond := .code yX4_letterHere cX4_letterHere 1 (some .int) :: ([.fieldLink RX4 32 "GnatPortraits$Reader" "at" "I", .fieldLink RX4 26 "GnatPortraits$Reader" "length" "I", .fieldLink RX4 9 "GnatPortraits$Reader" "letters" "[I"] ++ wsX40)
def wsX4_skipBlanks : List Cond := .code yX4_skipBlanks cX4_skipBlanks 2 none :: ([.fieldLink RX4 32 "GnatPortraits$Reader" "at" "I", .methodLink RX4 44 yX4_letterHere, .instanceMethod yX4_letterHere, .selects RX4 yX4_letterHere yX4_letterHere, .initialized RX4, .code yX4_letterHere cX4_letterHere 1 (some .int), .fieldLink RX4 26 "GnatPortraits$Reader" "length" "I", .fieldLink RX4 9 "GnatPortraits$Reader" "letters" "[I"] ++ wsX40)
def wsX4_faultOfWord : List Cond := .code yX4_faultOfWord cX4_faultOfWord 2 (some .int) :: ([.fieldLink RX4 18 "GnatPortraits$Reader" "found" "LGnatPortraits$Capital;"] ++ wsX40 ++ wsX00)
def wsX4_blame : List Cond := .code yX4_blame cX4_blame 3 none :: ([.fieldLink RX4 35 "GnatPortraits$Reader" "faultKind" "I", .fieldLink RX4 22 "GnatPortraits$Reader" "faultAt" "I"] ++ wsX40)
def wsX4_isFigure : List Cond := .code yX4_isFigure cX4_isFigure 1 (some .boolean) :: ([])
def wsX4_readNumber : List Cond := .code yX4_readNumber cX4_readNumber 6 (some .int) :: ([.fieldLink RX4 35 "GnatPortraits$Reader" "faultKind" "I", .fieldLink RX4 32 "GnatPortraits$Reader" "at" "I", .methodLink RX4 38 yX4_skipBlanks, .instanceMethod yX4_skipBlanks, .selects RX4 yX4_skipBlanks yX4_skipBlanks, .initialized RX4, .code yX4_skipBlanks cX4_skipBlanks 2 none, .methodLink RX4 44 yX4_letterHere, .instanceMethod yX4_letterHere, .selects RX4 yX4_letterHere yX4_letterHere, .code yX4_letterHere cX4_letterHere 1 (some .int), .fieldLink RX4 26 "GnatPortraits$Reader" "length" "I", .fieldLink RX4 9 "GnatPortraits$Reader" "letters" "[I", .methodLink RX4 92 yX4_isFigure, .static yX4_isFigure, .code yX4_isFigure cX4_isFigure 1 (some .boolean), .methodLink RX4 52 yX4_blame, .instanceMethod yX4_blame, .selects RX4 yX4_blame yX4_blame, .code yX4_blame cX4_blame 3 none, .fieldLink RX4 22 "GnatPortraits$Reader" "faultAt" "I"] ++ wsX40)
def wsX4_readSign : List Cond := .code yX4_readSign cX4_readSign 2 none :: ([.fieldLink RX4 35 "GnatPortraits$Reader" "faultKind" "I", .fieldLink RX4 32 "GnatPortraits$Reader" "at" "I", .methodLink RX4 38 yX4_skipBlanks, .instanceMethod yX4_skipBlanks, .selects RX4 yX4_skipBlanks yX4_skipBlanks, .initialized RX4, .code yX4_skipBlanks cX4_skipBlanks 2 none, .methodLink RX4 44 yX4_letterHere, .instanceMethod yX4_letterHere, .selects RX4 yX4_letterHere yX4_letterHere, .code yX4_letterHere cX4_letterHere 1 (some .int), .fieldLink RX4 26 "GnatPortraits$Reader" "length" "I", .fieldLink RX4 9 "GnatPortraits$Reader" "letters" "[I", .methodLink RX4 52 yX4_blame, .instanceMethod yX4_blame, .selects RX4 yX4_blame yX4_blame, .code yX4_blame cX4_blame 3 none, .fieldLink RX4 22 "GnatPortraits$Reader" "faultAt" "I"] ++ wsX40)
def wsX4_readSitter_r1 : List Cond := [Cond.fieldLink RX4 18 "GnatPortraits$Reader" "found" "LGnatPortraits$Capital;", Cond.methodLink RX4 82 yX4_readSign, Cond.instanceMethod yX4_readSign, Cond.selects RX4 yX4_readSign yX4_readSign, Cond.initialized RX4, Cond.code yX4_readSign cX4_readSign 2 none, Cond.fieldLink RX4 35 "GnatPortraits$Reader" "faultKind" "I", Cond.fieldLink RX4 32 "GnatPortraits$Reader" "at" "I", Cond.methodLink RX4 38 yX4_skipBlanks, Cond.instanceMethod yX4_skipBlanks, Cond.selects RX4 yX4_skipBlanks yX4_skipBlanks, Cond.code yX4_skipBlanks cX4_skipBlanks 2 none, Cond.methodLink RX4 44 yX4_letterHere, Cond.instanceMethod yX4_letterHere, Cond.selects RX4 yX4_letterHere yX4_letterHere, Cond.code yX4_letterHere cX4_letterHere 1 (some .int), Cond.fieldLink RX4 26 "GnatPortraits$Reader" "length" "I", Cond.fieldLink RX4 9 "GnatPortraits$Reader" "letters" "[I", Cond.methodLink RX4 52 yX4_blame, Cond.instanceMethod yX4_blame, Cond.selects RX4 yX4_blame yX4_blame, Cond.code yX4_blame cX4_blame 3 none, Cond.fieldLink RX4 22 "GnatPortraits$Reader" "faultAt" "I", Cond.methodLink RX4 60 yX4_readNumber]
def wsX4_readSitter_r2 : List Cond := [Cond.instanceMethod yX4_readNumber, Cond.selects RX4 yX4_readNumber yX4_readNumber, Cond.code yX4_readNumber cX4_readNumber 6 (some .int), Cond.methodLink RX4 92 yX4_isFigure, Cond.static yX4_isFigure, Cond.code yX4_isFigure cX4_isFigure 1 (some .boolean)]
def wsX4_readSitter : List Cond := .code yX4_readSitter cX4_readSitter 3 none :: ((wsX4_readSitter_r1 ++ wsX4_readSitter_r2) ++ wsX40 ++ wsX00)
def wsX4_readClause_r1 : List Cond := [Cond.fieldLink RX4 32 "GnatPortraits$Reader" "at" "I", Cond.fieldLink RX4 18 "GnatPortraits$Reader" "found" "LGnatPortraits$Capital;", Cond.methodLink RX4 44 yX4_letterHere, Cond.instanceMethod yX4_letterHere, Cond.selects RX4 yX4_letterHere yX4_letterHere, Cond.initialized RX4, Cond.code yX4_letterHere cX4_letterHere 1 (some .int), Cond.fieldLink RX4 26 "GnatPortraits$Reader" "length" "I", Cond.fieldLink RX4 9 "GnatPortraits$Reader" "letters" "[I", Cond.methodLink RX4 48 yX4_faultOfWord, Cond.instanceMethod yX4_faultOfWord, Cond.selects RX4 yX4_faultOfWord yX4_faultOfWord, Cond.code yX4_faultOfWord cX4_faultOfWord 2 (some .int), Cond.methodLink RX4 52 yX4_blame, Cond.instanceMethod yX4_blame, Cond.selects RX4 yX4_blame yX4_blame, Cond.code yX4_blame cX4_blame 3 none, Cond.fieldLink RX4 35 "GnatPortraits$Reader" "faultKind" "I", Cond.fieldLink RX4 22 "GnatPortraits$Reader" "faultAt" "I", Cond.methodLink RX4 60 yX4_readNumber, Cond.instanceMethod yX4_readNumber, Cond.selects RX4 yX4_readNumber yX4_readNumber, Cond.code yX4_readNumber cX4_readNumber 6 (some .int), Cond.methodLink RX4 38 yX4_skipBlanks]
def wsX4_readClause_r2 : List Cond := [Cond.instanceMethod yX4_skipBlanks, Cond.selects RX4 yX4_skipBlanks yX4_skipBlanks, Cond.code yX4_skipBlanks cX4_skipBlanks 2 none, Cond.methodLink RX4 92 yX4_isFigure, Cond.static yX4_isFigure, Cond.code yX4_isFigure cX4_isFigure 1 (some .boolean), Cond.methodLink RX4 67 yX4_readSitter, Cond.instanceMethod yX4_readSitter, Cond.selects RX4 yX4_readSitter yX4_readSitter, Cond.code yX4_readSitter cX4_readSitter 3 none, Cond.methodLink RX4 82 yX4_readSign, Cond.instanceMethod yX4_readSign, Cond.selects RX4 yX4_readSign yX4_readSign, Cond.code yX4_readSign cX4_readSign 2 none]
def wsX4_readClause : List Cond := .code yX4_readClause cX4_readClause 3 none :: ((wsX4_readClause_r1 ++ wsX4_readClause_r2) ++ wsX40 ++ wsX00)
def wsX4_read_r1 : List Cond := [Cond.fieldLink RX4 18 "GnatPortraits$Reader" "found" "LGnatPortraits$Capital;", Cond.fieldLink RX4 32 "GnatPortraits$Reader" "at" "I", Cond.fieldLink RX4 35 "GnatPortraits$Reader" "faultKind" "I", Cond.fieldLink RX4 22 "GnatPortraits$Reader" "faultAt" "I", Cond.fieldLink RX4 26 "GnatPortraits$Reader" "length" "I", Cond.instanceMethod yX0_empty, Cond.initialized RX0, Cond.selects RX0 yX0_empty yX0_empty, Cond.code yX0_empty cX0_empty 1 none, Cond.fieldLink RX0 21 "GnatPortraits$Capital" "isTold" "Z", Cond.fieldLink RX0 25 "GnatPortraits$Capital" "gnats" "I", Cond.fieldLink RX0 29 "GnatPortraits$Capital" "sitters" "I", Cond.fieldLink RX0 32 "GnatPortraits$Capital" "windows" "I", Cond.fieldLink RX0 35 "GnatPortraits$Capital" "critics" "I", Cond.methodLink RX4 38 yX4_skipBlanks, Cond.instanceMethod yX4_skipBlanks, Cond.selects RX4 yX4_skipBlanks yX4_skipBlanks, Cond.initialized RX4, Cond.code yX4_skipBlanks cX4_skipBlanks 2 none, Cond.methodLink RX4 44 yX4_letterHere, Cond.instanceMethod yX4_letterHere, Cond.selects RX4 yX4_letterHere yX4_letterHere, Cond.code yX4_letterHere cX4_letterHere 1 (some .int), Cond.fieldLink RX4 9 "GnatPortraits$Reader" "letters" "[I"]
def wsX4_read_r2 : List Cond := [Cond.methodLink RX4 41 yX4_readClause, Cond.instanceMethod yX4_readClause, Cond.selects RX4 yX4_readClause yX4_readClause, Cond.code yX4_readClause cX4_readClause 3 none, Cond.methodLink RX4 48 yX4_faultOfWord, Cond.instanceMethod yX4_faultOfWord, Cond.selects RX4 yX4_faultOfWord yX4_faultOfWord, Cond.code yX4_faultOfWord cX4_faultOfWord 2 (some .int), Cond.methodLink RX4 52 yX4_blame, Cond.instanceMethod yX4_blame, Cond.selects RX4 yX4_blame yX4_blame, Cond.code yX4_blame cX4_blame 3 none, Cond.methodLink RX4 60 yX4_readNumber, Cond.instanceMethod yX4_readNumber, Cond.selects RX4 yX4_readNumber yX4_readNumber, Cond.code yX4_readNumber cX4_readNumber 6 (some .int), Cond.methodLink RX4 92 yX4_isFigure, Cond.static yX4_isFigure, Cond.code yX4_isFigure cX4_isFigure 1 (some .boolean), Cond.methodLink RX4 67 yX4_readSitter, Cond.instanceMethod yX4_readSitter, Cond.selects RX4 yX4_readSitter yX4_readSitter, Cond.code yX4_readSitter cX4_readSitter 3 none, Cond.methodLink RX4 82 yX4_readSign]
def wsX4_read_r3 : List Cond := [Cond.instanceMethod yX4_readSign, Cond.selects RX4 yX4_readSign yX4_readSign, Cond.code yX4_readSign cX4_readSign 2 none]
def wsX4_read : List Cond := .code yX4_read cX4_read 2 none :: ((wsX4_read_r1 ++ (wsX4_read_r2 ++ wsX4_read_r3)) ++ wsX40 ++ wsX00)
def wsX5_init_r1 : List Cond := [Cond.methodLink RX5 1 objectInit, Cond.instanceMethod objectInit, Cond.code objectInit ⟨#[0xb1]⟩ 1 none, Cond.classLink RX5 7 RX4, Cond.instantiable RX4 6, Cond.initialized RX4, Cond.fieldLink RX5 10 "GnatPortraits" "reader" "LGnatPortraits$Reader;", Cond.classLink RX5 16 RX0, Cond.instantiable RX0 8, Cond.initialized RX0, Cond.fieldLink RX5 19 "GnatPortraits" "city" "LGnatPortraits$Capital;", Cond.classLink RX5 23 RX1, Cond.instantiable RX1 14, Cond.initialized RX1, Cond.fieldLink RX5 26 "GnatPortraits" "now" "LGnatPortraits$Evening;", Cond.classLink RX5 30 RX2, Cond.instantiable RX2 3, Cond.initialized RX2, Cond.fieldLink RX5 33 "GnatPortraits" "past" "LGnatPortraits$Past;", Cond.fieldLink RX5 37 "GnatPortraits" "images" "[LGnatPortraits$Evening;", Cond.arrayClass .boolean, Cond.fieldLink RX5 41 "GnatPortraits" "imageKept" "[Z", Cond.arrayClass .int, Cond.fieldLink RX5 45 "GnatPortraits" "imageSeeds" "[I"]
def wsX5_init_r2 : List Cond := [Cond.classLink RX5 49 RX3, Cond.instantiable RX3 6, Cond.initialized RX3, Cond.fieldLink RX5 52 "GnatPortraits" "placing" "LGnatPortraits$Placing;", Cond.fieldLink RX5 56 "GnatPortraits" "tally" "[I", Cond.instanceMethod yX4_init, Cond.code yX4_init cX4_init 1 none, Cond.methodLink RX4 3 objectInit, Cond.fieldLink RX4 9 "GnatPortraits$Reader" "letters" "[I", Cond.classLink RX4 15 RX0, Cond.fieldLink RX4 18 "GnatPortraits$Reader" "found" "LGnatPortraits$Capital;", Cond.fieldLink RX4 22 "GnatPortraits$Reader" "faultAt" "I", Cond.instanceMethod yX0_init, Cond.code yX0_init cX0_init 1 none, Cond.methodLink RX0 3 objectInit, Cond.fieldLink RX0 9 "GnatPortraits$Capital" "outlines" "[I", Cond.fieldLink RX0 15 "GnatPortraits$Capital" "firstLamps" "[I", Cond.fieldLink RX0 18 "GnatPortraits$Capital" "views" "[I", Cond.instanceMethod yX1_init, Cond.code yX1_init cX1_init 2 none, Cond.methodLink RX1 3 objectInit, Cond.fieldLink RX1 9 "GnatPortraits$Evening" "lamps" "[I", Cond.fieldLink RX1 15 "GnatPortraits$Evening" "standing" "[I", Cond.fieldLink RX1 18 "GnatPortraits$Evening" "glasses" "[I"]
def wsX5_init_r3 : List Cond := [Cond.fieldLink RX1 21 "GnatPortraits$Evening" "albumWindows" "[I", Cond.fieldLink RX1 24 "GnatPortraits$Evening" "albumSitters" "[I", Cond.fieldLink RX1 27 "GnatPortraits$Evening" "albumDots" "[I", Cond.instanceMethod yX2_init, Cond.code yX2_init cX2_init 2 none, Cond.methodLink RX2 3 objectInit, Cond.classLink RX2 9 RX1, Cond.fieldLink RX2 11 "GnatPortraits$Past" "evenings" "[LGnatPortraits$Evening;", Cond.instanceMethod yX3_init, Cond.code yX3_init cX3_init 1 none, Cond.methodLink RX3 3 objectInit, Cond.fieldLink RX3 9 "GnatPortraits$Placing" "drawn" "[I", Cond.fieldLink RX3 15 "GnatPortraits$Placing" "chosen" "[I", Cond.fieldLink RX3 18 "GnatPortraits$Placing" "best" "[I"]
def wsX5_init : List Cond := .code yX5_init cX5_init 2 none :: ((wsX5_init_r1 ++ (wsX5_init_r2 ++ wsX5_init_r3)) ++ wsX40 ++ wsX50 ++ wsX00 ++ wsX10 ++ wsX20 ++ wsX30)
def wsX5_feed : List Cond := .code yX5_feed cX5_feed 2 (some .int) :: ([.constant RX5 59 (-1000000002), .fieldLink RX5 10 "GnatPortraits" "reader" "LGnatPortraits$Reader;", .constant RX5 64 (-1000000004), .instanceMethod yX4_add, .initialized RX4, .selects RX4 yX4_add yX4_add, .code yX4_add cX4_add 2 none, .fieldLink RX4 26 "GnatPortraits$Reader" "length" "I", .fieldLink RX4 9 "GnatPortraits$Reader" "letters" "[I"] ++ wsX50 ++ wsX40)
def wsX5_forgetToldOf : List Cond := .code yX5_forgetToldOf cX5_forgetToldOf 1 none :: ([.fieldLink RX5 132 "GnatPortraits" "toldOf" "I", .fieldLink RX5 265 "GnatPortraits" "toldDrawn" "I", .fieldLink RX5 268 "GnatPortraits" "toldMissing" "I"] ++ wsX50)
def wsX5_capital_r1 : List Cond := [Cond.fieldLink RX5 10 "GnatPortraits" "reader" "LGnatPortraits$Reader;", Cond.fieldLink RX5 19 "GnatPortraits" "city" "LGnatPortraits$Capital;", Cond.fieldLink RX5 26 "GnatPortraits" "now" "LGnatPortraits$Evening;", Cond.fieldLink RX5 33 "GnatPortraits" "past" "LGnatPortraits$Past;", Cond.fieldLink RX5 41 "GnatPortraits" "imageKept" "[Z", Cond.instanceMethod yX4_read, Cond.initialized RX4, Cond.selects RX4 yX4_read yX4_read, Cond.code yX4_read cX4_read 2 none, Cond.fieldLink RX4 18 "GnatPortraits$Reader" "found" "LGnatPortraits$Capital;", Cond.fieldLink RX4 32 "GnatPortraits$Reader" "at" "I", Cond.fieldLink RX4 35 "GnatPortraits$Reader" "faultKind" "I", Cond.fieldLink RX4 22 "GnatPortraits$Reader" "faultAt" "I", Cond.fieldLink RX4 26 "GnatPortraits$Reader" "length" "I", Cond.instanceMethod yX0_empty, Cond.initialized RX0, Cond.selects RX0 yX0_empty yX0_empty, Cond.code yX0_empty cX0_empty 1 none, Cond.fieldLink RX0 21 "GnatPortraits$Capital" "isTold" "Z", Cond.fieldLink RX0 25 "GnatPortraits$Capital" "gnats" "I", Cond.fieldLink RX0 29 "GnatPortraits$Capital" "sitters" "I", Cond.fieldLink RX0 32 "GnatPortraits$Capital" "windows" "I", Cond.fieldLink RX0 35 "GnatPortraits$Capital" "critics" "I", Cond.methodLink RX4 38 yX4_skipBlanks]
def wsX5_capital_r2 : List Cond := [Cond.instanceMethod yX4_skipBlanks, Cond.selects RX4 yX4_skipBlanks yX4_skipBlanks, Cond.code yX4_skipBlanks cX4_skipBlanks 2 none, Cond.methodLink RX4 44 yX4_letterHere, Cond.instanceMethod yX4_letterHere, Cond.selects RX4 yX4_letterHere yX4_letterHere, Cond.code yX4_letterHere cX4_letterHere 1 (some .int), Cond.fieldLink RX4 9 "GnatPortraits$Reader" "letters" "[I", Cond.methodLink RX4 41 yX4_readClause, Cond.instanceMethod yX4_readClause, Cond.selects RX4 yX4_readClause yX4_readClause, Cond.code yX4_readClause cX4_readClause 3 none, Cond.methodLink RX4 48 yX4_faultOfWord, Cond.instanceMethod yX4_faultOfWord, Cond.selects RX4 yX4_faultOfWord yX4_faultOfWord, Cond.code yX4_faultOfWord cX4_faultOfWord 2 (some .int), Cond.methodLink RX4 52 yX4_blame, Cond.instanceMethod yX4_blame, Cond.selects RX4 yX4_blame yX4_blame, Cond.code yX4_blame cX4_blame 3 none, Cond.methodLink RX4 60 yX4_readNumber, Cond.instanceMethod yX4_readNumber, Cond.selects RX4 yX4_readNumber yX4_readNumber, Cond.code yX4_readNumber cX4_readNumber 6 (some .int)]
def wsX5_capital_r3 : List Cond := [Cond.methodLink RX4 92 yX4_isFigure, Cond.static yX4_isFigure, Cond.code yX4_isFigure cX4_isFigure 1 (some .boolean), Cond.methodLink RX4 67 yX4_readSitter, Cond.instanceMethod yX4_readSitter, Cond.selects RX4 yX4_readSitter yX4_readSitter, Cond.code yX4_readSitter cX4_readSitter 3 none, Cond.methodLink RX4 82 yX4_readSign, Cond.instanceMethod yX4_readSign, Cond.selects RX4 yX4_readSign yX4_readSign, Cond.code yX4_readSign cX4_readSign 2 none, Cond.instanceMethod yX0_takeFrom, Cond.selects RX0 yX0_takeFrom yX0_takeFrom, Cond.code yX0_takeFrom cX0_takeFrom 2 none, Cond.fieldLink RX0 9 "GnatPortraits$Capital" "outlines" "[I", Cond.methodLink RX0 38 arraycopyName, Cond.native arraycopyName, Cond.static arraycopyName, Cond.initialized "java/lang/System", Cond.fieldLink RX0 15 "GnatPortraits$Capital" "firstLamps" "[I", Cond.fieldLink RX0 18 "GnatPortraits$Capital" "views" "[I", Cond.instanceMethod yX1_begin, Cond.initialized RX1, Cond.selects RX1 yX1_begin yX1_begin]
def wsX5_capital_r4 : List Cond := [Cond.code yX1_begin cX1_begin 3 none, Cond.fieldLink RX1 30 "GnatPortraits$Evening" "blowing" "I", Cond.fieldLink RX1 34 "GnatPortraits$Evening" "batted" "I", Cond.fieldLink RX1 37 "GnatPortraits$Evening" "eyes" "I", Cond.fieldLink RX1 40 "GnatPortraits$Evening" "raining" "Z", Cond.fieldLink RX1 44 "GnatPortraits$Evening" "smoking" "I", Cond.fieldLink RX1 47 "GnatPortraits$Evening" "dusks" "I", Cond.fieldLink RX1 50 "GnatPortraits$Evening" "albumSize" "I", Cond.fieldLink RX1 53 "GnatPortraits$Evening" "albumNext" "I", Cond.fieldLink RX1 9 "GnatPortraits$Evening" "lamps" "[I", Cond.fieldLink RX1 15 "GnatPortraits$Evening" "standing" "[I", Cond.fieldLink RX1 18 "GnatPortraits$Evening" "glasses" "[I", Cond.instanceMethod yX2_forget, Cond.initialized RX2, Cond.selects RX2 yX2_forget yX2_forget, Cond.code yX2_forget cX2_forget 1 none, Cond.fieldLink RX2 18 "GnatPortraits$Past" "size" "I", Cond.fieldLink RX2 22 "GnatPortraits$Past" "next" "I", Cond.methodLink RX5 88 yX5_forgetToldOf, Cond.instanceMethod yX5_forgetToldOf, Cond.selects RX5 yX5_forgetToldOf yX5_forgetToldOf, Cond.initialized RX5, Cond.code yX5_forgetToldOf cX5_forgetToldOf 1 none, Cond.fieldLink RX5 132 "GnatPortraits" "toldOf" "I"]
def wsX5_capital_r5 : List Cond := [Cond.fieldLink RX5 265 "GnatPortraits" "toldDrawn" "I", Cond.fieldLink RX5 268 "GnatPortraits" "toldMissing" "I"]
def wsX5_capital : List Cond := .code yX5_capital cX5_capital 2 (some .int) :: ((wsX5_capital_r1 ++ (wsX5_capital_r2 ++ (wsX5_capital_r3 ++ (wsX5_capital_r4 ++ wsX5_capital_r5)))) ++ wsX50 ++ wsX40 ++ wsX00 ++ wsX10 ++ wsX20)
def wsX5_fault : List Cond := .code yX5_fault cX5_fault 1 (some .int) :: ([.fieldLink RX5 10 "GnatPortraits" "reader" "LGnatPortraits$Reader;"] ++ wsX50 ++ wsX40)
def wsX5_isSitter : List Cond := .code yX5_isSitter cX5_isSitter 2 (some .boolean) :: ([.fieldLink RX5 19 "GnatPortraits" "city" "LGnatPortraits$Capital;"] ++ wsX50 ++ wsX00)
def wsX5_shifted : List Cond := .code yX5_shifted cX5_shifted 6 (some .int) :: ([])
def wsX5_lowestOf : List Cond := .code yX5_lowestOf cX5_lowestOf 5 (some .int) :: ([])
def wsX5_drawnBy : List Cond := .code yX5_drawnBy cX5_drawnBy 5 (some .int) :: ([.fieldLink RX5 26 "GnatPortraits" "now" "LGnatPortraits$Evening;", .constant RX5 289 (17043521), .fieldLink RX5 19 "GnatPortraits" "city" "LGnatPortraits$Capital;", .methodLink RX5 227 yX5_shifted, .static yX5_shifted, .initialized RX5, .code yX5_shifted cX5_shifted 6 (some .int), .methodLink RX5 290 yX5_lowestOf, .static yX5_lowestOf, .code yX5_lowestOf cX5_lowestOf 5 (some .int)] ++ wsX50 ++ wsX10 ++ wsX00)
def wsX5_drawnAt : List Cond := .code yX5_drawnAt cX5_drawnAt 3 (some .int) :: ([.fieldLink RX5 26 "GnatPortraits" "now" "LGnatPortraits$Evening;", .fieldLink RX5 19 "GnatPortraits" "city" "LGnatPortraits$Capital;", .methodLink RX5 141 yX5_isSitter, .instanceMethod yX5_isSitter, .selects RX5 yX5_isSitter yX5_isSitter, .initialized RX5, .code yX5_isSitter cX5_isSitter 2 (some .boolean), .methodLink RX5 224 yX5_drawnBy, .instanceMethod yX5_drawnBy, .selects RX5 yX5_drawnBy yX5_drawnBy, .code yX5_drawnBy cX5_drawnBy 5 (some .int), .constant RX5 289 (17043521), .methodLink RX5 227 yX5_shifted, .static yX5_shifted, .code yX5_shifted cX5_shifted 6 (some .int), .methodLink RX5 290 yX5_lowestOf, .static yX5_lowestOf, .code yX5_lowestOf cX5_lowestOf 5 (some .int)] ++ wsX50 ++ wsX10 ++ wsX00)
def wsX5_cloudNow : List Cond := .code yX5_cloudNow cX5_cloudNow 3 (some .int) :: ([.fieldLink RX5 19 "GnatPortraits" "city" "LGnatPortraits$Capital;", .methodLink RX5 165 yX5_drawnAt, .instanceMethod yX5_drawnAt, .selects RX5 yX5_drawnAt yX5_drawnAt, .initialized RX5, .code yX5_drawnAt cX5_drawnAt 3 (some .int), .fieldLink RX5 26 "GnatPortraits" "now" "LGnatPortraits$Evening;", .methodLink RX5 141 yX5_isSitter, .instanceMethod yX5_isSitter, .selects RX5 yX5_isSitter yX5_isSitter, .code yX5_isSitter cX5_isSitter 2 (some .boolean), .methodLink RX5 224 yX5_drawnBy, .instanceMethod yX5_drawnBy, .selects RX5 yX5_drawnBy yX5_drawnBy, .code yX5_drawnBy cX5_drawnBy 5 (some .int), .constant RX5 289 (17043521), .methodLink RX5 227 yX5_shifted, .static yX5_shifted, .code yX5_shifted cX5_shifted 6 (some .int), .methodLink RX5 290 yX5_lowestOf, .static yX5_lowestOf, .code yX5_lowestOf cX5_lowestOf 5 (some .int)] ++ wsX50 ++ wsX00 ++ wsX10)
def wsX5_fits : List Cond := .code yX5_fits cX5_fits 6 (some .boolean) :: ([.fieldLink RX5 19 "GnatPortraits" "city" "LGnatPortraits$Capital;", .fieldLink RX5 265 "GnatPortraits" "toldDrawn" "I", .fieldLink RX5 268 "GnatPortraits" "toldMissing" "I", .methodLink RX5 227 yX5_shifted, .static yX5_shifted, .initialized RX5, .code yX5_shifted cX5_shifted 6 (some .int)] ++ wsX50 ++ wsX00)
def wsX5_sittersThatFit : List Cond := .code yX5_sittersThatFit cX5_sittersThatFit 4 (some .int) :: ([.fieldLink RX5 19 "GnatPortraits" "city" "LGnatPortraits$Capital;", .methodLink RX5 323 yX5_fits, .instanceMethod yX5_fits, .selects RX5 yX5_fits yX5_fits, .initialized RX5, .code yX5_fits cX5_fits 6 (some .boolean), .fieldLink RX5 265 "GnatPortraits" "toldDrawn" "I", .fieldLink RX5 268 "GnatPortraits" "toldMissing" "I", .methodLink RX5 227 yX5_shifted, .static yX5_shifted, .code yX5_shifted cX5_shifted 6 (some .int)] ++ wsX50 ++ wsX00)
def wsX5_told_r1 : List Cond := [Cond.fieldLink RX5 19 "GnatPortraits" "city" "LGnatPortraits$Capital;", Cond.fieldLink RX5 10 "GnatPortraits" "reader" "LGnatPortraits$Reader;", Cond.fieldLink RX5 26 "GnatPortraits" "now" "LGnatPortraits$Evening;", Cond.fieldLink RX5 132 "GnatPortraits" "toldOf" "I", Cond.fieldLink RX5 33 "GnatPortraits" "past" "LGnatPortraits$Past;", Cond.constant RX5 59 (-1000000002), Cond.methodLink RX5 125 yX5_cloudNow, Cond.instanceMethod yX5_cloudNow, Cond.selects RX5 yX5_cloudNow yX5_cloudNow, Cond.initialized RX5, Cond.code yX5_cloudNow cX5_cloudNow 3 (some .int), Cond.methodLink RX5 165 yX5_drawnAt, Cond.instanceMethod yX5_drawnAt, Cond.selects RX5 yX5_drawnAt yX5_drawnAt, Cond.code yX5_drawnAt cX5_drawnAt 3 (some .int), Cond.methodLink RX5 141 yX5_isSitter, Cond.instanceMethod yX5_isSitter, Cond.selects RX5 yX5_isSitter yX5_isSitter, Cond.code yX5_isSitter cX5_isSitter 2 (some .boolean), Cond.methodLink RX5 224 yX5_drawnBy, Cond.instanceMethod yX5_drawnBy, Cond.selects RX5 yX5_drawnBy yX5_drawnBy, Cond.code yX5_drawnBy cX5_drawnBy 5 (some .int), Cond.constant RX5 289 (17043521)]
def wsX5_told_r2 : List Cond := [Cond.methodLink RX5 227 yX5_shifted, Cond.static yX5_shifted, Cond.code yX5_shifted cX5_shifted 6 (some .int), Cond.methodLink RX5 290 yX5_lowestOf, Cond.static yX5_lowestOf, Cond.code yX5_lowestOf cX5_lowestOf 5 (some .int), Cond.methodLink RX5 135 yX5_sittersThatFit, Cond.instanceMethod yX5_sittersThatFit, Cond.selects RX5 yX5_sittersThatFit yX5_sittersThatFit, Cond.code yX5_sittersThatFit cX5_sittersThatFit 4 (some .int), Cond.methodLink RX5 323 yX5_fits, Cond.instanceMethod yX5_fits, Cond.selects RX5 yX5_fits yX5_fits, Cond.code yX5_fits cX5_fits 6 (some .boolean), Cond.fieldLink RX5 265 "GnatPortraits" "toldDrawn" "I", Cond.fieldLink RX5 268 "GnatPortraits" "toldMissing" "I"]
def wsX5_told : List Cond := .code yX5_told cX5_told 2 (some .int) :: ((wsX5_told_r1 ++ wsX5_told_r2) ++ wsX50 ++ wsX00 ++ wsX40 ++ wsX10 ++ wsX20)
def wsX5_sitter_r1 : List Cond := [Cond.constant RX5 145 (-1000000001), Cond.fieldLink RX5 19 "GnatPortraits" "city" "LGnatPortraits$Capital;", Cond.fieldLink RX5 26 "GnatPortraits" "now" "LGnatPortraits$Evening;", Cond.constant RX5 59 (-1000000002), Cond.methodLink RX5 141 yX5_isSitter, Cond.instanceMethod yX5_isSitter, Cond.selects RX5 yX5_isSitter yX5_isSitter, Cond.initialized RX5, Cond.code yX5_isSitter cX5_isSitter 2 (some .boolean), Cond.instanceMethod yX1_windowOf, Cond.initialized RX1, Cond.selects RX1 yX1_windowOf yX1_windowOf, Cond.code yX1_windowOf cX1_windowOf 3 (some .int), Cond.fieldLink RX1 15 "GnatPortraits$Evening" "standing" "[I", Cond.instanceMethod yX1_timesInAlbum, Cond.selects RX1 yX1_timesInAlbum yX1_timesInAlbum, Cond.code yX1_timesInAlbum cX1_timesInAlbum 4 (some .int), Cond.fieldLink RX1 50 "GnatPortraits$Evening" "albumSize" "I", Cond.fieldLink RX1 24 "GnatPortraits$Evening" "albumSitters" "[I", Cond.methodLink RX1 76 yX1_albumPlace, Cond.instanceMethod yX1_albumPlace, Cond.selects RX1 yX1_albumPlace yX1_albumPlace, Cond.code yX1_albumPlace cX1_albumPlace 2 (some .int), Cond.fieldLink RX1 53 "GnatPortraits$Evening" "albumNext" "I"]
def wsX5_sitter_r2 : List Cond := [Cond.methodLink RX1 73 yJ9_floorMod_7cf53, Cond.static yJ9_floorMod_7cf53, Cond.initialized RJ9, Cond.code yJ9_floorMod_7cf53 cJ9_floorMod_7cf53 3 (some .int)]
def wsX5_sitter : List Cond := .code yX5_sitter cX5_sitter 3 (some .int) :: ((wsX5_sitter_r1 ++ wsX5_sitter_r2) ++ wsX50 ++ wsX00 ++ wsX10)
def wsX5_isWindow : List Cond := .code yX5_isWindow cX5_isWindow 2 (some .boolean) :: ([.fieldLink RX5 19 "GnatPortraits" "city" "LGnatPortraits$Capital;"] ++ wsX50 ++ wsX00)
def wsJ6_bitCount_0f7a4 : List Cond := .code yJ6_bitCount_0f7a4 cJ6_bitCount_0f7a4 1 (some .int) :: ([.constant RJ6 265 (1431655765), .constant RJ6 266 (858993459), .constant RJ6 267 (252645135)])
def wsX5_mostLike : List Cond := .code yX5_mostLike cX5_mostLike 7 (some .int) :: ([.fieldLink RX5 19 "GnatPortraits" "city" "LGnatPortraits$Capital;", .methodLink RX5 244 yJ6_bitCount_0f7a4, .static yJ6_bitCount_0f7a4, .initialized RJ6, .code yJ6_bitCount_0f7a4 cJ6_bitCount_0f7a4 1 (some .int), .constant RJ6 265 (1431655765), .constant RJ6 266 (858993459), .constant RJ6 267 (252645135)] ++ wsX50 ++ wsX00)
def wsX5_window_r1 : List Cond := [Cond.constant RX5 145 (-1000000001), Cond.fieldLink RX5 26 "GnatPortraits" "now" "LGnatPortraits$Evening;", Cond.constant RX5 168 (1073741823), Cond.constant RX5 59 (-1000000002), Cond.methodLink RX5 156 yX5_isWindow, Cond.instanceMethod yX5_isWindow, Cond.selects RX5 yX5_isWindow yX5_isWindow, Cond.initialized RX5, Cond.code yX5_isWindow cX5_isWindow 2 (some .boolean), Cond.fieldLink RX5 19 "GnatPortraits" "city" "LGnatPortraits$Capital;", Cond.methodLink RX5 165 yX5_drawnAt, Cond.instanceMethod yX5_drawnAt, Cond.selects RX5 yX5_drawnAt yX5_drawnAt, Cond.code yX5_drawnAt cX5_drawnAt 3 (some .int), Cond.methodLink RX5 141 yX5_isSitter, Cond.instanceMethod yX5_isSitter, Cond.selects RX5 yX5_isSitter yX5_isSitter, Cond.code yX5_isSitter cX5_isSitter 2 (some .boolean), Cond.methodLink RX5 224 yX5_drawnBy, Cond.instanceMethod yX5_drawnBy, Cond.selects RX5 yX5_drawnBy yX5_drawnBy, Cond.code yX5_drawnBy cX5_drawnBy 5 (some .int), Cond.constant RX5 289 (17043521), Cond.methodLink RX5 227 yX5_shifted]
def wsX5_window_r2 : List Cond := [Cond.static yX5_shifted, Cond.code yX5_shifted cX5_shifted 6 (some .int), Cond.methodLink RX5 290 yX5_lowestOf, Cond.static yX5_lowestOf, Cond.code yX5_lowestOf cX5_lowestOf 5 (some .int), Cond.methodLink RX5 169 yX5_mostLike, Cond.instanceMethod yX5_mostLike, Cond.selects RX5 yX5_mostLike yX5_mostLike, Cond.code yX5_mostLike cX5_mostLike 7 (some .int), Cond.methodLink RX5 244 yJ6_bitCount_0f7a4, Cond.static yJ6_bitCount_0f7a4, Cond.initialized RJ6, Cond.code yJ6_bitCount_0f7a4 cJ6_bitCount_0f7a4 1 (some .int), Cond.constant RJ6 265 (1431655765), Cond.constant RJ6 266 (858993459), Cond.constant RJ6 267 (252645135)]
def wsX5_window : List Cond := .code yX5_window cX5_window 3 (some .int) :: ((wsX5_window_r1 ++ wsX5_window_r2) ++ wsX50 ++ wsX10 ++ wsX00)
def wsX5_album : List Cond := .code yX5_album cX5_album 4 (some .int) :: ([.constant RX5 59 (-1000000002), .fieldLink RX5 26 "GnatPortraits" "now" "LGnatPortraits$Evening;", .instanceMethod yX1_albumPlace, .initialized RX1, .selects RX1 yX1_albumPlace yX1_albumPlace, .code yX1_albumPlace cX1_albumPlace 2 (some .int), .fieldLink RX1 53 "GnatPortraits$Evening" "albumNext" "I", .methodLink RX1 73 yJ9_floorMod_7cf53, .static yJ9_floorMod_7cf53, .initialized RJ9, .code yJ9_floorMod_7cf53 cJ9_floorMod_7cf53 3 (some .int)] ++ wsX50 ++ wsX10)
def wsX5_isGlass : List Cond := .code yX5_isGlass cX5_isGlass 1 (some .boolean) :: ([])
def wsX5_glass : List Cond := .code yX5_glass cX5_glass 2 (some .int) :: ([.fieldLink RX5 26 "GnatPortraits" "now" "LGnatPortraits$Evening;", .constant RX5 145 (-1000000001), .methodLink RX5 185 yX5_isGlass, .static yX5_isGlass, .initialized RX5, .code yX5_isGlass cX5_isGlass 1 (some .boolean)] ++ wsX50 ++ wsX10)
def wsX5_stand_r1 : List Cond := [Cond.constant RX5 145 (-1000000001), Cond.fieldLink RX5 26 "GnatPortraits" "now" "LGnatPortraits$Evening;", Cond.constant RX5 191 (-1000000003), Cond.fieldLink RX5 33 "GnatPortraits" "past" "LGnatPortraits$Past;", Cond.methodLink RX5 141 yX5_isSitter, Cond.instanceMethod yX5_isSitter, Cond.selects RX5 yX5_isSitter yX5_isSitter, Cond.initialized RX5, Cond.code yX5_isSitter cX5_isSitter 2 (some .boolean), Cond.fieldLink RX5 19 "GnatPortraits" "city" "LGnatPortraits$Capital;", Cond.methodLink RX5 156 yX5_isWindow, Cond.instanceMethod yX5_isWindow, Cond.selects RX5 yX5_isWindow yX5_isWindow, Cond.code yX5_isWindow cX5_isWindow 2 (some .boolean), Cond.instanceMethod yX2_remember, Cond.initialized RX2, Cond.selects RX2 yX2_remember yX2_remember, Cond.code yX2_remember cX2_remember 2 none, Cond.fieldLink RX2 22 "GnatPortraits$Past" "next" "I", Cond.fieldLink RX2 11 "GnatPortraits$Past" "evenings" "[LGnatPortraits$Evening;", Cond.fieldLink RX2 18 "GnatPortraits$Past" "size" "I", Cond.methodLink RX2 29 Lib.Math.min.name, Cond.static Lib.Math.min.name, Cond.initialized "java/lang/Math"]
def wsX5_stand_r2 : List Cond := [Cond.code Lib.Math.min.name Lib.Math.min.code 2 (some .int), Cond.static yX1_copy, Cond.initialized RX1, Cond.code yX1_copy cX1_copy 2 none, Cond.fieldLink RX1 30 "GnatPortraits$Evening" "blowing" "I", Cond.fieldLink RX1 34 "GnatPortraits$Evening" "batted" "I", Cond.fieldLink RX1 37 "GnatPortraits$Evening" "eyes" "I", Cond.fieldLink RX1 40 "GnatPortraits$Evening" "raining" "Z", Cond.fieldLink RX1 44 "GnatPortraits$Evening" "smoking" "I", Cond.fieldLink RX1 47 "GnatPortraits$Evening" "dusks" "I", Cond.fieldLink RX1 50 "GnatPortraits$Evening" "albumSize" "I", Cond.fieldLink RX1 53 "GnatPortraits$Evening" "albumNext" "I", Cond.fieldLink RX1 9 "GnatPortraits$Evening" "lamps" "[I", Cond.methodLink RX1 61 arraycopyName, Cond.native arraycopyName, Cond.static arraycopyName, Cond.initialized "java/lang/System", Cond.fieldLink RX1 15 "GnatPortraits$Evening" "standing" "[I", Cond.fieldLink RX1 18 "GnatPortraits$Evening" "glasses" "[I", Cond.fieldLink RX1 21 "GnatPortraits$Evening" "albumWindows" "[I", Cond.fieldLink RX1 24 "GnatPortraits$Evening" "albumSitters" "[I", Cond.fieldLink RX1 27 "GnatPortraits$Evening" "albumDots" "[I", Cond.instanceMethod yX1_windowOf, Cond.selects RX1 yX1_windowOf yX1_windowOf]
def wsX5_stand_r3 : List Cond := [Cond.code yX1_windowOf cX1_windowOf 3 (some .int), Cond.instanceMethod yX1_moveTo, Cond.selects RX1 yX1_moveTo yX1_moveTo, Cond.code yX1_moveTo cX1_moveTo 4 none]
def wsX5_stand : List Cond := .code yX5_stand cX5_stand 4 (some .int) :: ((wsX5_stand_r1 ++ (wsX5_stand_r2 ++ wsX5_stand_r3)) ++ wsX50 ++ wsX10 ++ wsX00 ++ wsX20)
def wsX5_go_r1 : List Cond := [Cond.constant RX5 145 (-1000000001), Cond.fieldLink RX5 26 "GnatPortraits" "now" "LGnatPortraits$Evening;", Cond.constant RX5 191 (-1000000003), Cond.fieldLink RX5 33 "GnatPortraits" "past" "LGnatPortraits$Past;", Cond.methodLink RX5 141 yX5_isSitter, Cond.instanceMethod yX5_isSitter, Cond.selects RX5 yX5_isSitter yX5_isSitter, Cond.initialized RX5, Cond.code yX5_isSitter cX5_isSitter 2 (some .boolean), Cond.fieldLink RX5 19 "GnatPortraits" "city" "LGnatPortraits$Capital;", Cond.instanceMethod yX1_windowOf, Cond.initialized RX1, Cond.selects RX1 yX1_windowOf yX1_windowOf, Cond.code yX1_windowOf cX1_windowOf 3 (some .int), Cond.fieldLink RX1 15 "GnatPortraits$Evening" "standing" "[I", Cond.methodLink RX5 156 yX5_isWindow, Cond.instanceMethod yX5_isWindow, Cond.selects RX5 yX5_isWindow yX5_isWindow, Cond.code yX5_isWindow cX5_isWindow 2 (some .boolean), Cond.instanceMethod yX2_remember, Cond.initialized RX2, Cond.selects RX2 yX2_remember yX2_remember, Cond.code yX2_remember cX2_remember 2 none, Cond.fieldLink RX2 22 "GnatPortraits$Past" "next" "I"]
def wsX5_go_r2 : List Cond := [Cond.fieldLink RX2 11 "GnatPortraits$Past" "evenings" "[LGnatPortraits$Evening;", Cond.fieldLink RX2 18 "GnatPortraits$Past" "size" "I", Cond.methodLink RX2 29 Lib.Math.min.name, Cond.static Lib.Math.min.name, Cond.initialized "java/lang/Math", Cond.code Lib.Math.min.name Lib.Math.min.code 2 (some .int), Cond.static yX1_copy, Cond.code yX1_copy cX1_copy 2 none, Cond.fieldLink RX1 30 "GnatPortraits$Evening" "blowing" "I", Cond.fieldLink RX1 34 "GnatPortraits$Evening" "batted" "I", Cond.fieldLink RX1 37 "GnatPortraits$Evening" "eyes" "I", Cond.fieldLink RX1 40 "GnatPortraits$Evening" "raining" "Z", Cond.fieldLink RX1 44 "GnatPortraits$Evening" "smoking" "I", Cond.fieldLink RX1 47 "GnatPortraits$Evening" "dusks" "I", Cond.fieldLink RX1 50 "GnatPortraits$Evening" "albumSize" "I", Cond.fieldLink RX1 53 "GnatPortraits$Evening" "albumNext" "I", Cond.fieldLink RX1 9 "GnatPortraits$Evening" "lamps" "[I", Cond.methodLink RX1 61 arraycopyName, Cond.native arraycopyName, Cond.static arraycopyName, Cond.initialized "java/lang/System", Cond.fieldLink RX1 18 "GnatPortraits$Evening" "glasses" "[I", Cond.fieldLink RX1 21 "GnatPortraits$Evening" "albumWindows" "[I", Cond.fieldLink RX1 24 "GnatPortraits$Evening" "albumSitters" "[I"]
def wsX5_go_r3 : List Cond := [Cond.fieldLink RX1 27 "GnatPortraits$Evening" "albumDots" "[I"]
def wsX5_go : List Cond := .code yX5_go cX5_go 3 (some .int) :: ((wsX5_go_r1 ++ (wsX5_go_r2 ++ wsX5_go_r3)) ++ wsX50 ++ wsX10 ++ wsX00 ++ wsX20)
def wsX5_lamp_r1 : List Cond := [Cond.constant RX5 145 (-1000000001), Cond.constant RX5 59 (-1000000002), Cond.fieldLink RX5 33 "GnatPortraits" "past" "LGnatPortraits$Past;", Cond.fieldLink RX5 26 "GnatPortraits" "now" "LGnatPortraits$Evening;", Cond.methodLink RX5 156 yX5_isWindow, Cond.instanceMethod yX5_isWindow, Cond.selects RX5 yX5_isWindow yX5_isWindow, Cond.initialized RX5, Cond.code yX5_isWindow cX5_isWindow 2 (some .boolean), Cond.fieldLink RX5 19 "GnatPortraits" "city" "LGnatPortraits$Capital;", Cond.instanceMethod yX2_remember, Cond.initialized RX2, Cond.selects RX2 yX2_remember yX2_remember, Cond.code yX2_remember cX2_remember 2 none, Cond.fieldLink RX2 22 "GnatPortraits$Past" "next" "I", Cond.fieldLink RX2 11 "GnatPortraits$Past" "evenings" "[LGnatPortraits$Evening;", Cond.fieldLink RX2 18 "GnatPortraits$Past" "size" "I", Cond.methodLink RX2 29 Lib.Math.min.name, Cond.static Lib.Math.min.name, Cond.initialized "java/lang/Math", Cond.code Lib.Math.min.name Lib.Math.min.code 2 (some .int), Cond.static yX1_copy, Cond.initialized RX1, Cond.code yX1_copy cX1_copy 2 none]
def wsX5_lamp_r2 : List Cond := [Cond.fieldLink RX1 30 "GnatPortraits$Evening" "blowing" "I", Cond.fieldLink RX1 34 "GnatPortraits$Evening" "batted" "I", Cond.fieldLink RX1 37 "GnatPortraits$Evening" "eyes" "I", Cond.fieldLink RX1 40 "GnatPortraits$Evening" "raining" "Z", Cond.fieldLink RX1 44 "GnatPortraits$Evening" "smoking" "I", Cond.fieldLink RX1 47 "GnatPortraits$Evening" "dusks" "I", Cond.fieldLink RX1 50 "GnatPortraits$Evening" "albumSize" "I", Cond.fieldLink RX1 53 "GnatPortraits$Evening" "albumNext" "I", Cond.fieldLink RX1 9 "GnatPortraits$Evening" "lamps" "[I", Cond.methodLink RX1 61 arraycopyName, Cond.native arraycopyName, Cond.static arraycopyName, Cond.initialized "java/lang/System", Cond.fieldLink RX1 15 "GnatPortraits$Evening" "standing" "[I", Cond.fieldLink RX1 18 "GnatPortraits$Evening" "glasses" "[I", Cond.fieldLink RX1 21 "GnatPortraits$Evening" "albumWindows" "[I", Cond.fieldLink RX1 24 "GnatPortraits$Evening" "albumSitters" "[I", Cond.fieldLink RX1 27 "GnatPortraits$Evening" "albumDots" "[I"]
def wsX5_lamp : List Cond := .code yX5_lamp cX5_lamp 4 (some .int) :: ((wsX5_lamp_r1 ++ wsX5_lamp_r2) ++ wsX50 ++ wsX10 ++ wsX00 ++ wsX20)
def wsX5_wind_r1 : List Cond := [Cond.constant RX5 59 (-1000000002), Cond.fieldLink RX5 19 "GnatPortraits" "city" "LGnatPortraits$Capital;", Cond.constant RX5 191 (-1000000003), Cond.fieldLink RX5 33 "GnatPortraits" "past" "LGnatPortraits$Past;", Cond.fieldLink RX5 26 "GnatPortraits" "now" "LGnatPortraits$Evening;", Cond.instanceMethod yX2_remember, Cond.initialized RX2, Cond.selects RX2 yX2_remember yX2_remember, Cond.code yX2_remember cX2_remember 2 none, Cond.fieldLink RX2 22 "GnatPortraits$Past" "next" "I", Cond.fieldLink RX2 11 "GnatPortraits$Past" "evenings" "[LGnatPortraits$Evening;", Cond.fieldLink RX2 18 "GnatPortraits$Past" "size" "I", Cond.methodLink RX2 29 Lib.Math.min.name, Cond.static Lib.Math.min.name, Cond.initialized "java/lang/Math", Cond.code Lib.Math.min.name Lib.Math.min.code 2 (some .int), Cond.static yX1_copy, Cond.initialized RX1, Cond.code yX1_copy cX1_copy 2 none, Cond.fieldLink RX1 30 "GnatPortraits$Evening" "blowing" "I", Cond.fieldLink RX1 34 "GnatPortraits$Evening" "batted" "I", Cond.fieldLink RX1 37 "GnatPortraits$Evening" "eyes" "I", Cond.fieldLink RX1 40 "GnatPortraits$Evening" "raining" "Z", Cond.fieldLink RX1 44 "GnatPortraits$Evening" "smoking" "I"]
def wsX5_wind_r2 : List Cond := [Cond.fieldLink RX1 47 "GnatPortraits$Evening" "dusks" "I", Cond.fieldLink RX1 50 "GnatPortraits$Evening" "albumSize" "I", Cond.fieldLink RX1 53 "GnatPortraits$Evening" "albumNext" "I", Cond.fieldLink RX1 9 "GnatPortraits$Evening" "lamps" "[I", Cond.methodLink RX1 61 arraycopyName, Cond.native arraycopyName, Cond.static arraycopyName, Cond.initialized "java/lang/System", Cond.fieldLink RX1 15 "GnatPortraits$Evening" "standing" "[I", Cond.fieldLink RX1 18 "GnatPortraits$Evening" "glasses" "[I", Cond.fieldLink RX1 21 "GnatPortraits$Evening" "albumWindows" "[I", Cond.fieldLink RX1 24 "GnatPortraits$Evening" "albumSitters" "[I", Cond.fieldLink RX1 27 "GnatPortraits$Evening" "albumDots" "[I"]
def wsX5_wind : List Cond := .code yX5_wind cX5_wind 3 (some .int) :: ((wsX5_wind_r1 ++ wsX5_wind_r2) ++ wsX50 ++ wsX00 ++ wsX10 ++ wsX20)
def wsX5_bats_r1 : List Cond := [Cond.constant RX5 59 (-1000000002), Cond.fieldLink RX5 19 "GnatPortraits" "city" "LGnatPortraits$Capital;", Cond.constant RX5 191 (-1000000003), Cond.fieldLink RX5 33 "GnatPortraits" "past" "LGnatPortraits$Past;", Cond.fieldLink RX5 26 "GnatPortraits" "now" "LGnatPortraits$Evening;", Cond.instanceMethod yX2_remember, Cond.initialized RX2, Cond.selects RX2 yX2_remember yX2_remember, Cond.code yX2_remember cX2_remember 2 none, Cond.fieldLink RX2 22 "GnatPortraits$Past" "next" "I", Cond.fieldLink RX2 11 "GnatPortraits$Past" "evenings" "[LGnatPortraits$Evening;", Cond.fieldLink RX2 18 "GnatPortraits$Past" "size" "I", Cond.methodLink RX2 29 Lib.Math.min.name, Cond.static Lib.Math.min.name, Cond.initialized "java/lang/Math", Cond.code Lib.Math.min.name Lib.Math.min.code 2 (some .int), Cond.static yX1_copy, Cond.initialized RX1, Cond.code yX1_copy cX1_copy 2 none, Cond.fieldLink RX1 30 "GnatPortraits$Evening" "blowing" "I", Cond.fieldLink RX1 34 "GnatPortraits$Evening" "batted" "I", Cond.fieldLink RX1 37 "GnatPortraits$Evening" "eyes" "I", Cond.fieldLink RX1 40 "GnatPortraits$Evening" "raining" "Z", Cond.fieldLink RX1 44 "GnatPortraits$Evening" "smoking" "I"]
def wsX5_bats_r2 : List Cond := [Cond.fieldLink RX1 47 "GnatPortraits$Evening" "dusks" "I", Cond.fieldLink RX1 50 "GnatPortraits$Evening" "albumSize" "I", Cond.fieldLink RX1 53 "GnatPortraits$Evening" "albumNext" "I", Cond.fieldLink RX1 9 "GnatPortraits$Evening" "lamps" "[I", Cond.methodLink RX1 61 arraycopyName, Cond.native arraycopyName, Cond.static arraycopyName, Cond.initialized "java/lang/System", Cond.fieldLink RX1 15 "GnatPortraits$Evening" "standing" "[I", Cond.fieldLink RX1 18 "GnatPortraits$Evening" "glasses" "[I", Cond.fieldLink RX1 21 "GnatPortraits$Evening" "albumWindows" "[I", Cond.fieldLink RX1 24 "GnatPortraits$Evening" "albumSitters" "[I", Cond.fieldLink RX1 27 "GnatPortraits$Evening" "albumDots" "[I"]
def wsX5_bats : List Cond := .code yX5_bats cX5_bats 3 (some .int) :: ((wsX5_bats_r1 ++ wsX5_bats_r2) ++ wsX50 ++ wsX00 ++ wsX10 ++ wsX20)
def wsX5_isDot : List Cond := .code yX5_isDot cX5_isDot 1 (some .boolean) :: ([])
def wsX5_eye_r1 : List Cond := [Cond.constant RX5 59 (-1000000002), Cond.fieldLink RX5 19 "GnatPortraits" "city" "LGnatPortraits$Capital;", Cond.constant RX5 191 (-1000000003), Cond.fieldLink RX5 33 "GnatPortraits" "past" "LGnatPortraits$Past;", Cond.fieldLink RX5 26 "GnatPortraits" "now" "LGnatPortraits$Evening;", Cond.methodLink RX5 203 yX5_isDot, Cond.static yX5_isDot, Cond.initialized RX5, Cond.code yX5_isDot cX5_isDot 1 (some .boolean), Cond.instanceMethod yX2_remember, Cond.initialized RX2, Cond.selects RX2 yX2_remember yX2_remember, Cond.code yX2_remember cX2_remember 2 none, Cond.fieldLink RX2 22 "GnatPortraits$Past" "next" "I", Cond.fieldLink RX2 11 "GnatPortraits$Past" "evenings" "[LGnatPortraits$Evening;", Cond.fieldLink RX2 18 "GnatPortraits$Past" "size" "I", Cond.methodLink RX2 29 Lib.Math.min.name, Cond.static Lib.Math.min.name, Cond.initialized "java/lang/Math", Cond.code Lib.Math.min.name Lib.Math.min.code 2 (some .int), Cond.static yX1_copy, Cond.initialized RX1, Cond.code yX1_copy cX1_copy 2 none, Cond.fieldLink RX1 30 "GnatPortraits$Evening" "blowing" "I"]
def wsX5_eye_r2 : List Cond := [Cond.fieldLink RX1 34 "GnatPortraits$Evening" "batted" "I", Cond.fieldLink RX1 37 "GnatPortraits$Evening" "eyes" "I", Cond.fieldLink RX1 40 "GnatPortraits$Evening" "raining" "Z", Cond.fieldLink RX1 44 "GnatPortraits$Evening" "smoking" "I", Cond.fieldLink RX1 47 "GnatPortraits$Evening" "dusks" "I", Cond.fieldLink RX1 50 "GnatPortraits$Evening" "albumSize" "I", Cond.fieldLink RX1 53 "GnatPortraits$Evening" "albumNext" "I", Cond.fieldLink RX1 9 "GnatPortraits$Evening" "lamps" "[I", Cond.methodLink RX1 61 arraycopyName, Cond.native arraycopyName, Cond.static arraycopyName, Cond.initialized "java/lang/System", Cond.fieldLink RX1 15 "GnatPortraits$Evening" "standing" "[I", Cond.fieldLink RX1 18 "GnatPortraits$Evening" "glasses" "[I", Cond.fieldLink RX1 21 "GnatPortraits$Evening" "albumWindows" "[I", Cond.fieldLink RX1 24 "GnatPortraits$Evening" "albumSitters" "[I", Cond.fieldLink RX1 27 "GnatPortraits$Evening" "albumDots" "[I"]
def wsX5_eye : List Cond := .code yX5_eye cX5_eye 2 (some .int) :: ((wsX5_eye_r1 ++ wsX5_eye_r2) ++ wsX50 ++ wsX00 ++ wsX10 ++ wsX20)
def wsX5_rain_r1 : List Cond := [Cond.fieldLink RX5 19 "GnatPortraits" "city" "LGnatPortraits$Capital;", Cond.constant RX5 191 (-1000000003), Cond.fieldLink RX5 33 "GnatPortraits" "past" "LGnatPortraits$Past;", Cond.fieldLink RX5 26 "GnatPortraits" "now" "LGnatPortraits$Evening;", Cond.instanceMethod yX2_remember, Cond.initialized RX2, Cond.selects RX2 yX2_remember yX2_remember, Cond.code yX2_remember cX2_remember 2 none, Cond.fieldLink RX2 22 "GnatPortraits$Past" "next" "I", Cond.fieldLink RX2 11 "GnatPortraits$Past" "evenings" "[LGnatPortraits$Evening;", Cond.fieldLink RX2 18 "GnatPortraits$Past" "size" "I", Cond.methodLink RX2 29 Lib.Math.min.name, Cond.static Lib.Math.min.name, Cond.initialized "java/lang/Math", Cond.code Lib.Math.min.name Lib.Math.min.code 2 (some .int), Cond.static yX1_copy, Cond.initialized RX1, Cond.code yX1_copy cX1_copy 2 none, Cond.fieldLink RX1 30 "GnatPortraits$Evening" "blowing" "I", Cond.fieldLink RX1 34 "GnatPortraits$Evening" "batted" "I", Cond.fieldLink RX1 37 "GnatPortraits$Evening" "eyes" "I", Cond.fieldLink RX1 40 "GnatPortraits$Evening" "raining" "Z", Cond.fieldLink RX1 44 "GnatPortraits$Evening" "smoking" "I", Cond.fieldLink RX1 47 "GnatPortraits$Evening" "dusks" "I"]
def wsX5_rain_r2 : List Cond := [Cond.fieldLink RX1 50 "GnatPortraits$Evening" "albumSize" "I", Cond.fieldLink RX1 53 "GnatPortraits$Evening" "albumNext" "I", Cond.fieldLink RX1 9 "GnatPortraits$Evening" "lamps" "[I", Cond.methodLink RX1 61 arraycopyName, Cond.native arraycopyName, Cond.static arraycopyName, Cond.initialized "java/lang/System", Cond.fieldLink RX1 15 "GnatPortraits$Evening" "standing" "[I", Cond.fieldLink RX1 18 "GnatPortraits$Evening" "glasses" "[I", Cond.fieldLink RX1 21 "GnatPortraits$Evening" "albumWindows" "[I", Cond.fieldLink RX1 24 "GnatPortraits$Evening" "albumSitters" "[I", Cond.fieldLink RX1 27 "GnatPortraits$Evening" "albumDots" "[I"]
def wsX5_rain : List Cond := .code yX5_rain cX5_rain 3 (some .int) :: ((wsX5_rain_r1 ++ wsX5_rain_r2) ++ wsX50 ++ wsX00 ++ wsX10 ++ wsX20)
def wsX5_smoke_r1 : List Cond := [Cond.constant RX5 145 (-1000000001), Cond.fieldLink RX5 33 "GnatPortraits" "past" "LGnatPortraits$Past;", Cond.fieldLink RX5 26 "GnatPortraits" "now" "LGnatPortraits$Evening;", Cond.methodLink RX5 156 yX5_isWindow, Cond.instanceMethod yX5_isWindow, Cond.selects RX5 yX5_isWindow yX5_isWindow, Cond.initialized RX5, Cond.code yX5_isWindow cX5_isWindow 2 (some .boolean), Cond.fieldLink RX5 19 "GnatPortraits" "city" "LGnatPortraits$Capital;", Cond.instanceMethod yX2_remember, Cond.initialized RX2, Cond.selects RX2 yX2_remember yX2_remember, Cond.code yX2_remember cX2_remember 2 none, Cond.fieldLink RX2 22 "GnatPortraits$Past" "next" "I", Cond.fieldLink RX2 11 "GnatPortraits$Past" "evenings" "[LGnatPortraits$Evening;", Cond.fieldLink RX2 18 "GnatPortraits$Past" "size" "I", Cond.methodLink RX2 29 Lib.Math.min.name, Cond.static Lib.Math.min.name, Cond.initialized "java/lang/Math", Cond.code Lib.Math.min.name Lib.Math.min.code 2 (some .int), Cond.static yX1_copy, Cond.initialized RX1, Cond.code yX1_copy cX1_copy 2 none, Cond.fieldLink RX1 30 "GnatPortraits$Evening" "blowing" "I"]
def wsX5_smoke_r2 : List Cond := [Cond.fieldLink RX1 34 "GnatPortraits$Evening" "batted" "I", Cond.fieldLink RX1 37 "GnatPortraits$Evening" "eyes" "I", Cond.fieldLink RX1 40 "GnatPortraits$Evening" "raining" "Z", Cond.fieldLink RX1 44 "GnatPortraits$Evening" "smoking" "I", Cond.fieldLink RX1 47 "GnatPortraits$Evening" "dusks" "I", Cond.fieldLink RX1 50 "GnatPortraits$Evening" "albumSize" "I", Cond.fieldLink RX1 53 "GnatPortraits$Evening" "albumNext" "I", Cond.fieldLink RX1 9 "GnatPortraits$Evening" "lamps" "[I", Cond.methodLink RX1 61 arraycopyName, Cond.native arraycopyName, Cond.static arraycopyName, Cond.initialized "java/lang/System", Cond.fieldLink RX1 15 "GnatPortraits$Evening" "standing" "[I", Cond.fieldLink RX1 18 "GnatPortraits$Evening" "glasses" "[I", Cond.fieldLink RX1 21 "GnatPortraits$Evening" "albumWindows" "[I", Cond.fieldLink RX1 24 "GnatPortraits$Evening" "albumSitters" "[I", Cond.fieldLink RX1 27 "GnatPortraits$Evening" "albumDots" "[I"]
def wsX5_smoke : List Cond := .code yX5_smoke cX5_smoke 4 (some .int) :: ((wsX5_smoke_r1 ++ wsX5_smoke_r2) ++ wsX50 ++ wsX10 ++ wsX00 ++ wsX20)
def wsX5_press_r1 : List Cond := [Cond.constant RX5 145 (-1000000001), Cond.fieldLink RX5 33 "GnatPortraits" "past" "LGnatPortraits$Past;", Cond.fieldLink RX5 26 "GnatPortraits" "now" "LGnatPortraits$Evening;", Cond.methodLink RX5 185 yX5_isGlass, Cond.static yX5_isGlass, Cond.initialized RX5, Cond.code yX5_isGlass cX5_isGlass 1 (some .boolean), Cond.methodLink RX5 156 yX5_isWindow, Cond.instanceMethod yX5_isWindow, Cond.selects RX5 yX5_isWindow yX5_isWindow, Cond.code yX5_isWindow cX5_isWindow 2 (some .boolean), Cond.fieldLink RX5 19 "GnatPortraits" "city" "LGnatPortraits$Capital;", Cond.instanceMethod yX2_remember, Cond.initialized RX2, Cond.selects RX2 yX2_remember yX2_remember, Cond.code yX2_remember cX2_remember 2 none, Cond.fieldLink RX2 22 "GnatPortraits$Past" "next" "I", Cond.fieldLink RX2 11 "GnatPortraits$Past" "evenings" "[LGnatPortraits$Evening;", Cond.fieldLink RX2 18 "GnatPortraits$Past" "size" "I", Cond.methodLink RX2 29 Lib.Math.min.name, Cond.static Lib.Math.min.name, Cond.initialized "java/lang/Math", Cond.code Lib.Math.min.name Lib.Math.min.code 2 (some .int), Cond.static yX1_copy]
def wsX5_press_r2 : List Cond := [Cond.initialized RX1, Cond.code yX1_copy cX1_copy 2 none, Cond.fieldLink RX1 30 "GnatPortraits$Evening" "blowing" "I", Cond.fieldLink RX1 34 "GnatPortraits$Evening" "batted" "I", Cond.fieldLink RX1 37 "GnatPortraits$Evening" "eyes" "I", Cond.fieldLink RX1 40 "GnatPortraits$Evening" "raining" "Z", Cond.fieldLink RX1 44 "GnatPortraits$Evening" "smoking" "I", Cond.fieldLink RX1 47 "GnatPortraits$Evening" "dusks" "I", Cond.fieldLink RX1 50 "GnatPortraits$Evening" "albumSize" "I", Cond.fieldLink RX1 53 "GnatPortraits$Evening" "albumNext" "I", Cond.fieldLink RX1 9 "GnatPortraits$Evening" "lamps" "[I", Cond.methodLink RX1 61 arraycopyName, Cond.native arraycopyName, Cond.static arraycopyName, Cond.initialized "java/lang/System", Cond.fieldLink RX1 15 "GnatPortraits$Evening" "standing" "[I", Cond.fieldLink RX1 18 "GnatPortraits$Evening" "glasses" "[I", Cond.fieldLink RX1 21 "GnatPortraits$Evening" "albumWindows" "[I", Cond.fieldLink RX1 24 "GnatPortraits$Evening" "albumSitters" "[I", Cond.fieldLink RX1 27 "GnatPortraits$Evening" "albumDots" "[I", Cond.methodLink RX5 165 yX5_drawnAt, Cond.instanceMethod yX5_drawnAt, Cond.selects RX5 yX5_drawnAt yX5_drawnAt, Cond.code yX5_drawnAt cX5_drawnAt 3 (some .int)]
def wsX5_press_r3 : List Cond := [Cond.methodLink RX5 141 yX5_isSitter, Cond.instanceMethod yX5_isSitter, Cond.selects RX5 yX5_isSitter yX5_isSitter, Cond.code yX5_isSitter cX5_isSitter 2 (some .boolean), Cond.methodLink RX5 224 yX5_drawnBy, Cond.instanceMethod yX5_drawnBy, Cond.selects RX5 yX5_drawnBy yX5_drawnBy, Cond.code yX5_drawnBy cX5_drawnBy 5 (some .int), Cond.constant RX5 289 (17043521), Cond.methodLink RX5 227 yX5_shifted, Cond.static yX5_shifted, Cond.code yX5_shifted cX5_shifted 6 (some .int), Cond.methodLink RX5 290 yX5_lowestOf, Cond.static yX5_lowestOf, Cond.code yX5_lowestOf cX5_lowestOf 5 (some .int)]
def wsX5_press : List Cond := .code yX5_press cX5_press 4 (some .int) :: ((wsX5_press_r1 ++ (wsX5_press_r2 ++ wsX5_press_r3)) ++ wsX50 ++ wsX10 ++ wsX00 ++ wsX20)
def wsX5_refusalOfDusks : List Cond := .code yX5_refusalOfDusks cX5_refusalOfDusks 2 (some .int) :: ([.constant RX5 59 (-1000000002), .fieldLink RX5 19 "GnatPortraits" "city" "LGnatPortraits$Capital;", .constant RX5 191 (-1000000003), .fieldLink RX5 26 "GnatPortraits" "now" "LGnatPortraits$Evening;", .constant RX5 64 (-1000000004)] ++ wsX50 ++ wsX00 ++ wsX10)
def wsX5_passDusk_r1 : List Cond := [Cond.fieldLink RX5 19 "GnatPortraits" "city" "LGnatPortraits$Capital;", Cond.fieldLink RX5 26 "GnatPortraits" "now" "LGnatPortraits$Evening;", Cond.methodLink RX5 165 yX5_drawnAt, Cond.instanceMethod yX5_drawnAt, Cond.selects RX5 yX5_drawnAt yX5_drawnAt, Cond.initialized RX5, Cond.code yX5_drawnAt cX5_drawnAt 3 (some .int), Cond.methodLink RX5 141 yX5_isSitter, Cond.instanceMethod yX5_isSitter, Cond.selects RX5 yX5_isSitter yX5_isSitter, Cond.code yX5_isSitter cX5_isSitter 2 (some .boolean), Cond.methodLink RX5 224 yX5_drawnBy, Cond.instanceMethod yX5_drawnBy, Cond.selects RX5 yX5_drawnBy yX5_drawnBy, Cond.code yX5_drawnBy cX5_drawnBy 5 (some .int), Cond.constant RX5 289 (17043521), Cond.methodLink RX5 227 yX5_shifted, Cond.static yX5_shifted, Cond.code yX5_shifted cX5_shifted 6 (some .int), Cond.methodLink RX5 290 yX5_lowestOf, Cond.static yX5_lowestOf, Cond.code yX5_lowestOf cX5_lowestOf 5 (some .int), Cond.instanceMethod yX1_keepInAlbum, Cond.initialized RX1]
def wsX5_passDusk_r2 : List Cond := [Cond.selects RX1 yX1_keepInAlbum yX1_keepInAlbum, Cond.code yX1_keepInAlbum cX1_keepInAlbum 4 none, Cond.fieldLink RX1 53 "GnatPortraits$Evening" "albumNext" "I", Cond.fieldLink RX1 21 "GnatPortraits$Evening" "albumWindows" "[I", Cond.fieldLink RX1 24 "GnatPortraits$Evening" "albumSitters" "[I", Cond.fieldLink RX1 27 "GnatPortraits$Evening" "albumDots" "[I", Cond.fieldLink RX1 50 "GnatPortraits$Evening" "albumSize" "I", Cond.methodLink RX1 67 Lib.Math.min.name, Cond.static Lib.Math.min.name, Cond.initialized "java/lang/Math", Cond.code Lib.Math.min.name Lib.Math.min.code 2 (some .int), Cond.instanceMethod yX1_endDusk, Cond.selects RX1 yX1_endDusk yX1_endDusk, Cond.code yX1_endDusk cX1_endDusk 1 none, Cond.fieldLink RX1 30 "GnatPortraits$Evening" "blowing" "I", Cond.fieldLink RX1 34 "GnatPortraits$Evening" "batted" "I", Cond.fieldLink RX1 40 "GnatPortraits$Evening" "raining" "Z", Cond.fieldLink RX1 44 "GnatPortraits$Evening" "smoking" "I", Cond.fieldLink RX1 47 "GnatPortraits$Evening" "dusks" "I", Cond.fieldLink RX1 37 "GnatPortraits$Evening" "eyes" "I"]
def wsX5_passDusk : List Cond := .code yX5_passDusk cX5_passDusk 3 none :: ((wsX5_passDusk_r1 ++ wsX5_passDusk_r2) ++ wsX50 ++ wsX00 ++ wsX10)
def wsX5_dusk_r1 : List Cond := [Cond.fieldLink RX5 33 "GnatPortraits" "past" "LGnatPortraits$Past;", Cond.fieldLink RX5 26 "GnatPortraits" "now" "LGnatPortraits$Evening;", Cond.methodLink RX5 206 yX5_refusalOfDusks, Cond.instanceMethod yX5_refusalOfDusks, Cond.selects RX5 yX5_refusalOfDusks yX5_refusalOfDusks, Cond.initialized RX5, Cond.code yX5_refusalOfDusks cX5_refusalOfDusks 2 (some .int), Cond.constant RX5 59 (-1000000002), Cond.fieldLink RX5 19 "GnatPortraits" "city" "LGnatPortraits$Capital;", Cond.constant RX5 191 (-1000000003), Cond.constant RX5 64 (-1000000004), Cond.instanceMethod yX2_remember, Cond.initialized RX2, Cond.selects RX2 yX2_remember yX2_remember, Cond.code yX2_remember cX2_remember 2 none, Cond.fieldLink RX2 22 "GnatPortraits$Past" "next" "I", Cond.fieldLink RX2 11 "GnatPortraits$Past" "evenings" "[LGnatPortraits$Evening;", Cond.fieldLink RX2 18 "GnatPortraits$Past" "size" "I", Cond.methodLink RX2 29 Lib.Math.min.name, Cond.static Lib.Math.min.name, Cond.initialized "java/lang/Math", Cond.code Lib.Math.min.name Lib.Math.min.code 2 (some .int), Cond.static yX1_copy, Cond.initialized RX1]
def wsX5_dusk_r2 : List Cond := [Cond.code yX1_copy cX1_copy 2 none, Cond.fieldLink RX1 30 "GnatPortraits$Evening" "blowing" "I", Cond.fieldLink RX1 34 "GnatPortraits$Evening" "batted" "I", Cond.fieldLink RX1 37 "GnatPortraits$Evening" "eyes" "I", Cond.fieldLink RX1 40 "GnatPortraits$Evening" "raining" "Z", Cond.fieldLink RX1 44 "GnatPortraits$Evening" "smoking" "I", Cond.fieldLink RX1 47 "GnatPortraits$Evening" "dusks" "I", Cond.fieldLink RX1 50 "GnatPortraits$Evening" "albumSize" "I", Cond.fieldLink RX1 53 "GnatPortraits$Evening" "albumNext" "I", Cond.fieldLink RX1 9 "GnatPortraits$Evening" "lamps" "[I", Cond.methodLink RX1 61 arraycopyName, Cond.native arraycopyName, Cond.static arraycopyName, Cond.initialized "java/lang/System", Cond.fieldLink RX1 15 "GnatPortraits$Evening" "standing" "[I", Cond.fieldLink RX1 18 "GnatPortraits$Evening" "glasses" "[I", Cond.fieldLink RX1 21 "GnatPortraits$Evening" "albumWindows" "[I", Cond.fieldLink RX1 24 "GnatPortraits$Evening" "albumSitters" "[I", Cond.fieldLink RX1 27 "GnatPortraits$Evening" "albumDots" "[I", Cond.methodLink RX5 209 yX5_passDusk, Cond.instanceMethod yX5_passDusk, Cond.selects RX5 yX5_passDusk yX5_passDusk, Cond.code yX5_passDusk cX5_passDusk 3 none, Cond.methodLink RX5 165 yX5_drawnAt]
def wsX5_dusk_r3 : List Cond := [Cond.instanceMethod yX5_drawnAt, Cond.selects RX5 yX5_drawnAt yX5_drawnAt, Cond.code yX5_drawnAt cX5_drawnAt 3 (some .int), Cond.methodLink RX5 141 yX5_isSitter, Cond.instanceMethod yX5_isSitter, Cond.selects RX5 yX5_isSitter yX5_isSitter, Cond.code yX5_isSitter cX5_isSitter 2 (some .boolean), Cond.methodLink RX5 224 yX5_drawnBy, Cond.instanceMethod yX5_drawnBy, Cond.selects RX5 yX5_drawnBy yX5_drawnBy, Cond.code yX5_drawnBy cX5_drawnBy 5 (some .int), Cond.constant RX5 289 (17043521), Cond.methodLink RX5 227 yX5_shifted, Cond.static yX5_shifted, Cond.code yX5_shifted cX5_shifted 6 (some .int), Cond.methodLink RX5 290 yX5_lowestOf, Cond.static yX5_lowestOf, Cond.code yX5_lowestOf cX5_lowestOf 5 (some .int), Cond.instanceMethod yX1_keepInAlbum, Cond.selects RX1 yX1_keepInAlbum yX1_keepInAlbum, Cond.code yX1_keepInAlbum cX1_keepInAlbum 4 none, Cond.methodLink RX1 67 Lib.Math.min.name, Cond.instanceMethod yX1_endDusk, Cond.selects RX1 yX1_endDusk yX1_endDusk]
def wsX5_dusk_r4 : List Cond := [Cond.code yX1_endDusk cX1_endDusk 1 none]
def wsX5_dusk : List Cond := .code yX5_dusk cX5_dusk 4 (some .int) :: ((wsX5_dusk_r1 ++ (wsX5_dusk_r2 ++ (wsX5_dusk_r3 ++ wsX5_dusk_r4))) ++ wsX50 ++ wsX10 ++ wsX00 ++ wsX20)
def wsX5_nextDraw : List Cond := .code yX5_nextDraw cX5_nextDraw 2 (some .int) :: ([.fieldLink RX5 279 "GnatPortraits" "seedNow" "I", .constant RX5 309 (1103515245), .constant RX5 310 (2147483647), .constant RX5 311 (65536)] ++ wsX50)
def wsX5_standByDraw : List Cond := .code yX5_standByDraw cX5_standByDraw 3 none :: ([.fieldLink RX5 19 "GnatPortraits" "city" "LGnatPortraits$Capital;", .fieldLink RX5 26 "GnatPortraits" "now" "LGnatPortraits$Evening;", .methodLink RX5 303 yX5_nextDraw, .instanceMethod yX5_nextDraw, .selects RX5 yX5_nextDraw yX5_nextDraw, .initialized RX5, .code yX5_nextDraw cX5_nextDraw 2 (some .int), .fieldLink RX5 279 "GnatPortraits" "seedNow" "I", .constant RX5 309 (1103515245), .constant RX5 310 (2147483647), .constant RX5 311 (65536), .methodLink RX5 156 yX5_isWindow, .instanceMethod yX5_isWindow, .selects RX5 yX5_isWindow yX5_isWindow, .code yX5_isWindow cX5_isWindow 2 (some .boolean), .instanceMethod yX1_moveTo, .initialized RX1, .selects RX1 yX1_moveTo yX1_moveTo, .code yX1_moveTo cX1_moveTo 4 none, .fieldLink RX1 15 "GnatPortraits$Evening" "standing" "[I"] ++ wsX50 ++ wsX00 ++ wsX10)
def wsX5_happenByDraw : List Cond := .code yX5_happenByDraw cX5_happenByDraw 1 none :: ([.fieldLink RX5 26 "GnatPortraits" "now" "LGnatPortraits$Evening;", .methodLink RX5 303 yX5_nextDraw, .instanceMethod yX5_nextDraw, .selects RX5 yX5_nextDraw yX5_nextDraw, .initialized RX5, .code yX5_nextDraw cX5_nextDraw 2 (some .int), .fieldLink RX5 279 "GnatPortraits" "seedNow" "I", .constant RX5 309 (1103515245), .constant RX5 310 (2147483647), .constant RX5 311 (65536), .methodLink RX5 306 yX5_standByDraw, .instanceMethod yX5_standByDraw, .selects RX5 yX5_standByDraw yX5_standByDraw, .code yX5_standByDraw cX5_standByDraw 3 none, .fieldLink RX5 19 "GnatPortraits" "city" "LGnatPortraits$Capital;", .methodLink RX5 156 yX5_isWindow, .instanceMethod yX5_isWindow, .selects RX5 yX5_isWindow yX5_isWindow, .code yX5_isWindow cX5_isWindow 2 (some .boolean), .instanceMethod yX1_moveTo, .initialized RX1, .selects RX1 yX1_moveTo yX1_moveTo, .code yX1_moveTo cX1_moveTo 4 none, .fieldLink RX1 15 "GnatPortraits$Evening" "standing" "[I"] ++ wsX50 ++ wsX10 ++ wsX00)
def wsX5_drift_r1 : List Cond := [Cond.fieldLink RX5 33 "GnatPortraits" "past" "LGnatPortraits$Past;", Cond.fieldLink RX5 26 "GnatPortraits" "now" "LGnatPortraits$Evening;", Cond.methodLink RX5 206 yX5_refusalOfDusks, Cond.instanceMethod yX5_refusalOfDusks, Cond.selects RX5 yX5_refusalOfDusks yX5_refusalOfDusks, Cond.initialized RX5, Cond.code yX5_refusalOfDusks cX5_refusalOfDusks 2 (some .int), Cond.constant RX5 59 (-1000000002), Cond.fieldLink RX5 19 "GnatPortraits" "city" "LGnatPortraits$Capital;", Cond.constant RX5 191 (-1000000003), Cond.constant RX5 64 (-1000000004), Cond.instanceMethod yX2_remember, Cond.initialized RX2, Cond.selects RX2 yX2_remember yX2_remember, Cond.code yX2_remember cX2_remember 2 none, Cond.fieldLink RX2 22 "GnatPortraits$Past" "next" "I", Cond.fieldLink RX2 11 "GnatPortraits$Past" "evenings" "[LGnatPortraits$Evening;", Cond.fieldLink RX2 18 "GnatPortraits$Past" "size" "I", Cond.methodLink RX2 29 Lib.Math.min.name, Cond.static Lib.Math.min.name, Cond.initialized "java/lang/Math", Cond.code Lib.Math.min.name Lib.Math.min.code 2 (some .int), Cond.static yX1_copy, Cond.initialized RX1]
def wsX5_drift_r2 : List Cond := [Cond.code yX1_copy cX1_copy 2 none, Cond.fieldLink RX1 30 "GnatPortraits$Evening" "blowing" "I", Cond.fieldLink RX1 34 "GnatPortraits$Evening" "batted" "I", Cond.fieldLink RX1 37 "GnatPortraits$Evening" "eyes" "I", Cond.fieldLink RX1 40 "GnatPortraits$Evening" "raining" "Z", Cond.fieldLink RX1 44 "GnatPortraits$Evening" "smoking" "I", Cond.fieldLink RX1 47 "GnatPortraits$Evening" "dusks" "I", Cond.fieldLink RX1 50 "GnatPortraits$Evening" "albumSize" "I", Cond.fieldLink RX1 53 "GnatPortraits$Evening" "albumNext" "I", Cond.fieldLink RX1 9 "GnatPortraits$Evening" "lamps" "[I", Cond.methodLink RX1 61 arraycopyName, Cond.native arraycopyName, Cond.static arraycopyName, Cond.initialized "java/lang/System", Cond.fieldLink RX1 15 "GnatPortraits$Evening" "standing" "[I", Cond.fieldLink RX1 18 "GnatPortraits$Evening" "glasses" "[I", Cond.fieldLink RX1 21 "GnatPortraits$Evening" "albumWindows" "[I", Cond.fieldLink RX1 24 "GnatPortraits$Evening" "albumSitters" "[I", Cond.fieldLink RX1 27 "GnatPortraits$Evening" "albumDots" "[I", Cond.methodLink RX5 212 yX5_happenByDraw, Cond.instanceMethod yX5_happenByDraw, Cond.selects RX5 yX5_happenByDraw yX5_happenByDraw, Cond.code yX5_happenByDraw cX5_happenByDraw 1 none, Cond.methodLink RX5 303 yX5_nextDraw]
def wsX5_drift_r3 : List Cond := [Cond.instanceMethod yX5_nextDraw, Cond.selects RX5 yX5_nextDraw yX5_nextDraw, Cond.code yX5_nextDraw cX5_nextDraw 2 (some .int), Cond.fieldLink RX5 279 "GnatPortraits" "seedNow" "I", Cond.constant RX5 309 (1103515245), Cond.constant RX5 310 (2147483647), Cond.constant RX5 311 (65536), Cond.methodLink RX5 306 yX5_standByDraw, Cond.instanceMethod yX5_standByDraw, Cond.selects RX5 yX5_standByDraw yX5_standByDraw, Cond.code yX5_standByDraw cX5_standByDraw 3 none, Cond.methodLink RX5 156 yX5_isWindow, Cond.instanceMethod yX5_isWindow, Cond.selects RX5 yX5_isWindow yX5_isWindow, Cond.code yX5_isWindow cX5_isWindow 2 (some .boolean), Cond.instanceMethod yX1_moveTo, Cond.selects RX1 yX1_moveTo yX1_moveTo, Cond.code yX1_moveTo cX1_moveTo 4 none, Cond.methodLink RX5 209 yX5_passDusk, Cond.instanceMethod yX5_passDusk, Cond.selects RX5 yX5_passDusk yX5_passDusk, Cond.code yX5_passDusk cX5_passDusk 3 none, Cond.methodLink RX5 165 yX5_drawnAt, Cond.instanceMethod yX5_drawnAt]
def wsX5_drift_r4 : List Cond := [Cond.selects RX5 yX5_drawnAt yX5_drawnAt, Cond.code yX5_drawnAt cX5_drawnAt 3 (some .int), Cond.methodLink RX5 141 yX5_isSitter, Cond.instanceMethod yX5_isSitter, Cond.selects RX5 yX5_isSitter yX5_isSitter, Cond.code yX5_isSitter cX5_isSitter 2 (some .boolean), Cond.methodLink RX5 224 yX5_drawnBy, Cond.instanceMethod yX5_drawnBy, Cond.selects RX5 yX5_drawnBy yX5_drawnBy, Cond.code yX5_drawnBy cX5_drawnBy 5 (some .int), Cond.constant RX5 289 (17043521), Cond.methodLink RX5 227 yX5_shifted, Cond.static yX5_shifted, Cond.code yX5_shifted cX5_shifted 6 (some .int), Cond.methodLink RX5 290 yX5_lowestOf, Cond.static yX5_lowestOf, Cond.code yX5_lowestOf cX5_lowestOf 5 (some .int), Cond.instanceMethod yX1_keepInAlbum, Cond.selects RX1 yX1_keepInAlbum yX1_keepInAlbum, Cond.code yX1_keepInAlbum cX1_keepInAlbum 4 none, Cond.methodLink RX1 67 Lib.Math.min.name, Cond.instanceMethod yX1_endDusk, Cond.selects RX1 yX1_endDusk yX1_endDusk, Cond.code yX1_endDusk cX1_endDusk 1 none]
def wsX5_drift : List Cond := .code yX5_drift cX5_drift 4 (some .int) :: ((wsX5_drift_r1 ++ (wsX5_drift_r2 ++ (wsX5_drift_r3 ++ wsX5_drift_r4))) ++ wsX50 ++ wsX10 ++ wsX00 ++ wsX20)
def wsX5_undo_r1 : List Cond := [Cond.fieldLink RX5 33 "GnatPortraits" "past" "LGnatPortraits$Past;", Cond.constant RX5 191 (-1000000003), Cond.fieldLink RX5 26 "GnatPortraits" "now" "LGnatPortraits$Evening;", Cond.instanceMethod yX2_recall, Cond.initialized RX2, Cond.selects RX2 yX2_recall yX2_recall, Cond.code yX2_recall cX2_recall 2 none, Cond.fieldLink RX2 22 "GnatPortraits$Past" "next" "I", Cond.fieldLink RX2 18 "GnatPortraits$Past" "size" "I", Cond.methodLink RX2 38 Lib.Math.max.name, Cond.static Lib.Math.max.name, Cond.initialized "java/lang/Math", Cond.code Lib.Math.max.name Lib.Math.max.code 2 (some .int), Cond.fieldLink RX2 11 "GnatPortraits$Past" "evenings" "[LGnatPortraits$Evening;", Cond.methodLink RX2 35 yJ9_floorMod_7cf53, Cond.static yJ9_floorMod_7cf53, Cond.initialized RJ9, Cond.code yJ9_floorMod_7cf53 cJ9_floorMod_7cf53 3 (some .int), Cond.static yX1_copy, Cond.initialized RX1, Cond.code yX1_copy cX1_copy 2 none, Cond.fieldLink RX1 30 "GnatPortraits$Evening" "blowing" "I", Cond.fieldLink RX1 34 "GnatPortraits$Evening" "batted" "I", Cond.fieldLink RX1 37 "GnatPortraits$Evening" "eyes" "I"]
def wsX5_undo_r2 : List Cond := [Cond.fieldLink RX1 40 "GnatPortraits$Evening" "raining" "Z", Cond.fieldLink RX1 44 "GnatPortraits$Evening" "smoking" "I", Cond.fieldLink RX1 47 "GnatPortraits$Evening" "dusks" "I", Cond.fieldLink RX1 50 "GnatPortraits$Evening" "albumSize" "I", Cond.fieldLink RX1 53 "GnatPortraits$Evening" "albumNext" "I", Cond.fieldLink RX1 9 "GnatPortraits$Evening" "lamps" "[I", Cond.methodLink RX1 61 arraycopyName, Cond.native arraycopyName, Cond.static arraycopyName, Cond.initialized "java/lang/System", Cond.fieldLink RX1 15 "GnatPortraits$Evening" "standing" "[I", Cond.fieldLink RX1 18 "GnatPortraits$Evening" "glasses" "[I", Cond.fieldLink RX1 21 "GnatPortraits$Evening" "albumWindows" "[I", Cond.fieldLink RX1 24 "GnatPortraits$Evening" "albumSitters" "[I", Cond.fieldLink RX1 27 "GnatPortraits$Evening" "albumDots" "[I"]
def wsX5_undo : List Cond := .code yX5_undo cX5_undo 1 (some .int) :: ((wsX5_undo_r1 ++ wsX5_undo_r2) ++ wsX50 ++ wsX20 ++ wsX10)
def wsX5_isSetOfDots : List Cond := .code yX5_isSetOfDots cX5_isSetOfDots 1 (some .boolean) :: ([.constant RX5 168 (1073741823)])
def wsX5_likeness : List Cond := .code yX5_likeness cX5_likeness 2 (some .int) :: ([.methodLink RX5 244 yJ6_bitCount_0f7a4, .static yJ6_bitCount_0f7a4, .initialized RJ6, .code yJ6_bitCount_0f7a4 cJ6_bitCount_0f7a4 1 (some .int), .constant RJ6 265 (1431655765), .constant RJ6 266 (858993459), .constant RJ6 267 (252645135)])
def wsX5_like : List Cond := .code yX5_like cX5_like 3 (some .int) :: ([.constant RX5 145 (-1000000001), .constant RX5 59 (-1000000002), .fieldLink RX5 19 "GnatPortraits" "city" "LGnatPortraits$Capital;", .methodLink RX5 141 yX5_isSitter, .instanceMethod yX5_isSitter, .selects RX5 yX5_isSitter yX5_isSitter, .initialized RX5, .code yX5_isSitter cX5_isSitter 2 (some .boolean), .methodLink RX5 218 yX5_isSetOfDots, .static yX5_isSetOfDots, .code yX5_isSetOfDots cX5_isSetOfDots 1 (some .boolean), .constant RX5 168 (1073741823), .methodLink RX5 221 yX5_likeness, .static yX5_likeness, .code yX5_likeness cX5_likeness 2 (some .int), .methodLink RX5 244 yJ6_bitCount_0f7a4, .static yJ6_bitCount_0f7a4, .initialized RJ6, .code yJ6_bitCount_0f7a4 cJ6_bitCount_0f7a4 1 (some .int), .constant RJ6 265 (1431655765), .constant RJ6 266 (858993459), .constant RJ6 267 (252645135)] ++ wsX50 ++ wsX00)
def wsX5_seenAs : List Cond := .code yX5_seenAs cX5_seenAs 2 (some .int) :: ([.constant RX5 168 (1073741823), .constant RX5 59 (-1000000002), .methodLink RX5 218 yX5_isSetOfDots, .static yX5_isSetOfDots, .initialized RX5, .code yX5_isSetOfDots cX5_isSetOfDots 1 (some .boolean), .methodLink RX5 169 yX5_mostLike, .instanceMethod yX5_mostLike, .selects RX5 yX5_mostLike yX5_mostLike, .code yX5_mostLike cX5_mostLike 7 (some .int), .fieldLink RX5 19 "GnatPortraits" "city" "LGnatPortraits$Capital;", .methodLink RX5 244 yJ6_bitCount_0f7a4, .static yJ6_bitCount_0f7a4, .initialized RJ6, .code yJ6_bitCount_0f7a4 cJ6_bitCount_0f7a4 1 (some .int), .constant RJ6 265 (1431655765), .constant RJ6 266 (858993459), .constant RJ6 267 (252645135)] ++ wsX50 ++ wsX00)
def wsX5_bestLamp_r1 : List Cond := [Cond.constant RX5 145 (-1000000001), Cond.constant RX5 59 (-1000000002), Cond.fieldLink RX5 19 "GnatPortraits" "city" "LGnatPortraits$Capital;", Cond.methodLink RX5 156 yX5_isWindow, Cond.instanceMethod yX5_isWindow, Cond.selects RX5 yX5_isWindow yX5_isWindow, Cond.initialized RX5, Cond.code yX5_isWindow cX5_isWindow 2 (some .boolean), Cond.methodLink RX5 141 yX5_isSitter, Cond.instanceMethod yX5_isSitter, Cond.selects RX5 yX5_isSitter yX5_isSitter, Cond.code yX5_isSitter cX5_isSitter 2 (some .boolean), Cond.methodLink RX5 224 yX5_drawnBy, Cond.instanceMethod yX5_drawnBy, Cond.selects RX5 yX5_drawnBy yX5_drawnBy, Cond.code yX5_drawnBy cX5_drawnBy 5 (some .int), Cond.fieldLink RX5 26 "GnatPortraits" "now" "LGnatPortraits$Evening;", Cond.constant RX5 289 (17043521), Cond.methodLink RX5 227 yX5_shifted, Cond.static yX5_shifted, Cond.code yX5_shifted cX5_shifted 6 (some .int), Cond.methodLink RX5 290 yX5_lowestOf, Cond.static yX5_lowestOf, Cond.code yX5_lowestOf cX5_lowestOf 5 (some .int)]
def wsX5_bestLamp_r2 : List Cond := [Cond.methodLink RX5 221 yX5_likeness, Cond.static yX5_likeness, Cond.code yX5_likeness cX5_likeness 2 (some .int), Cond.methodLink RX5 244 yJ6_bitCount_0f7a4, Cond.static yJ6_bitCount_0f7a4, Cond.initialized RJ6, Cond.code yJ6_bitCount_0f7a4 cJ6_bitCount_0f7a4 1 (some .int), Cond.constant RJ6 265 (1431655765), Cond.constant RJ6 266 (858993459), Cond.constant RJ6 267 (252645135)]
def wsX5_bestLamp : List Cond := .code yX5_bestLamp cX5_bestLamp 8 (some .int) :: ((wsX5_bestLamp_r1 ++ wsX5_bestLamp_r2) ++ wsX50 ++ wsX00 ++ wsX10)
def wsX5_who : List Cond := .code yX5_who cX5_who 8 (some .int) :: ([.constant RX5 59 (-1000000002), .fieldLink RX5 19 "GnatPortraits" "city" "LGnatPortraits$Capital;", .methodLink RX5 218 yX5_isSetOfDots, .static yX5_isSetOfDots, .initialized RX5, .code yX5_isSetOfDots cX5_isSetOfDots 1 (some .boolean), .constant RX5 168 (1073741823), .methodLink RX5 227 yX5_shifted, .static yX5_shifted, .code yX5_shifted cX5_shifted 6 (some .int)] ++ wsX50 ++ wsX00)
def wsX5_parted : List Cond := .code yX5_parted cX5_parted 10 (some .int) :: ([.constant RX5 59 (-1000000002), .fieldLink RX5 19 "GnatPortraits" "city" "LGnatPortraits$Capital;", .methodLink RX5 218 yX5_isSetOfDots, .static yX5_isSetOfDots, .initialized RX5, .code yX5_isSetOfDots cX5_isSetOfDots 1 (some .boolean), .constant RX5 168 (1073741823), .methodLink RX5 227 yX5_shifted, .static yX5_shifted, .code yX5_shifted cX5_shifted 6 (some .int)] ++ wsX50 ++ wsX00)
def wsX5_placeFrom : List Cond := .code yX5_placeFrom cX5_placeFrom 7 none :: ([.instanceMethod yX3_takeChosen, .initialized RX3, .selects RX3 yX3_takeChosen yX3_takeChosen, .code yX3_takeChosen cX3_takeChosen 3 none, .fieldLink RX3 32 "GnatPortraits$Placing" "most" "I", .fieldLink RX3 31 "GnatPortraits$Placing" "windows" "I", .fieldLink RX3 18 "GnatPortraits$Placing" "best" "[I", .fieldLink RX3 15 "GnatPortraits$Placing" "chosen" "[I", .methodLink RX5 234 yX5_placeFrom, .static yX5_placeFrom, .initialized RX5] ++ wsX30)
def wsX5_places_r1 : List Cond := [Cond.constant RX5 145 (-1000000001), Cond.fieldLink RX5 52 "GnatPortraits" "placing" "LGnatPortraits$Placing;", Cond.fieldLink RX5 19 "GnatPortraits" "city" "LGnatPortraits$Capital;", Cond.fieldLink RX5 26 "GnatPortraits" "now" "LGnatPortraits$Evening;", Cond.methodLink RX5 156 yX5_isWindow, Cond.instanceMethod yX5_isWindow, Cond.selects RX5 yX5_isWindow yX5_isWindow, Cond.initialized RX5, Cond.code yX5_isWindow cX5_isWindow 2 (some .boolean), Cond.instanceMethod yX3_begin, Cond.initialized RX3, Cond.selects RX3 yX3_begin yX3_begin, Cond.code yX3_begin cX3_begin 3 none, Cond.fieldLink RX3 27 "GnatPortraits$Placing" "sitters" "I", Cond.fieldLink RX3 31 "GnatPortraits$Placing" "windows" "I", Cond.fieldLink RX3 32 "GnatPortraits$Placing" "most" "I", Cond.fieldLink RX3 15 "GnatPortraits$Placing" "chosen" "[I", Cond.fieldLink RX3 18 "GnatPortraits$Placing" "best" "[I", Cond.methodLink RX5 224 yX5_drawnBy, Cond.instanceMethod yX5_drawnBy, Cond.selects RX5 yX5_drawnBy yX5_drawnBy, Cond.code yX5_drawnBy cX5_drawnBy 5 (some .int), Cond.constant RX5 289 (17043521), Cond.methodLink RX5 227 yX5_shifted]
def wsX5_places_r2 : List Cond := [Cond.static yX5_shifted, Cond.code yX5_shifted cX5_shifted 6 (some .int), Cond.methodLink RX5 290 yX5_lowestOf, Cond.static yX5_lowestOf, Cond.code yX5_lowestOf cX5_lowestOf 5 (some .int), Cond.methodLink RX5 234 yX5_placeFrom, Cond.static yX5_placeFrom, Cond.code yX5_placeFrom cX5_placeFrom 7 none, Cond.instanceMethod yX3_takeChosen, Cond.selects RX3 yX3_takeChosen yX3_takeChosen, Cond.code yX3_takeChosen cX3_takeChosen 3 none]
def wsX5_places : List Cond := .code yX5_places cX5_places 4 (some .int) :: ((wsX5_places_r1 ++ wsX5_places_r2) ++ wsX50 ++ wsX00 ++ wsX30 ++ wsX10)
def wsX5_apart : List Cond := .code yX5_apart cX5_apart 5 (some .int) :: ([.constant RX5 145 (-1000000001), .fieldLink RX5 19 "GnatPortraits" "city" "LGnatPortraits$Capital;", .constant RX5 59 (-1000000002), .methodLink RX5 141 yX5_isSitter, .instanceMethod yX5_isSitter, .selects RX5 yX5_isSitter yX5_isSitter, .initialized RX5, .code yX5_isSitter cX5_isSitter 2 (some .boolean), .methodLink RX5 244 yJ6_bitCount_0f7a4, .static yJ6_bitCount_0f7a4, .initialized RJ6, .code yJ6_bitCount_0f7a4 cJ6_bitCount_0f7a4 1 (some .int), .constant RJ6 265 (1431655765), .constant RJ6 266 (858993459), .constant RJ6 267 (252645135)] ++ wsX50 ++ wsX00)
def wsX5_neighboursOf : List Cond := .code yX5_neighboursOf cX5_neighboursOf 3 (some .int) :: ([])
def wsX5_holesOf : List Cond := .code yX5_holesOf cX5_holesOf 4 (some .int) :: ([.methodLink RX5 293 yX5_neighboursOf, .static yX5_neighboursOf, .initialized RX5, .code yX5_neighboursOf cX5_neighboursOf 3 (some .int)])
def wsX5_mirrorOf : List Cond := .code yX5_mirrorOf cX5_mirrorOf 4 (some .int) :: ([])
def wsX5_turned : List Cond := .code yX5_turned cX5_turned 3 (some .int) :: ([.constant RX5 59 (-1000000002), .methodLink RX5 218 yX5_isSetOfDots, .static yX5_isSetOfDots, .initialized RX5, .code yX5_isSetOfDots cX5_isSetOfDots 1 (some .boolean), .constant RX5 168 (1073741823), .methodLink RX5 249 yX5_holesOf, .static yX5_holesOf, .code yX5_holesOf cX5_holesOf 4 (some .int), .methodLink RX5 293 yX5_neighboursOf, .static yX5_neighboursOf, .code yX5_neighboursOf cX5_neighboursOf 3 (some .int), .methodLink RX5 252 yX5_mirrorOf, .static yX5_mirrorOf, .code yX5_mirrorOf cX5_mirrorOf 4 (some .int)])
def wsX5_countVotes : List Cond := .code yX5_countVotes cX5_countVotes 4 none :: ([.fieldLink RX5 56 "GnatPortraits" "tally" "[I", .fieldLink RX5 19 "GnatPortraits" "city" "LGnatPortraits$Capital;", .constant RX5 289 (17043521), .methodLink RX5 169 yX5_mostLike, .instanceMethod yX5_mostLike, .selects RX5 yX5_mostLike yX5_mostLike, .initialized RX5, .code yX5_mostLike cX5_mostLike 7 (some .int), .methodLink RX5 244 yJ6_bitCount_0f7a4, .static yJ6_bitCount_0f7a4, .initialized RJ6, .code yJ6_bitCount_0f7a4 cJ6_bitCount_0f7a4 1 (some .int), .constant RJ6 265 (1431655765), .constant RJ6 266 (858993459), .constant RJ6 267 (252645135), .methodLink RX5 141 yX5_isSitter, .instanceMethod yX5_isSitter, .selects RX5 yX5_isSitter yX5_isSitter, .code yX5_isSitter cX5_isSitter 2 (some .boolean)] ++ wsX50 ++ wsX00)
def wsX5_elected : List Cond := .code yX5_elected cX5_elected 4 (some .int) :: ([.fieldLink RX5 19 "GnatPortraits" "city" "LGnatPortraits$Capital;", .fieldLink RX5 56 "GnatPortraits" "tally" "[I"] ++ wsX50 ++ wsX00)
def wsX5_votes_r1 : List Cond := [Cond.constant RX5 145 (-1000000001), Cond.constant RX5 59 (-1000000002), Cond.fieldLink RX5 56 "GnatPortraits" "tally" "[I", Cond.methodLink RX5 141 yX5_isSitter, Cond.instanceMethod yX5_isSitter, Cond.selects RX5 yX5_isSitter yX5_isSitter, Cond.initialized RX5, Cond.code yX5_isSitter cX5_isSitter 2 (some .boolean), Cond.fieldLink RX5 19 "GnatPortraits" "city" "LGnatPortraits$Capital;", Cond.methodLink RX5 218 yX5_isSetOfDots, Cond.static yX5_isSetOfDots, Cond.code yX5_isSetOfDots cX5_isSetOfDots 1 (some .boolean), Cond.constant RX5 168 (1073741823), Cond.methodLink RX5 255 yX5_countVotes, Cond.instanceMethod yX5_countVotes, Cond.selects RX5 yX5_countVotes yX5_countVotes, Cond.code yX5_countVotes cX5_countVotes 4 none, Cond.constant RX5 289 (17043521), Cond.methodLink RX5 169 yX5_mostLike, Cond.instanceMethod yX5_mostLike, Cond.selects RX5 yX5_mostLike yX5_mostLike, Cond.code yX5_mostLike cX5_mostLike 7 (some .int), Cond.methodLink RX5 244 yJ6_bitCount_0f7a4, Cond.static yJ6_bitCount_0f7a4]
def wsX5_votes_r2 : List Cond := [Cond.initialized RJ6, Cond.code yJ6_bitCount_0f7a4 cJ6_bitCount_0f7a4 1 (some .int), Cond.constant RJ6 265 (1431655765), Cond.constant RJ6 266 (858993459), Cond.constant RJ6 267 (252645135), Cond.methodLink RX5 258 yX5_elected, Cond.instanceMethod yX5_elected, Cond.selects RX5 yX5_elected yX5_elected, Cond.code yX5_elected cX5_elected 4 (some .int)]
def wsX5_votes : List Cond := .code yX5_votes cX5_votes 3 (some .int) :: ((wsX5_votes_r1 ++ wsX5_votes_r2) ++ wsX50 ++ wsX00)
def wsX5_clear : List Cond := .code yX5_clear cX5_clear 6 (some .int) :: ([.constant RX5 59 (-1000000002), .constantLong RX5 261 (1000000000), .constantLong RX5 263 (100)])
def wsX5_tellOf : List Cond := .code yX5_tellOf cX5_tellOf 3 (some .int) :: ([.constant RX5 59 (-1000000002), .fieldLink RX5 132 "GnatPortraits" "toldOf" "I", .constant RX5 64 (-1000000004), .fieldLink RX5 265 "GnatPortraits" "toldDrawn" "I", .fieldLink RX5 268 "GnatPortraits" "toldMissing" "I", .methodLink RX5 203 yX5_isDot, .static yX5_isDot, .initialized RX5, .code yX5_isDot cX5_isDot 1 (some .boolean)] ++ wsX50)
def wsX5_pairsThatFit : List Cond := .code yX5_pairsThatFit cX5_pairsThatFit 5 (some .int) :: ([.fieldLink RX5 19 "GnatPortraits" "city" "LGnatPortraits$Capital;", .methodLink RX5 323 yX5_fits, .instanceMethod yX5_fits, .selects RX5 yX5_fits yX5_fits, .initialized RX5, .code yX5_fits cX5_fits 6 (some .boolean), .fieldLink RX5 265 "GnatPortraits" "toldDrawn" "I", .fieldLink RX5 268 "GnatPortraits" "toldMissing" "I", .methodLink RX5 227 yX5_shifted, .static yX5_shifted, .code yX5_shifted cX5_shifted 6 (some .int)] ++ wsX50 ++ wsX00)
def wsX5_ask : List Cond := .code yX5_ask cX5_ask 7 (some .int) :: ([.methodLink RX5 274 Lib.Math.max.name, .static Lib.Math.max.name, .initialized "java/lang/Math", .code Lib.Math.max.name Lib.Math.max.code 2 (some .int), .methodLink RX5 271 yX5_pairsThatFit, .instanceMethod yX5_pairsThatFit, .selects RX5 yX5_pairsThatFit yX5_pairsThatFit, .initialized RX5, .code yX5_pairsThatFit cX5_pairsThatFit 5 (some .int), .fieldLink RX5 19 "GnatPortraits" "city" "LGnatPortraits$Capital;", .methodLink RX5 323 yX5_fits, .instanceMethod yX5_fits, .selects RX5 yX5_fits yX5_fits, .code yX5_fits cX5_fits 6 (some .boolean), .fieldLink RX5 265 "GnatPortraits" "toldDrawn" "I", .fieldLink RX5 268 "GnatPortraits" "toldMissing" "I", .methodLink RX5 227 yX5_shifted, .static yX5_shifted, .code yX5_shifted cX5_shifted 6 (some .int)] ++ wsX50 ++ wsX00)
def wsX5_tear : List Cond := .code yX5_tear cX5_tear 2 (some .int) :: ([.fieldLink RX5 132 "GnatPortraits" "toldOf" "I", .methodLink RX5 88 yX5_forgetToldOf, .instanceMethod yX5_forgetToldOf, .selects RX5 yX5_forgetToldOf yX5_forgetToldOf, .initialized RX5, .code yX5_forgetToldOf cX5_forgetToldOf 1 none, .fieldLink RX5 265 "GnatPortraits" "toldDrawn" "I", .fieldLink RX5 268 "GnatPortraits" "toldMissing" "I"] ++ wsX50)
def wsX5_seed : List Cond := .code yX5_seed cX5_seed 3 (some .int) :: ([.constant RX5 59 (-1000000002), .fieldLink RX5 279 "GnatPortraits" "seedNow" "I"] ++ wsX50)
def wsX5_isImage : List Cond := .code yX5_isImage cX5_isImage 1 (some .boolean) :: ([])
def wsX5_keep_r1 : List Cond := [Cond.constant RX5 145 (-1000000001), Cond.fieldLink RX5 26 "GnatPortraits" "now" "LGnatPortraits$Evening;", Cond.fieldLink RX5 37 "GnatPortraits" "images" "[LGnatPortraits$Evening;", Cond.fieldLink RX5 45 "GnatPortraits" "imageSeeds" "[I", Cond.fieldLink RX5 279 "GnatPortraits" "seedNow" "I", Cond.fieldLink RX5 41 "GnatPortraits" "imageKept" "[Z", Cond.fieldLink RX5 33 "GnatPortraits" "past" "LGnatPortraits$Past;", Cond.methodLink RX5 282 yX5_isImage, Cond.static yX5_isImage, Cond.initialized RX5, Cond.code yX5_isImage cX5_isImage 1 (some .boolean), Cond.static yX1_copy, Cond.initialized RX1, Cond.code yX1_copy cX1_copy 2 none, Cond.fieldLink RX1 30 "GnatPortraits$Evening" "blowing" "I", Cond.fieldLink RX1 34 "GnatPortraits$Evening" "batted" "I", Cond.fieldLink RX1 37 "GnatPortraits$Evening" "eyes" "I", Cond.fieldLink RX1 40 "GnatPortraits$Evening" "raining" "Z", Cond.fieldLink RX1 44 "GnatPortraits$Evening" "smoking" "I", Cond.fieldLink RX1 47 "GnatPortraits$Evening" "dusks" "I", Cond.fieldLink RX1 50 "GnatPortraits$Evening" "albumSize" "I", Cond.fieldLink RX1 53 "GnatPortraits$Evening" "albumNext" "I", Cond.fieldLink RX1 9 "GnatPortraits$Evening" "lamps" "[I", Cond.methodLink RX1 61 arraycopyName]
def wsX5_keep_r2 : List Cond := [Cond.native arraycopyName, Cond.static arraycopyName, Cond.initialized "java/lang/System", Cond.fieldLink RX1 15 "GnatPortraits$Evening" "standing" "[I", Cond.fieldLink RX1 18 "GnatPortraits$Evening" "glasses" "[I", Cond.fieldLink RX1 21 "GnatPortraits$Evening" "albumWindows" "[I", Cond.fieldLink RX1 24 "GnatPortraits$Evening" "albumSitters" "[I", Cond.fieldLink RX1 27 "GnatPortraits$Evening" "albumDots" "[I", Cond.instanceMethod yX2_forget, Cond.initialized RX2, Cond.selects RX2 yX2_forget yX2_forget, Cond.code yX2_forget cX2_forget 1 none, Cond.fieldLink RX2 18 "GnatPortraits$Past" "size" "I", Cond.fieldLink RX2 22 "GnatPortraits$Past" "next" "I"]
def wsX5_keep : List Cond := .code yX5_keep cX5_keep 2 (some .int) :: ((wsX5_keep_r1 ++ wsX5_keep_r2) ++ wsX50 ++ wsX10 ++ wsX20)
def wsX5_goBack_r1 : List Cond := [Cond.constant RX5 145 (-1000000001), Cond.fieldLink RX5 41 "GnatPortraits" "imageKept" "[Z", Cond.constant RX5 191 (-1000000003), Cond.fieldLink RX5 37 "GnatPortraits" "images" "[LGnatPortraits$Evening;", Cond.fieldLink RX5 26 "GnatPortraits" "now" "LGnatPortraits$Evening;", Cond.fieldLink RX5 45 "GnatPortraits" "imageSeeds" "[I", Cond.fieldLink RX5 279 "GnatPortraits" "seedNow" "I", Cond.fieldLink RX5 33 "GnatPortraits" "past" "LGnatPortraits$Past;", Cond.methodLink RX5 282 yX5_isImage, Cond.static yX5_isImage, Cond.initialized RX5, Cond.code yX5_isImage cX5_isImage 1 (some .boolean), Cond.static yX1_copy, Cond.initialized RX1, Cond.code yX1_copy cX1_copy 2 none, Cond.fieldLink RX1 30 "GnatPortraits$Evening" "blowing" "I", Cond.fieldLink RX1 34 "GnatPortraits$Evening" "batted" "I", Cond.fieldLink RX1 37 "GnatPortraits$Evening" "eyes" "I", Cond.fieldLink RX1 40 "GnatPortraits$Evening" "raining" "Z", Cond.fieldLink RX1 44 "GnatPortraits$Evening" "smoking" "I", Cond.fieldLink RX1 47 "GnatPortraits$Evening" "dusks" "I", Cond.fieldLink RX1 50 "GnatPortraits$Evening" "albumSize" "I", Cond.fieldLink RX1 53 "GnatPortraits$Evening" "albumNext" "I", Cond.fieldLink RX1 9 "GnatPortraits$Evening" "lamps" "[I"]
def wsX5_goBack_r2 : List Cond := [Cond.methodLink RX1 61 arraycopyName, Cond.native arraycopyName, Cond.static arraycopyName, Cond.initialized "java/lang/System", Cond.fieldLink RX1 15 "GnatPortraits$Evening" "standing" "[I", Cond.fieldLink RX1 18 "GnatPortraits$Evening" "glasses" "[I", Cond.fieldLink RX1 21 "GnatPortraits$Evening" "albumWindows" "[I", Cond.fieldLink RX1 24 "GnatPortraits$Evening" "albumSitters" "[I", Cond.fieldLink RX1 27 "GnatPortraits$Evening" "albumDots" "[I", Cond.instanceMethod yX2_forget, Cond.initialized RX2, Cond.selects RX2 yX2_forget yX2_forget, Cond.code yX2_forget cX2_forget 1 none, Cond.fieldLink RX2 18 "GnatPortraits$Past" "size" "I", Cond.fieldLink RX2 22 "GnatPortraits$Past" "next" "I"]
def wsX5_goBack : List Cond := .code yX5_goBack cX5_goBack 2 (some .int) :: ((wsX5_goBack_r1 ++ wsX5_goBack_r2) ++ wsX50 ++ wsX10 ++ wsX20)
def wsX6_empties : List Cond := .code yX6_empties cX6_empties 2 none :: ([.fieldLink RX6 19 "GnatPortraitsModel" "now" "[I"] ++ wsX60)
def wsX6_init_r1 : List Cond := [Cond.methodLink RX6 1 objectInit, Cond.instanceMethod objectInit, Cond.code objectInit ⟨#[0xb1]⟩ 1 none, Cond.arrayClass .int, Cond.fieldLink RX6 7 "GnatPortraitsModel" "outline" "[I", Cond.fieldLink RX6 13 "GnatPortraitsModel" "lampTold" "[I", Cond.fieldLink RX6 16 "GnatPortraitsModel" "looks" "[I", Cond.fieldLink RX6 19 "GnatPortraitsModel" "now" "[I", Cond.fieldLink RX6 22 "GnatPortraitsModel" "text" "[I", Cond.fieldLink RX6 25 "GnatPortraitsModel" "faultPlace" "I", Cond.fieldLink RX6 29 "GnatPortraitsModel" "readOutline" "[I", Cond.fieldLink RX6 32 "GnatPortraitsModel" "readLamp" "[I", Cond.fieldLink RX6 35 "GnatPortraitsModel" "readLooks" "[I", Cond.fieldLink RX6 38 "GnatPortraitsModel" "past" "[I", Cond.fieldLink RX6 41 "GnatPortraitsModel" "tried" "[I", Cond.fieldLink RX6 44 "GnatPortraitsModel" "best" "[I", Cond.fieldLink RX6 47 "GnatPortraitsModel" "dotsBy" "[I", Cond.fieldLink RX6 50 "GnatPortraitsModel" "dotTold" "[I", Cond.fieldLink RX6 53 "GnatPortraitsModel" "isTold" "[I", Cond.fieldLink RX6 56 "GnatPortraitsModel" "having" "[I", Cond.fieldLink RX6 59 "GnatPortraitsModel" "images" "[I", Cond.arrayClass .boolean, Cond.fieldLink RX6 62 "GnatPortraitsModel" "isKept" "[Z", Cond.fieldLink RX6 66 "GnatPortraitsModel" "gnats" "I"]
def wsX6_init_r2 : List Cond := [Cond.methodLink RX6 69 yX6_empties, Cond.instanceMethod yX6_empties, Cond.selects RX6 yX6_empties yX6_empties, Cond.initialized RX6, Cond.code yX6_empties cX6_empties 2 none]
def wsX6_init : List Cond := .code yX6_init cX6_init 1 none :: ((wsX6_init_r1 ++ wsX6_init_r2) ++ wsX60)
def wsX6_in : List Cond := .code yX6_in cX6_in 6 (some .boolean) :: ([])
def wsX6_has : List Cond := .code yX6_has cX6_has 2 (some .boolean) :: ([])
def wsX6_ones : List Cond := .code yX6_ones cX6_ones 3 (some .int) :: ([])
def wsX6_isCapital : List Cond := .code yX6_isCapital cX6_isCapital 1 (some .boolean) :: ([.fieldLink RX6 66 "GnatPortraitsModel" "gnats" "I"] ++ wsX60)
def wsX6_isSitter : List Cond := .code yX6_isSitter cX6_isSitter 2 (some .boolean) :: ([.fieldLink RX6 72 "GnatPortraitsModel" "sitters" "I", .methodLink RX6 75 yX6_in, .static yX6_in, .initialized RX6, .code yX6_in cX6_in 6 (some .boolean)] ++ wsX60)
def wsX6_isWindow : List Cond := .code yX6_isWindow cX6_isWindow 2 (some .boolean) :: ([.fieldLink RX6 79 "GnatPortraitsModel" "windows" "I", .methodLink RX6 75 yX6_in, .static yX6_in, .initialized RX6, .code yX6_in cX6_in 6 (some .boolean)] ++ wsX60)
def wsX6_feed : List Cond := .code yX6_feed cX6_feed 2 (some .int) :: ([.constantLong RX6 82 (255), .constant RX6 84 (-1000000002), .fieldLink RX6 85 "GnatPortraitsModel" "texted" "I", .constant RX6 88 (-1000000004), .fieldLink RX6 22 "GnatPortraitsModel" "text" "[I", .methodLink RX6 75 yX6_in, .static yX6_in, .initialized RX6, .code yX6_in cX6_in 6 (some .boolean)] ++ wsX60)
def wsX6_here : List Cond := .code yX6_here cX6_here 1 (some .int) :: ([.fieldLink RX6 89 "GnatPortraitsModel" "at0" "I", .fieldLink RX6 85 "GnatPortraitsModel" "texted" "I", .fieldLink RX6 22 "GnatPortraitsModel" "text" "[I"] ++ wsX60)
def wsX6_fails : List Cond := .code yX6_fails cX6_fails 3 (some .int) :: ([.fieldLink RX6 25 "GnatPortraitsModel" "faultPlace" "I"] ++ wsX60)
def wsX6_takeNumber : List Cond := .code yX6_takeNumber cX6_takeNumber 4 (some .int) :: ([.constantLong RX6 96 (48), .constantLong RX6 98 (57), .fieldLink RX6 89 "GnatPortraitsModel" "at0" "I", .fieldLink RX6 104 "GnatPortraitsModel" "numberAt" "I", .fieldLink RX6 107 "GnatPortraitsModel" "number" "I", .fieldLink RX6 85 "GnatPortraitsModel" "texted" "I", .fieldLink RX6 22 "GnatPortraitsModel" "text" "[I", .methodLink RX6 92 yX6_here, .instanceMethod yX6_here, .selects RX6 yX6_here yX6_here, .initialized RX6, .code yX6_here cX6_here 1 (some .int), .methodLink RX6 75 yX6_in, .static yX6_in, .code yX6_in cX6_in 6 (some .boolean), .methodLink RX6 100 yX6_fails, .instanceMethod yX6_fails, .selects RX6 yX6_fails yX6_fails, .code yX6_fails cX6_fails 3 (some .int), .fieldLink RX6 25 "GnatPortraitsModel" "faultPlace" "I"] ++ wsX60)
def wsX6_takeGnats_r1 : List Cond := [Cond.fieldLink RX6 107 "GnatPortraitsModel" "number" "I", Cond.fieldLink RX6 113 "GnatPortraitsModel" "readGnats" "I", Cond.methodLink RX6 110 yX6_takeNumber, Cond.instanceMethod yX6_takeNumber, Cond.selects RX6 yX6_takeNumber yX6_takeNumber, Cond.initialized RX6, Cond.code yX6_takeNumber cX6_takeNumber 4 (some .int), Cond.constantLong RX6 96 (48), Cond.constantLong RX6 98 (57), Cond.fieldLink RX6 89 "GnatPortraitsModel" "at0" "I", Cond.fieldLink RX6 104 "GnatPortraitsModel" "numberAt" "I", Cond.fieldLink RX6 85 "GnatPortraitsModel" "texted" "I", Cond.fieldLink RX6 22 "GnatPortraitsModel" "text" "[I", Cond.methodLink RX6 92 yX6_here, Cond.instanceMethod yX6_here, Cond.selects RX6 yX6_here yX6_here, Cond.code yX6_here cX6_here 1 (some .int), Cond.methodLink RX6 75 yX6_in, Cond.static yX6_in, Cond.code yX6_in cX6_in 6 (some .boolean), Cond.methodLink RX6 100 yX6_fails, Cond.instanceMethod yX6_fails, Cond.selects RX6 yX6_fails yX6_fails, Cond.code yX6_fails cX6_fails 3 (some .int)]
def wsX6_takeGnats_r2 : List Cond := [Cond.fieldLink RX6 25 "GnatPortraitsModel" "faultPlace" "I"]
def wsX6_takeGnats : List Cond := .code yX6_takeGnats cX6_takeGnats 2 (some .int) :: ((wsX6_takeGnats_r1 ++ wsX6_takeGnats_r2) ++ wsX60)
def wsX6_takeSitter_r1 : List Cond := [Cond.fieldLink RX6 89 "GnatPortraitsModel" "at0" "I", Cond.fieldLink RX6 107 "GnatPortraitsModel" "number" "I", Cond.fieldLink RX6 29 "GnatPortraitsModel" "readOutline" "[I", Cond.fieldLink RX6 116 "GnatPortraitsModel" "readSitters" "I", Cond.methodLink RX6 92 yX6_here, Cond.instanceMethod yX6_here, Cond.selects RX6 yX6_here yX6_here, Cond.initialized RX6, Cond.code yX6_here cX6_here 1 (some .int), Cond.fieldLink RX6 85 "GnatPortraitsModel" "texted" "I", Cond.fieldLink RX6 22 "GnatPortraitsModel" "text" "[I", Cond.methodLink RX6 100 yX6_fails, Cond.instanceMethod yX6_fails, Cond.selects RX6 yX6_fails yX6_fails, Cond.code yX6_fails cX6_fails 3 (some .int), Cond.fieldLink RX6 25 "GnatPortraitsModel" "faultPlace" "I", Cond.methodLink RX6 110 yX6_takeNumber, Cond.instanceMethod yX6_takeNumber, Cond.selects RX6 yX6_takeNumber yX6_takeNumber, Cond.code yX6_takeNumber cX6_takeNumber 4 (some .int), Cond.constantLong RX6 96 (48), Cond.constantLong RX6 98 (57), Cond.fieldLink RX6 104 "GnatPortraitsModel" "numberAt" "I", Cond.methodLink RX6 75 yX6_in]
def wsX6_takeSitter_r2 : List Cond := [Cond.static yX6_in, Cond.code yX6_in cX6_in 6 (some .boolean)]
def wsX6_takeSitter : List Cond := .code yX6_takeSitter cX6_takeSitter 4 (some .int) :: ((wsX6_takeSitter_r1 ++ wsX6_takeSitter_r2) ++ wsX60)
def wsX6_takeWindow_r1 : List Cond := [Cond.fieldLink RX6 32 "GnatPortraitsModel" "readLamp" "[I", Cond.fieldLink RX6 119 "GnatPortraitsModel" "readWindows" "I", Cond.fieldLink RX6 107 "GnatPortraitsModel" "number" "I", Cond.methodLink RX6 110 yX6_takeNumber, Cond.instanceMethod yX6_takeNumber, Cond.selects RX6 yX6_takeNumber yX6_takeNumber, Cond.initialized RX6, Cond.code yX6_takeNumber cX6_takeNumber 4 (some .int), Cond.constantLong RX6 96 (48), Cond.constantLong RX6 98 (57), Cond.fieldLink RX6 89 "GnatPortraitsModel" "at0" "I", Cond.fieldLink RX6 104 "GnatPortraitsModel" "numberAt" "I", Cond.fieldLink RX6 85 "GnatPortraitsModel" "texted" "I", Cond.fieldLink RX6 22 "GnatPortraitsModel" "text" "[I", Cond.methodLink RX6 92 yX6_here, Cond.instanceMethod yX6_here, Cond.selects RX6 yX6_here yX6_here, Cond.code yX6_here cX6_here 1 (some .int), Cond.methodLink RX6 75 yX6_in, Cond.static yX6_in, Cond.code yX6_in cX6_in 6 (some .boolean), Cond.methodLink RX6 100 yX6_fails, Cond.instanceMethod yX6_fails, Cond.selects RX6 yX6_fails yX6_fails]
def wsX6_takeWindow_r2 : List Cond := [Cond.code yX6_fails cX6_fails 3 (some .int), Cond.fieldLink RX6 25 "GnatPortraitsModel" "faultPlace" "I"]
def wsX6_takeWindow : List Cond := .code yX6_takeWindow cX6_takeWindow 2 (some .int) :: ((wsX6_takeWindow_r1 ++ wsX6_takeWindow_r2) ++ wsX60)
def wsX6_takeCritic_r1 : List Cond := [Cond.fieldLink RX6 35 "GnatPortraitsModel" "readLooks" "[I", Cond.fieldLink RX6 122 "GnatPortraitsModel" "readCritics" "I", Cond.fieldLink RX6 107 "GnatPortraitsModel" "number" "I", Cond.methodLink RX6 110 yX6_takeNumber, Cond.instanceMethod yX6_takeNumber, Cond.selects RX6 yX6_takeNumber yX6_takeNumber, Cond.initialized RX6, Cond.code yX6_takeNumber cX6_takeNumber 4 (some .int), Cond.constantLong RX6 96 (48), Cond.constantLong RX6 98 (57), Cond.fieldLink RX6 89 "GnatPortraitsModel" "at0" "I", Cond.fieldLink RX6 104 "GnatPortraitsModel" "numberAt" "I", Cond.fieldLink RX6 85 "GnatPortraitsModel" "texted" "I", Cond.fieldLink RX6 22 "GnatPortraitsModel" "text" "[I", Cond.methodLink RX6 92 yX6_here, Cond.instanceMethod yX6_here, Cond.selects RX6 yX6_here yX6_here, Cond.code yX6_here cX6_here 1 (some .int), Cond.methodLink RX6 75 yX6_in, Cond.static yX6_in, Cond.code yX6_in cX6_in 6 (some .boolean), Cond.methodLink RX6 100 yX6_fails, Cond.instanceMethod yX6_fails, Cond.selects RX6 yX6_fails yX6_fails]
def wsX6_takeCritic_r2 : List Cond := [Cond.code yX6_fails cX6_fails 3 (some .int), Cond.fieldLink RX6 25 "GnatPortraitsModel" "faultPlace" "I"]
def wsX6_takeCritic : List Cond := .code yX6_takeCritic cX6_takeCritic 2 (some .int) :: ((wsX6_takeCritic_r1 ++ wsX6_takeCritic_r2) ++ wsX60)
def wsX6_isFull : List Cond := .code yX6_isFull cX6_isFull 2 (some .boolean) :: ([.fieldLink RX6 113 "GnatPortraitsModel" "readGnats" "I", .fieldLink RX6 116 "GnatPortraitsModel" "readSitters" "I", .fieldLink RX6 119 "GnatPortraitsModel" "readWindows" "I", .fieldLink RX6 122 "GnatPortraitsModel" "readCritics" "I"] ++ wsX60)
def wsX6_takeBody_r1 : List Cond := [Cond.methodLink RX6 125 yX6_takeGnats, Cond.instanceMethod yX6_takeGnats, Cond.selects RX6 yX6_takeGnats yX6_takeGnats, Cond.initialized RX6, Cond.code yX6_takeGnats cX6_takeGnats 2 (some .int), Cond.fieldLink RX6 107 "GnatPortraitsModel" "number" "I", Cond.fieldLink RX6 113 "GnatPortraitsModel" "readGnats" "I", Cond.methodLink RX6 110 yX6_takeNumber, Cond.instanceMethod yX6_takeNumber, Cond.selects RX6 yX6_takeNumber yX6_takeNumber, Cond.code yX6_takeNumber cX6_takeNumber 4 (some .int), Cond.constantLong RX6 96 (48), Cond.constantLong RX6 98 (57), Cond.fieldLink RX6 89 "GnatPortraitsModel" "at0" "I", Cond.fieldLink RX6 104 "GnatPortraitsModel" "numberAt" "I", Cond.fieldLink RX6 85 "GnatPortraitsModel" "texted" "I", Cond.fieldLink RX6 22 "GnatPortraitsModel" "text" "[I", Cond.methodLink RX6 92 yX6_here, Cond.instanceMethod yX6_here, Cond.selects RX6 yX6_here yX6_here, Cond.code yX6_here cX6_here 1 (some .int), Cond.methodLink RX6 75 yX6_in, Cond.static yX6_in, Cond.code yX6_in cX6_in 6 (some .boolean)]
def wsX6_takeBody_r2 : List Cond := [Cond.methodLink RX6 100 yX6_fails, Cond.instanceMethod yX6_fails, Cond.selects RX6 yX6_fails yX6_fails, Cond.code yX6_fails cX6_fails 3 (some .int), Cond.fieldLink RX6 25 "GnatPortraitsModel" "faultPlace" "I", Cond.methodLink RX6 128 yX6_takeSitter, Cond.instanceMethod yX6_takeSitter, Cond.selects RX6 yX6_takeSitter yX6_takeSitter, Cond.code yX6_takeSitter cX6_takeSitter 4 (some .int), Cond.fieldLink RX6 29 "GnatPortraitsModel" "readOutline" "[I", Cond.fieldLink RX6 116 "GnatPortraitsModel" "readSitters" "I", Cond.methodLink RX6 131 yX6_takeWindow, Cond.instanceMethod yX6_takeWindow, Cond.selects RX6 yX6_takeWindow yX6_takeWindow, Cond.code yX6_takeWindow cX6_takeWindow 2 (some .int), Cond.fieldLink RX6 32 "GnatPortraitsModel" "readLamp" "[I", Cond.fieldLink RX6 119 "GnatPortraitsModel" "readWindows" "I", Cond.methodLink RX6 134 yX6_takeCritic, Cond.instanceMethod yX6_takeCritic, Cond.selects RX6 yX6_takeCritic yX6_takeCritic, Cond.code yX6_takeCritic cX6_takeCritic 2 (some .int), Cond.fieldLink RX6 35 "GnatPortraitsModel" "readLooks" "[I", Cond.fieldLink RX6 122 "GnatPortraitsModel" "readCritics" "I"]
def wsX6_takeBody : List Cond := .code yX6_takeBody cX6_takeBody 2 (some .int) :: ((wsX6_takeBody_r1 ++ wsX6_takeBody_r2) ++ wsX60)
def wsX6_takeClause_r1 : List Cond := [Cond.fieldLink RX6 113 "GnatPortraitsModel" "readGnats" "I", Cond.fieldLink RX6 89 "GnatPortraitsModel" "at0" "I", Cond.methodLink RX6 92 yX6_here, Cond.instanceMethod yX6_here, Cond.selects RX6 yX6_here yX6_here, Cond.initialized RX6, Cond.code yX6_here cX6_here 1 (some .int), Cond.fieldLink RX6 85 "GnatPortraitsModel" "texted" "I", Cond.fieldLink RX6 22 "GnatPortraitsModel" "text" "[I", Cond.methodLink RX6 100 yX6_fails, Cond.instanceMethod yX6_fails, Cond.selects RX6 yX6_fails yX6_fails, Cond.code yX6_fails cX6_fails 3 (some .int), Cond.fieldLink RX6 25 "GnatPortraitsModel" "faultPlace" "I", Cond.methodLink RX6 137 yX6_isFull, Cond.instanceMethod yX6_isFull, Cond.selects RX6 yX6_isFull yX6_isFull, Cond.code yX6_isFull cX6_isFull 2 (some .boolean), Cond.fieldLink RX6 116 "GnatPortraitsModel" "readSitters" "I", Cond.fieldLink RX6 119 "GnatPortraitsModel" "readWindows" "I", Cond.fieldLink RX6 122 "GnatPortraitsModel" "readCritics" "I", Cond.methodLink RX6 141 yX6_takeBody, Cond.instanceMethod yX6_takeBody, Cond.selects RX6 yX6_takeBody yX6_takeBody]
def wsX6_takeClause_r2 : List Cond := [Cond.code yX6_takeBody cX6_takeBody 2 (some .int), Cond.methodLink RX6 125 yX6_takeGnats, Cond.instanceMethod yX6_takeGnats, Cond.selects RX6 yX6_takeGnats yX6_takeGnats, Cond.code yX6_takeGnats cX6_takeGnats 2 (some .int), Cond.fieldLink RX6 107 "GnatPortraitsModel" "number" "I", Cond.methodLink RX6 110 yX6_takeNumber, Cond.instanceMethod yX6_takeNumber, Cond.selects RX6 yX6_takeNumber yX6_takeNumber, Cond.code yX6_takeNumber cX6_takeNumber 4 (some .int), Cond.constantLong RX6 96 (48), Cond.constantLong RX6 98 (57), Cond.fieldLink RX6 104 "GnatPortraitsModel" "numberAt" "I", Cond.methodLink RX6 75 yX6_in, Cond.static yX6_in, Cond.code yX6_in cX6_in 6 (some .boolean), Cond.methodLink RX6 128 yX6_takeSitter, Cond.instanceMethod yX6_takeSitter, Cond.selects RX6 yX6_takeSitter yX6_takeSitter, Cond.code yX6_takeSitter cX6_takeSitter 4 (some .int), Cond.fieldLink RX6 29 "GnatPortraitsModel" "readOutline" "[I", Cond.methodLink RX6 131 yX6_takeWindow, Cond.instanceMethod yX6_takeWindow, Cond.selects RX6 yX6_takeWindow yX6_takeWindow]
def wsX6_takeClause_r3 : List Cond := [Cond.code yX6_takeWindow cX6_takeWindow 2 (some .int), Cond.fieldLink RX6 32 "GnatPortraitsModel" "readLamp" "[I", Cond.methodLink RX6 134 yX6_takeCritic, Cond.instanceMethod yX6_takeCritic, Cond.selects RX6 yX6_takeCritic yX6_takeCritic, Cond.code yX6_takeCritic cX6_takeCritic 2 (some .int), Cond.fieldLink RX6 35 "GnatPortraitsModel" "readLooks" "[I"]
def wsX6_takeClause : List Cond := .code yX6_takeClause cX6_takeClause 4 (some .int) :: ((wsX6_takeClause_r1 ++ (wsX6_takeClause_r2 ++ wsX6_takeClause_r3)) ++ wsX60)
def wsX6_takeRead : List Cond := .code yX6_takeRead cX6_takeRead 2 none :: ([.fieldLink RX6 113 "GnatPortraitsModel" "readGnats" "I", .fieldLink RX6 66 "GnatPortraitsModel" "gnats" "I", .fieldLink RX6 116 "GnatPortraitsModel" "readSitters" "I", .fieldLink RX6 72 "GnatPortraitsModel" "sitters" "I", .fieldLink RX6 119 "GnatPortraitsModel" "readWindows" "I", .fieldLink RX6 79 "GnatPortraitsModel" "windows" "I", .fieldLink RX6 122 "GnatPortraitsModel" "readCritics" "I", .fieldLink RX6 145 "GnatPortraitsModel" "critics" "I", .fieldLink RX6 7 "GnatPortraitsModel" "outline" "[I", .fieldLink RX6 29 "GnatPortraitsModel" "readOutline" "[I", .fieldLink RX6 16 "GnatPortraitsModel" "looks" "[I", .fieldLink RX6 35 "GnatPortraitsModel" "readLooks" "[I", .fieldLink RX6 13 "GnatPortraitsModel" "lampTold" "[I", .fieldLink RX6 32 "GnatPortraitsModel" "readLamp" "[I", .fieldLink RX6 19 "GnatPortraitsModel" "now" "[I", .methodLink RX6 69 yX6_empties, .instanceMethod yX6_empties, .selects RX6 yX6_empties yX6_empties, .initialized RX6, .code yX6_empties cX6_empties 2 none] ++ wsX60)
def wsX6_capital_r1 : List Cond := [Cond.fieldLink RX6 25 "GnatPortraitsModel" "faultPlace" "I", Cond.fieldLink RX6 89 "GnatPortraitsModel" "at0" "I", Cond.fieldLink RX6 113 "GnatPortraitsModel" "readGnats" "I", Cond.fieldLink RX6 116 "GnatPortraitsModel" "readSitters" "I", Cond.fieldLink RX6 119 "GnatPortraitsModel" "readWindows" "I", Cond.fieldLink RX6 122 "GnatPortraitsModel" "readCritics" "I", Cond.fieldLink RX6 85 "GnatPortraitsModel" "texted" "I", Cond.fieldLink RX6 154 "GnatPortraitsModel" "toldOf" "I", Cond.fieldLink RX6 157 "GnatPortraitsModel" "undos" "I", Cond.fieldLink RX6 62 "GnatPortraitsModel" "isKept" "[Z", Cond.fieldLink RX6 72 "GnatPortraitsModel" "sitters" "I", Cond.methodLink RX6 92 yX6_here, Cond.instanceMethod yX6_here, Cond.selects RX6 yX6_here yX6_here, Cond.initialized RX6, Cond.code yX6_here cX6_here 1 (some .int), Cond.fieldLink RX6 22 "GnatPortraitsModel" "text" "[I", Cond.methodLink RX6 148 yX6_takeClause, Cond.instanceMethod yX6_takeClause, Cond.selects RX6 yX6_takeClause yX6_takeClause, Cond.code yX6_takeClause cX6_takeClause 4 (some .int), Cond.methodLink RX6 100 yX6_fails, Cond.instanceMethod yX6_fails, Cond.selects RX6 yX6_fails yX6_fails]
def wsX6_capital_r2 : List Cond := [Cond.code yX6_fails cX6_fails 3 (some .int), Cond.methodLink RX6 137 yX6_isFull, Cond.instanceMethod yX6_isFull, Cond.selects RX6 yX6_isFull yX6_isFull, Cond.code yX6_isFull cX6_isFull 2 (some .boolean), Cond.methodLink RX6 141 yX6_takeBody, Cond.instanceMethod yX6_takeBody, Cond.selects RX6 yX6_takeBody yX6_takeBody, Cond.code yX6_takeBody cX6_takeBody 2 (some .int), Cond.methodLink RX6 125 yX6_takeGnats, Cond.instanceMethod yX6_takeGnats, Cond.selects RX6 yX6_takeGnats yX6_takeGnats, Cond.code yX6_takeGnats cX6_takeGnats 2 (some .int), Cond.fieldLink RX6 107 "GnatPortraitsModel" "number" "I", Cond.methodLink RX6 110 yX6_takeNumber, Cond.instanceMethod yX6_takeNumber, Cond.selects RX6 yX6_takeNumber yX6_takeNumber, Cond.code yX6_takeNumber cX6_takeNumber 4 (some .int), Cond.constantLong RX6 96 (48), Cond.constantLong RX6 98 (57), Cond.fieldLink RX6 104 "GnatPortraitsModel" "numberAt" "I", Cond.methodLink RX6 75 yX6_in, Cond.static yX6_in, Cond.code yX6_in cX6_in 6 (some .boolean)]
def wsX6_capital_r3 : List Cond := [Cond.methodLink RX6 128 yX6_takeSitter, Cond.instanceMethod yX6_takeSitter, Cond.selects RX6 yX6_takeSitter yX6_takeSitter, Cond.code yX6_takeSitter cX6_takeSitter 4 (some .int), Cond.fieldLink RX6 29 "GnatPortraitsModel" "readOutline" "[I", Cond.methodLink RX6 131 yX6_takeWindow, Cond.instanceMethod yX6_takeWindow, Cond.selects RX6 yX6_takeWindow yX6_takeWindow, Cond.code yX6_takeWindow cX6_takeWindow 2 (some .int), Cond.fieldLink RX6 32 "GnatPortraitsModel" "readLamp" "[I", Cond.methodLink RX6 134 yX6_takeCritic, Cond.instanceMethod yX6_takeCritic, Cond.selects RX6 yX6_takeCritic yX6_takeCritic, Cond.code yX6_takeCritic cX6_takeCritic 2 (some .int), Cond.fieldLink RX6 35 "GnatPortraitsModel" "readLooks" "[I", Cond.methodLink RX6 151 yX6_takeRead, Cond.instanceMethod yX6_takeRead, Cond.selects RX6 yX6_takeRead yX6_takeRead, Cond.code yX6_takeRead cX6_takeRead 2 none, Cond.fieldLink RX6 66 "GnatPortraitsModel" "gnats" "I", Cond.fieldLink RX6 79 "GnatPortraitsModel" "windows" "I", Cond.fieldLink RX6 145 "GnatPortraitsModel" "critics" "I", Cond.fieldLink RX6 7 "GnatPortraitsModel" "outline" "[I", Cond.fieldLink RX6 16 "GnatPortraitsModel" "looks" "[I"]
def wsX6_capital_r4 : List Cond := [Cond.fieldLink RX6 13 "GnatPortraitsModel" "lampTold" "[I", Cond.fieldLink RX6 19 "GnatPortraitsModel" "now" "[I", Cond.methodLink RX6 69 yX6_empties, Cond.instanceMethod yX6_empties, Cond.selects RX6 yX6_empties yX6_empties, Cond.code yX6_empties cX6_empties 2 none]
def wsX6_capital : List Cond := .code yX6_capital cX6_capital 2 (some .int) :: ((wsX6_capital_r1 ++ (wsX6_capital_r2 ++ (wsX6_capital_r3 ++ wsX6_capital_r4))) ++ wsX60)
def wsX6_fault : List Cond := .code yX6_fault cX6_fault 1 (some .int) :: ([.fieldLink RX6 25 "GnatPortraitsModel" "faultPlace" "I"] ++ wsX60)
def wsX6_shifted : List Cond := .code yX6_shifted cX6_shifted 5 (some .int) :: ([.constantLong RX6 164 (5), .methodLink RX6 160 yX6_has, .static yX6_has, .initialized RX6, .code yX6_has cX6_has 2 (some .boolean), .methodLink RX6 75 yX6_in, .static yX6_in, .code yX6_in cX6_in 6 (some .boolean)])
def wsX6_drawnBy : List Cond := .code yX6_drawnBy cX6_drawnBy 8 (some .int) :: ([.fieldLink RX6 7 "GnatPortraitsModel" "outline" "[I", .fieldLink RX6 19 "GnatPortraitsModel" "now" "[I", .fieldLink RX6 66 "GnatPortraitsModel" "gnats" "I", .methodLink RX6 166 yX6_shifted, .static yX6_shifted, .initialized RX6, .code yX6_shifted cX6_shifted 5 (some .int), .constantLong RX6 164 (5), .methodLink RX6 160 yX6_has, .static yX6_has, .code yX6_has cX6_has 2 (some .boolean), .methodLink RX6 75 yX6_in, .static yX6_in, .code yX6_in cX6_in 6 (some .boolean)] ++ wsX60)
def wsX6_whoIsAt : List Cond := .code yX6_whoIsAt cX6_whoIsAt 4 (some .int) :: ([.fieldLink RX6 72 "GnatPortraitsModel" "sitters" "I", .fieldLink RX6 19 "GnatPortraitsModel" "now" "[I"] ++ wsX60)
def wsX6_drawnAt : List Cond := .code yX6_drawnAt cX6_drawnAt 3 (some .int) :: ([.fieldLink RX6 19 "GnatPortraitsModel" "now" "[I", .methodLink RX6 169 yX6_whoIsAt, .instanceMethod yX6_whoIsAt, .selects RX6 yX6_whoIsAt yX6_whoIsAt, .initialized RX6, .code yX6_whoIsAt cX6_whoIsAt 4 (some .int), .fieldLink RX6 72 "GnatPortraitsModel" "sitters" "I", .methodLink RX6 160 yX6_has, .static yX6_has, .code yX6_has cX6_has 2 (some .boolean), .methodLink RX6 172 yX6_drawnBy, .instanceMethod yX6_drawnBy, .selects RX6 yX6_drawnBy yX6_drawnBy, .code yX6_drawnBy cX6_drawnBy 8 (some .int), .fieldLink RX6 7 "GnatPortraitsModel" "outline" "[I", .fieldLink RX6 66 "GnatPortraitsModel" "gnats" "I", .methodLink RX6 166 yX6_shifted, .static yX6_shifted, .code yX6_shifted cX6_shifted 5 (some .int), .constantLong RX6 164 (5), .methodLink RX6 75 yX6_in, .static yX6_in, .code yX6_in cX6_in 6 (some .boolean)] ++ wsX60)
def wsX6_cloud_r1 : List Cond := [Cond.fieldLink RX6 79 "GnatPortraitsModel" "windows" "I", Cond.methodLink RX6 175 yX6_drawnAt, Cond.instanceMethod yX6_drawnAt, Cond.selects RX6 yX6_drawnAt yX6_drawnAt, Cond.initialized RX6, Cond.code yX6_drawnAt cX6_drawnAt 3 (some .int), Cond.fieldLink RX6 19 "GnatPortraitsModel" "now" "[I", Cond.methodLink RX6 169 yX6_whoIsAt, Cond.instanceMethod yX6_whoIsAt, Cond.selects RX6 yX6_whoIsAt yX6_whoIsAt, Cond.code yX6_whoIsAt cX6_whoIsAt 4 (some .int), Cond.fieldLink RX6 72 "GnatPortraitsModel" "sitters" "I", Cond.methodLink RX6 160 yX6_has, Cond.static yX6_has, Cond.code yX6_has cX6_has 2 (some .boolean), Cond.methodLink RX6 172 yX6_drawnBy, Cond.instanceMethod yX6_drawnBy, Cond.selects RX6 yX6_drawnBy yX6_drawnBy, Cond.code yX6_drawnBy cX6_drawnBy 8 (some .int), Cond.fieldLink RX6 7 "GnatPortraitsModel" "outline" "[I", Cond.fieldLink RX6 66 "GnatPortraitsModel" "gnats" "I", Cond.methodLink RX6 166 yX6_shifted, Cond.static yX6_shifted, Cond.code yX6_shifted cX6_shifted 5 (some .int)]
def wsX6_cloud_r2 : List Cond := [Cond.constantLong RX6 164 (5), Cond.methodLink RX6 75 yX6_in, Cond.static yX6_in, Cond.code yX6_in cX6_in 6 (some .boolean)]
def wsX6_cloud : List Cond := .code yX6_cloud cX6_cloud 3 (some .int) :: ((wsX6_cloud_r1 ++ wsX6_cloud_r2) ++ wsX60)
def wsX6_likeBy : List Cond := .code yX6_likeBy cX6_likeBy 3 (some .int) :: ([.fieldLink RX6 7 "GnatPortraitsModel" "outline" "[I", .methodLink RX6 178 yX6_ones, .static yX6_ones, .initialized RX6, .code yX6_ones cX6_ones 3 (some .int)] ++ wsX60)
def wsX6_mostLike : List Cond := .code yX6_mostLike cX6_mostLike 7 (some .int) :: ([.fieldLink RX6 72 "GnatPortraitsModel" "sitters" "I", .fieldLink RX6 7 "GnatPortraitsModel" "outline" "[I", .methodLink RX6 178 yX6_ones, .static yX6_ones, .initialized RX6, .code yX6_ones cX6_ones 3 (some .int)] ++ wsX60)
def wsX6_often : List Cond := .code yX6_often cX6_often 4 (some .int) :: ([.fieldLink RX6 19 "GnatPortraitsModel" "now" "[I"] ++ wsX60)
def wsX6_isSo : List Cond := .code yX6_isSo cX6_isSo 4 (some .boolean) :: ([.fieldLink RX6 154 "GnatPortraitsModel" "toldOf" "I", .fieldLink RX6 50 "GnatPortraitsModel" "dotTold" "[I", .fieldLink RX6 53 "GnatPortraitsModel" "isTold" "[I"] ++ wsX60)
def wsX6_mayBe : List Cond := .code yX6_mayBe cX6_mayBe 4 (some .int) :: ([.fieldLink RX6 72 "GnatPortraitsModel" "sitters" "I", .fieldLink RX6 7 "GnatPortraitsModel" "outline" "[I", .methodLink RX6 166 yX6_shifted, .static yX6_shifted, .initialized RX6, .code yX6_shifted cX6_shifted 5 (some .int), .constantLong RX6 164 (5), .methodLink RX6 160 yX6_has, .static yX6_has, .code yX6_has cX6_has 2 (some .boolean), .methodLink RX6 75 yX6_in, .static yX6_in, .code yX6_in cX6_in 6 (some .boolean), .methodLink RX6 268 yX6_isSo, .instanceMethod yX6_isSo, .selects RX6 yX6_isSo yX6_isSo, .code yX6_isSo cX6_isSo 4 (some .boolean), .fieldLink RX6 154 "GnatPortraitsModel" "toldOf" "I", .fieldLink RX6 50 "GnatPortraitsModel" "dotTold" "[I", .fieldLink RX6 53 "GnatPortraitsModel" "isTold" "[I"] ++ wsX60)
def wsX6_told_r1 : List Cond := [Cond.fieldLink RX6 66 "GnatPortraitsModel" "gnats" "I", Cond.fieldLink RX6 72 "GnatPortraitsModel" "sitters" "I", Cond.fieldLink RX6 79 "GnatPortraitsModel" "windows" "I", Cond.fieldLink RX6 145 "GnatPortraitsModel" "critics" "I", Cond.fieldLink RX6 85 "GnatPortraitsModel" "texted" "I", Cond.fieldLink RX6 19 "GnatPortraitsModel" "now" "[I", Cond.fieldLink RX6 154 "GnatPortraitsModel" "toldOf" "I", Cond.fieldLink RX6 157 "GnatPortraitsModel" "undos" "I", Cond.constant RX6 84 (-1000000002), Cond.methodLink RX6 181 yX6_cloud, Cond.instanceMethod yX6_cloud, Cond.selects RX6 yX6_cloud yX6_cloud, Cond.initialized RX6, Cond.code yX6_cloud cX6_cloud 3 (some .int), Cond.methodLink RX6 175 yX6_drawnAt, Cond.instanceMethod yX6_drawnAt, Cond.selects RX6 yX6_drawnAt yX6_drawnAt, Cond.code yX6_drawnAt cX6_drawnAt 3 (some .int), Cond.methodLink RX6 169 yX6_whoIsAt, Cond.instanceMethod yX6_whoIsAt, Cond.selects RX6 yX6_whoIsAt yX6_whoIsAt, Cond.code yX6_whoIsAt cX6_whoIsAt 4 (some .int), Cond.methodLink RX6 160 yX6_has, Cond.static yX6_has]
def wsX6_told_r2 : List Cond := [Cond.code yX6_has cX6_has 2 (some .boolean), Cond.methodLink RX6 172 yX6_drawnBy, Cond.instanceMethod yX6_drawnBy, Cond.selects RX6 yX6_drawnBy yX6_drawnBy, Cond.code yX6_drawnBy cX6_drawnBy 8 (some .int), Cond.fieldLink RX6 7 "GnatPortraitsModel" "outline" "[I", Cond.methodLink RX6 166 yX6_shifted, Cond.static yX6_shifted, Cond.code yX6_shifted cX6_shifted 5 (some .int), Cond.constantLong RX6 164 (5), Cond.methodLink RX6 75 yX6_in, Cond.static yX6_in, Cond.code yX6_in cX6_in 6 (some .boolean), Cond.methodLink RX6 184 yX6_mayBe, Cond.instanceMethod yX6_mayBe, Cond.selects RX6 yX6_mayBe yX6_mayBe, Cond.code yX6_mayBe cX6_mayBe 4 (some .int), Cond.methodLink RX6 268 yX6_isSo, Cond.instanceMethod yX6_isSo, Cond.selects RX6 yX6_isSo yX6_isSo, Cond.code yX6_isSo cX6_isSo 4 (some .boolean), Cond.fieldLink RX6 50 "GnatPortraitsModel" "dotTold" "[I", Cond.fieldLink RX6 53 "GnatPortraitsModel" "isTold" "[I"]
def wsX6_told : List Cond := .code yX6_told cX6_told 2 (some .int) :: ((wsX6_told_r1 ++ wsX6_told_r2) ++ wsX60)
def wsX6_sitter : List Cond := .code yX6_sitter cX6_sitter 3 (some .int) :: ([.constant RX6 190 (-1000000001), .fieldLink RX6 7 "GnatPortraitsModel" "outline" "[I", .fieldLink RX6 19 "GnatPortraitsModel" "now" "[I", .constant RX6 84 (-1000000002), .methodLink RX6 187 yX6_isSitter, .instanceMethod yX6_isSitter, .selects RX6 yX6_isSitter yX6_isSitter, .initialized RX6, .code yX6_isSitter cX6_isSitter 2 (some .boolean), .fieldLink RX6 72 "GnatPortraitsModel" "sitters" "I", .methodLink RX6 75 yX6_in, .static yX6_in, .code yX6_in cX6_in 6 (some .boolean), .methodLink RX6 191 yX6_often, .instanceMethod yX6_often, .selects RX6 yX6_often yX6_often, .code yX6_often cX6_often 4 (some .int)] ++ wsX60)
def wsX6_window_r1 : List Cond := [Cond.constant RX6 190 (-1000000001), Cond.fieldLink RX6 19 "GnatPortraitsModel" "now" "[I", Cond.constant RX6 197 (1073741823), Cond.constant RX6 84 (-1000000002), Cond.methodLink RX6 194 yX6_isWindow, Cond.instanceMethod yX6_isWindow, Cond.selects RX6 yX6_isWindow yX6_isWindow, Cond.initialized RX6, Cond.code yX6_isWindow cX6_isWindow 2 (some .boolean), Cond.fieldLink RX6 79 "GnatPortraitsModel" "windows" "I", Cond.methodLink RX6 75 yX6_in, Cond.static yX6_in, Cond.code yX6_in cX6_in 6 (some .boolean), Cond.methodLink RX6 169 yX6_whoIsAt, Cond.instanceMethod yX6_whoIsAt, Cond.selects RX6 yX6_whoIsAt yX6_whoIsAt, Cond.code yX6_whoIsAt cX6_whoIsAt 4 (some .int), Cond.fieldLink RX6 72 "GnatPortraitsModel" "sitters" "I", Cond.methodLink RX6 175 yX6_drawnAt, Cond.instanceMethod yX6_drawnAt, Cond.selects RX6 yX6_drawnAt yX6_drawnAt, Cond.code yX6_drawnAt cX6_drawnAt 3 (some .int), Cond.methodLink RX6 160 yX6_has, Cond.static yX6_has]
def wsX6_window_r2 : List Cond := [Cond.code yX6_has cX6_has 2 (some .boolean), Cond.methodLink RX6 172 yX6_drawnBy, Cond.instanceMethod yX6_drawnBy, Cond.selects RX6 yX6_drawnBy yX6_drawnBy, Cond.code yX6_drawnBy cX6_drawnBy 8 (some .int), Cond.fieldLink RX6 7 "GnatPortraitsModel" "outline" "[I", Cond.fieldLink RX6 66 "GnatPortraitsModel" "gnats" "I", Cond.methodLink RX6 166 yX6_shifted, Cond.static yX6_shifted, Cond.code yX6_shifted cX6_shifted 5 (some .int), Cond.constantLong RX6 164 (5), Cond.methodLink RX6 198 yX6_mostLike, Cond.instanceMethod yX6_mostLike, Cond.selects RX6 yX6_mostLike yX6_mostLike, Cond.code yX6_mostLike cX6_mostLike 7 (some .int), Cond.methodLink RX6 178 yX6_ones, Cond.static yX6_ones, Cond.code yX6_ones cX6_ones 3 (some .int)]
def wsX6_window : List Cond := .code yX6_window cX6_window 3 (some .int) :: ((wsX6_window_r1 ++ wsX6_window_r2) ++ wsX60)
def wsX6_album : List Cond := .code yX6_album cX6_album 3 (some .int) :: ([.constantLong RX6 201 (2), .constant RX6 84 (-1000000002), .fieldLink RX6 19 "GnatPortraitsModel" "now" "[I", .methodLink RX6 75 yX6_in, .static yX6_in, .initialized RX6, .code yX6_in cX6_in 6 (some .boolean)] ++ wsX60)
def wsX6_glass : List Cond := .code yX6_glass cX6_glass 2 (some .int) :: ([.constantLong RX6 203 (3), .fieldLink RX6 19 "GnatPortraitsModel" "now" "[I", .constant RX6 190 (-1000000001), .methodLink RX6 75 yX6_in, .static yX6_in, .initialized RX6, .code yX6_in cX6_in 6 (some .boolean)] ++ wsX60)
def wsX6_remember : List Cond := .code yX6_remember cX6_remember 2 none :: ([.fieldLink RX6 157 "GnatPortraitsModel" "undos" "I", .fieldLink RX6 38 "GnatPortraitsModel" "past" "[I", .fieldLink RX6 19 "GnatPortraitsModel" "now" "[I"] ++ wsX60)
def wsX6_stand_r1 : List Cond := [Cond.constant RX6 190 (-1000000001), Cond.constant RX6 205 (-1000000003), Cond.fieldLink RX6 19 "GnatPortraitsModel" "now" "[I", Cond.methodLink RX6 187 yX6_isSitter, Cond.instanceMethod yX6_isSitter, Cond.selects RX6 yX6_isSitter yX6_isSitter, Cond.initialized RX6, Cond.code yX6_isSitter cX6_isSitter 2 (some .boolean), Cond.fieldLink RX6 72 "GnatPortraitsModel" "sitters" "I", Cond.methodLink RX6 75 yX6_in, Cond.static yX6_in, Cond.code yX6_in cX6_in 6 (some .boolean), Cond.methodLink RX6 194 yX6_isWindow, Cond.instanceMethod yX6_isWindow, Cond.selects RX6 yX6_isWindow yX6_isWindow, Cond.code yX6_isWindow cX6_isWindow 2 (some .boolean), Cond.fieldLink RX6 79 "GnatPortraitsModel" "windows" "I", Cond.methodLink RX6 169 yX6_whoIsAt, Cond.instanceMethod yX6_whoIsAt, Cond.selects RX6 yX6_whoIsAt yX6_whoIsAt, Cond.code yX6_whoIsAt cX6_whoIsAt 4 (some .int), Cond.methodLink RX6 206 yX6_remember, Cond.instanceMethod yX6_remember, Cond.selects RX6 yX6_remember yX6_remember]
def wsX6_stand_r2 : List Cond := [Cond.code yX6_remember cX6_remember 2 none, Cond.fieldLink RX6 157 "GnatPortraitsModel" "undos" "I", Cond.fieldLink RX6 38 "GnatPortraitsModel" "past" "[I"]
def wsX6_stand : List Cond := .code yX6_stand cX6_stand 4 (some .int) :: ((wsX6_stand_r1 ++ wsX6_stand_r2) ++ wsX60)
def wsX6_go : List Cond := .code yX6_go cX6_go 3 (some .int) :: ([.constant RX6 190 (-1000000001), .fieldLink RX6 19 "GnatPortraitsModel" "now" "[I", .constant RX6 205 (-1000000003), .methodLink RX6 187 yX6_isSitter, .instanceMethod yX6_isSitter, .selects RX6 yX6_isSitter yX6_isSitter, .initialized RX6, .code yX6_isSitter cX6_isSitter 2 (some .boolean), .fieldLink RX6 72 "GnatPortraitsModel" "sitters" "I", .methodLink RX6 75 yX6_in, .static yX6_in, .code yX6_in cX6_in 6 (some .boolean), .methodLink RX6 206 yX6_remember, .instanceMethod yX6_remember, .selects RX6 yX6_remember yX6_remember, .code yX6_remember cX6_remember 2 none, .fieldLink RX6 157 "GnatPortraitsModel" "undos" "I", .fieldLink RX6 38 "GnatPortraitsModel" "past" "[I"] ++ wsX60)
def wsX6_lamp : List Cond := .code yX6_lamp cX6_lamp 4 (some .int) :: ([.constant RX6 190 (-1000000001), .constantLong RX6 164 (5), .constant RX6 84 (-1000000002), .fieldLink RX6 19 "GnatPortraitsModel" "now" "[I", .methodLink RX6 194 yX6_isWindow, .instanceMethod yX6_isWindow, .selects RX6 yX6_isWindow yX6_isWindow, .initialized RX6, .code yX6_isWindow cX6_isWindow 2 (some .boolean), .fieldLink RX6 79 "GnatPortraitsModel" "windows" "I", .methodLink RX6 75 yX6_in, .static yX6_in, .code yX6_in cX6_in 6 (some .boolean), .methodLink RX6 206 yX6_remember, .instanceMethod yX6_remember, .selects RX6 yX6_remember yX6_remember, .code yX6_remember cX6_remember 2 none, .fieldLink RX6 157 "GnatPortraitsModel" "undos" "I", .fieldLink RX6 38 "GnatPortraitsModel" "past" "[I"] ++ wsX60)
def wsX6_wind : List Cond := .code yX6_wind cX6_wind 3 (some .int) :: ([.constantLong RX6 209 (-3), .constantLong RX6 203 (3), .constant RX6 84 (-1000000002), .constant RX6 205 (-1000000003), .fieldLink RX6 19 "GnatPortraitsModel" "now" "[I", .methodLink RX6 75 yX6_in, .static yX6_in, .initialized RX6, .code yX6_in cX6_in 6 (some .boolean), .methodLink RX6 211 yX6_isCapital, .instanceMethod yX6_isCapital, .selects RX6 yX6_isCapital yX6_isCapital, .code yX6_isCapital cX6_isCapital 1 (some .boolean), .fieldLink RX6 66 "GnatPortraitsModel" "gnats" "I", .methodLink RX6 206 yX6_remember, .instanceMethod yX6_remember, .selects RX6 yX6_remember yX6_remember, .code yX6_remember cX6_remember 2 none, .fieldLink RX6 157 "GnatPortraitsModel" "undos" "I", .fieldLink RX6 38 "GnatPortraitsModel" "past" "[I"] ++ wsX60)
def wsX6_bats : List Cond := .code yX6_bats cX6_bats 3 (some .int) :: ([.constantLong RX6 215 (63), .constant RX6 84 (-1000000002), .constant RX6 205 (-1000000003), .fieldLink RX6 19 "GnatPortraitsModel" "now" "[I", .methodLink RX6 75 yX6_in, .static yX6_in, .initialized RX6, .code yX6_in cX6_in 6 (some .boolean), .methodLink RX6 211 yX6_isCapital, .instanceMethod yX6_isCapital, .selects RX6 yX6_isCapital yX6_isCapital, .code yX6_isCapital cX6_isCapital 1 (some .boolean), .fieldLink RX6 66 "GnatPortraitsModel" "gnats" "I", .methodLink RX6 206 yX6_remember, .instanceMethod yX6_remember, .selects RX6 yX6_remember yX6_remember, .code yX6_remember cX6_remember 2 none, .fieldLink RX6 157 "GnatPortraitsModel" "undos" "I", .fieldLink RX6 38 "GnatPortraitsModel" "past" "[I"] ++ wsX60)
def wsX6_eye : List Cond := .code yX6_eye cX6_eye 2 (some .int) :: ([.constantLong RX6 217 (29), .constant RX6 84 (-1000000002), .constant RX6 205 (-1000000003), .fieldLink RX6 19 "GnatPortraitsModel" "now" "[I", .methodLink RX6 75 yX6_in, .static yX6_in, .initialized RX6, .code yX6_in cX6_in 6 (some .boolean), .methodLink RX6 211 yX6_isCapital, .instanceMethod yX6_isCapital, .selects RX6 yX6_isCapital yX6_isCapital, .code yX6_isCapital cX6_isCapital 1 (some .boolean), .fieldLink RX6 66 "GnatPortraitsModel" "gnats" "I", .methodLink RX6 206 yX6_remember, .instanceMethod yX6_remember, .selects RX6 yX6_remember yX6_remember, .code yX6_remember cX6_remember 2 none, .fieldLink RX6 157 "GnatPortraitsModel" "undos" "I", .fieldLink RX6 38 "GnatPortraitsModel" "past" "[I"] ++ wsX60)
def wsX6_rain : List Cond := .code yX6_rain cX6_rain 3 (some .int) :: ([.constant RX6 205 (-1000000003), .fieldLink RX6 19 "GnatPortraitsModel" "now" "[I", .methodLink RX6 211 yX6_isCapital, .instanceMethod yX6_isCapital, .selects RX6 yX6_isCapital yX6_isCapital, .initialized RX6, .code yX6_isCapital cX6_isCapital 1 (some .boolean), .fieldLink RX6 66 "GnatPortraitsModel" "gnats" "I", .methodLink RX6 206 yX6_remember, .instanceMethod yX6_remember, .selects RX6 yX6_remember yX6_remember, .code yX6_remember cX6_remember 2 none, .fieldLink RX6 157 "GnatPortraitsModel" "undos" "I", .fieldLink RX6 38 "GnatPortraitsModel" "past" "[I"] ++ wsX60)
def wsX6_smoke : List Cond := .code yX6_smoke cX6_smoke 4 (some .int) :: ([.constant RX6 190 (-1000000001), .fieldLink RX6 19 "GnatPortraitsModel" "now" "[I", .methodLink RX6 194 yX6_isWindow, .instanceMethod yX6_isWindow, .selects RX6 yX6_isWindow yX6_isWindow, .initialized RX6, .code yX6_isWindow cX6_isWindow 2 (some .boolean), .fieldLink RX6 79 "GnatPortraitsModel" "windows" "I", .methodLink RX6 75 yX6_in, .static yX6_in, .code yX6_in cX6_in 6 (some .boolean), .methodLink RX6 206 yX6_remember, .instanceMethod yX6_remember, .selects RX6 yX6_remember yX6_remember, .code yX6_remember cX6_remember 2 none, .fieldLink RX6 157 "GnatPortraitsModel" "undos" "I", .fieldLink RX6 38 "GnatPortraitsModel" "past" "[I"] ++ wsX60)
def wsX6_press_r1 : List Cond := [Cond.constantLong RX6 203 (3), Cond.constant RX6 190 (-1000000001), Cond.fieldLink RX6 19 "GnatPortraitsModel" "now" "[I", Cond.methodLink RX6 75 yX6_in, Cond.static yX6_in, Cond.initialized RX6, Cond.code yX6_in cX6_in 6 (some .boolean), Cond.methodLink RX6 194 yX6_isWindow, Cond.instanceMethod yX6_isWindow, Cond.selects RX6 yX6_isWindow yX6_isWindow, Cond.code yX6_isWindow cX6_isWindow 2 (some .boolean), Cond.fieldLink RX6 79 "GnatPortraitsModel" "windows" "I", Cond.methodLink RX6 206 yX6_remember, Cond.instanceMethod yX6_remember, Cond.selects RX6 yX6_remember yX6_remember, Cond.code yX6_remember cX6_remember 2 none, Cond.fieldLink RX6 157 "GnatPortraitsModel" "undos" "I", Cond.fieldLink RX6 38 "GnatPortraitsModel" "past" "[I", Cond.methodLink RX6 175 yX6_drawnAt, Cond.instanceMethod yX6_drawnAt, Cond.selects RX6 yX6_drawnAt yX6_drawnAt, Cond.code yX6_drawnAt cX6_drawnAt 3 (some .int), Cond.methodLink RX6 169 yX6_whoIsAt, Cond.instanceMethod yX6_whoIsAt]
def wsX6_press_r2 : List Cond := [Cond.selects RX6 yX6_whoIsAt yX6_whoIsAt, Cond.code yX6_whoIsAt cX6_whoIsAt 4 (some .int), Cond.fieldLink RX6 72 "GnatPortraitsModel" "sitters" "I", Cond.methodLink RX6 160 yX6_has, Cond.static yX6_has, Cond.code yX6_has cX6_has 2 (some .boolean), Cond.methodLink RX6 172 yX6_drawnBy, Cond.instanceMethod yX6_drawnBy, Cond.selects RX6 yX6_drawnBy yX6_drawnBy, Cond.code yX6_drawnBy cX6_drawnBy 8 (some .int), Cond.fieldLink RX6 7 "GnatPortraitsModel" "outline" "[I", Cond.fieldLink RX6 66 "GnatPortraitsModel" "gnats" "I", Cond.methodLink RX6 166 yX6_shifted, Cond.static yX6_shifted, Cond.code yX6_shifted cX6_shifted 5 (some .int), Cond.constantLong RX6 164 (5)]
def wsX6_press : List Cond := .code yX6_press cX6_press 4 (some .int) :: ((wsX6_press_r1 ++ wsX6_press_r2) ++ wsX60)
def wsX6_keepsOne : List Cond := .code yX6_keepsOne cX6_keepsOne 5 none :: ([.fieldLink RX6 19 "GnatPortraitsModel" "now" "[I"] ++ wsX60)
def wsX6_passes_r1 : List Cond := [Cond.fieldLink RX6 79 "GnatPortraitsModel" "windows" "I", Cond.fieldLink RX6 19 "GnatPortraitsModel" "now" "[I", Cond.methodLink RX6 175 yX6_drawnAt, Cond.instanceMethod yX6_drawnAt, Cond.selects RX6 yX6_drawnAt yX6_drawnAt, Cond.initialized RX6, Cond.code yX6_drawnAt cX6_drawnAt 3 (some .int), Cond.methodLink RX6 169 yX6_whoIsAt, Cond.instanceMethod yX6_whoIsAt, Cond.selects RX6 yX6_whoIsAt yX6_whoIsAt, Cond.code yX6_whoIsAt cX6_whoIsAt 4 (some .int), Cond.fieldLink RX6 72 "GnatPortraitsModel" "sitters" "I", Cond.methodLink RX6 160 yX6_has, Cond.static yX6_has, Cond.code yX6_has cX6_has 2 (some .boolean), Cond.methodLink RX6 172 yX6_drawnBy, Cond.instanceMethod yX6_drawnBy, Cond.selects RX6 yX6_drawnBy yX6_drawnBy, Cond.code yX6_drawnBy cX6_drawnBy 8 (some .int), Cond.fieldLink RX6 7 "GnatPortraitsModel" "outline" "[I", Cond.fieldLink RX6 66 "GnatPortraitsModel" "gnats" "I", Cond.methodLink RX6 166 yX6_shifted, Cond.static yX6_shifted, Cond.code yX6_shifted cX6_shifted 5 (some .int)]
def wsX6_passes_r2 : List Cond := [Cond.constantLong RX6 164 (5), Cond.methodLink RX6 75 yX6_in, Cond.static yX6_in, Cond.code yX6_in cX6_in 6 (some .boolean), Cond.methodLink RX6 219 yX6_keepsOne, Cond.instanceMethod yX6_keepsOne, Cond.selects RX6 yX6_keepsOne yX6_keepsOne, Cond.code yX6_keepsOne cX6_keepsOne 5 none]
def wsX6_passes : List Cond := .code yX6_passes cX6_passes 3 none :: ((wsX6_passes_r1 ++ wsX6_passes_r2) ++ wsX60)
def wsX6_dusksRefused : List Cond := .code yX6_dusksRefused cX6_dusksRefused 2 (some .int) :: ([.constantLong RX6 223 (60), .constant RX6 84 (-1000000002), .constant RX6 205 (-1000000003), .fieldLink RX6 19 "GnatPortraitsModel" "now" "[I", .constant RX6 88 (-1000000004), .methodLink RX6 75 yX6_in, .static yX6_in, .initialized RX6, .code yX6_in cX6_in 6 (some .boolean), .methodLink RX6 211 yX6_isCapital, .instanceMethod yX6_isCapital, .selects RX6 yX6_isCapital yX6_isCapital, .code yX6_isCapital cX6_isCapital 1 (some .boolean), .fieldLink RX6 66 "GnatPortraitsModel" "gnats" "I"] ++ wsX60)
def wsX6_dusk_r1 : List Cond := [Cond.fieldLink RX6 19 "GnatPortraitsModel" "now" "[I", Cond.methodLink RX6 225 yX6_dusksRefused, Cond.instanceMethod yX6_dusksRefused, Cond.selects RX6 yX6_dusksRefused yX6_dusksRefused, Cond.initialized RX6, Cond.code yX6_dusksRefused cX6_dusksRefused 2 (some .int), Cond.constantLong RX6 223 (60), Cond.constant RX6 84 (-1000000002), Cond.constant RX6 205 (-1000000003), Cond.constant RX6 88 (-1000000004), Cond.methodLink RX6 75 yX6_in, Cond.static yX6_in, Cond.code yX6_in cX6_in 6 (some .boolean), Cond.methodLink RX6 211 yX6_isCapital, Cond.instanceMethod yX6_isCapital, Cond.selects RX6 yX6_isCapital yX6_isCapital, Cond.code yX6_isCapital cX6_isCapital 1 (some .boolean), Cond.fieldLink RX6 66 "GnatPortraitsModel" "gnats" "I", Cond.methodLink RX6 206 yX6_remember, Cond.instanceMethod yX6_remember, Cond.selects RX6 yX6_remember yX6_remember, Cond.code yX6_remember cX6_remember 2 none, Cond.fieldLink RX6 157 "GnatPortraitsModel" "undos" "I", Cond.fieldLink RX6 38 "GnatPortraitsModel" "past" "[I"]
def wsX6_dusk_r2 : List Cond := [Cond.methodLink RX6 228 yX6_passes, Cond.instanceMethod yX6_passes, Cond.selects RX6 yX6_passes yX6_passes, Cond.code yX6_passes cX6_passes 3 none, Cond.fieldLink RX6 79 "GnatPortraitsModel" "windows" "I", Cond.methodLink RX6 175 yX6_drawnAt, Cond.instanceMethod yX6_drawnAt, Cond.selects RX6 yX6_drawnAt yX6_drawnAt, Cond.code yX6_drawnAt cX6_drawnAt 3 (some .int), Cond.methodLink RX6 169 yX6_whoIsAt, Cond.instanceMethod yX6_whoIsAt, Cond.selects RX6 yX6_whoIsAt yX6_whoIsAt, Cond.code yX6_whoIsAt cX6_whoIsAt 4 (some .int), Cond.fieldLink RX6 72 "GnatPortraitsModel" "sitters" "I", Cond.methodLink RX6 160 yX6_has, Cond.static yX6_has, Cond.code yX6_has cX6_has 2 (some .boolean), Cond.methodLink RX6 172 yX6_drawnBy, Cond.instanceMethod yX6_drawnBy, Cond.selects RX6 yX6_drawnBy yX6_drawnBy, Cond.code yX6_drawnBy cX6_drawnBy 8 (some .int), Cond.fieldLink RX6 7 "GnatPortraitsModel" "outline" "[I", Cond.methodLink RX6 166 yX6_shifted, Cond.static yX6_shifted]
def wsX6_dusk_r3 : List Cond := [Cond.code yX6_shifted cX6_shifted 5 (some .int), Cond.constantLong RX6 164 (5), Cond.methodLink RX6 219 yX6_keepsOne, Cond.instanceMethod yX6_keepsOne, Cond.selects RX6 yX6_keepsOne yX6_keepsOne, Cond.code yX6_keepsOne cX6_keepsOne 5 none]
def wsX6_dusk : List Cond := .code yX6_dusk cX6_dusk 4 (some .int) :: ((wsX6_dusk_r1 ++ (wsX6_dusk_r2 ++ wsX6_dusk_r3)) ++ wsX60)
def wsX6_draw : List Cond := .code yX6_draw cX6_draw 2 (some .int) :: ([.fieldLink RX6 231 "GnatPortraitsModel" "seed" "I", .constantLong RX6 234 (1103515245), .constantLong RX6 236 (12345), .constantLong RX6 238 (2147483648), .constant RX6 240 (65536)] ++ wsX60)
def wsX6_chance : List Cond := .code yX6_chance cX6_chance 4 none :: ([.fieldLink RX6 19 "GnatPortraitsModel" "now" "[I", .fieldLink RX6 72 "GnatPortraitsModel" "sitters" "I", .fieldLink RX6 79 "GnatPortraitsModel" "windows" "I", .methodLink RX6 241 yX6_draw, .instanceMethod yX6_draw, .selects RX6 yX6_draw yX6_draw, .initialized RX6, .code yX6_draw cX6_draw 2 (some .int), .fieldLink RX6 231 "GnatPortraitsModel" "seed" "I", .constantLong RX6 234 (1103515245), .constantLong RX6 236 (12345), .constantLong RX6 238 (2147483648), .constant RX6 240 (65536), .methodLink RX6 169 yX6_whoIsAt, .instanceMethod yX6_whoIsAt, .selects RX6 yX6_whoIsAt yX6_whoIsAt, .code yX6_whoIsAt cX6_whoIsAt 4 (some .int)] ++ wsX60)
def wsX6_drift_r1 : List Cond := [Cond.fieldLink RX6 19 "GnatPortraitsModel" "now" "[I", Cond.methodLink RX6 225 yX6_dusksRefused, Cond.instanceMethod yX6_dusksRefused, Cond.selects RX6 yX6_dusksRefused yX6_dusksRefused, Cond.initialized RX6, Cond.code yX6_dusksRefused cX6_dusksRefused 2 (some .int), Cond.constantLong RX6 223 (60), Cond.constant RX6 84 (-1000000002), Cond.constant RX6 205 (-1000000003), Cond.constant RX6 88 (-1000000004), Cond.methodLink RX6 75 yX6_in, Cond.static yX6_in, Cond.code yX6_in cX6_in 6 (some .boolean), Cond.methodLink RX6 211 yX6_isCapital, Cond.instanceMethod yX6_isCapital, Cond.selects RX6 yX6_isCapital yX6_isCapital, Cond.code yX6_isCapital cX6_isCapital 1 (some .boolean), Cond.fieldLink RX6 66 "GnatPortraitsModel" "gnats" "I", Cond.methodLink RX6 206 yX6_remember, Cond.instanceMethod yX6_remember, Cond.selects RX6 yX6_remember yX6_remember, Cond.code yX6_remember cX6_remember 2 none, Cond.fieldLink RX6 157 "GnatPortraitsModel" "undos" "I", Cond.fieldLink RX6 38 "GnatPortraitsModel" "past" "[I"]
def wsX6_drift_r2 : List Cond := [Cond.methodLink RX6 244 yX6_chance, Cond.instanceMethod yX6_chance, Cond.selects RX6 yX6_chance yX6_chance, Cond.code yX6_chance cX6_chance 4 none, Cond.fieldLink RX6 72 "GnatPortraitsModel" "sitters" "I", Cond.fieldLink RX6 79 "GnatPortraitsModel" "windows" "I", Cond.methodLink RX6 241 yX6_draw, Cond.instanceMethod yX6_draw, Cond.selects RX6 yX6_draw yX6_draw, Cond.code yX6_draw cX6_draw 2 (some .int), Cond.fieldLink RX6 231 "GnatPortraitsModel" "seed" "I", Cond.constantLong RX6 234 (1103515245), Cond.constantLong RX6 236 (12345), Cond.constantLong RX6 238 (2147483648), Cond.constant RX6 240 (65536), Cond.methodLink RX6 169 yX6_whoIsAt, Cond.instanceMethod yX6_whoIsAt, Cond.selects RX6 yX6_whoIsAt yX6_whoIsAt, Cond.code yX6_whoIsAt cX6_whoIsAt 4 (some .int), Cond.methodLink RX6 228 yX6_passes, Cond.instanceMethod yX6_passes, Cond.selects RX6 yX6_passes yX6_passes, Cond.code yX6_passes cX6_passes 3 none, Cond.methodLink RX6 175 yX6_drawnAt]
def wsX6_drift_r3 : List Cond := [Cond.instanceMethod yX6_drawnAt, Cond.selects RX6 yX6_drawnAt yX6_drawnAt, Cond.code yX6_drawnAt cX6_drawnAt 3 (some .int), Cond.methodLink RX6 160 yX6_has, Cond.static yX6_has, Cond.code yX6_has cX6_has 2 (some .boolean), Cond.methodLink RX6 172 yX6_drawnBy, Cond.instanceMethod yX6_drawnBy, Cond.selects RX6 yX6_drawnBy yX6_drawnBy, Cond.code yX6_drawnBy cX6_drawnBy 8 (some .int), Cond.fieldLink RX6 7 "GnatPortraitsModel" "outline" "[I", Cond.methodLink RX6 166 yX6_shifted, Cond.static yX6_shifted, Cond.code yX6_shifted cX6_shifted 5 (some .int), Cond.constantLong RX6 164 (5), Cond.methodLink RX6 219 yX6_keepsOne, Cond.instanceMethod yX6_keepsOne, Cond.selects RX6 yX6_keepsOne yX6_keepsOne, Cond.code yX6_keepsOne cX6_keepsOne 5 none]
def wsX6_drift : List Cond := .code yX6_drift cX6_drift 4 (some .int) :: ((wsX6_drift_r1 ++ (wsX6_drift_r2 ++ wsX6_drift_r3)) ++ wsX60)
def wsX6_undo : List Cond := .code yX6_undo cX6_undo 2 (some .int) :: ([.fieldLink RX6 157 "GnatPortraitsModel" "undos" "I", .constant RX6 205 (-1000000003), .fieldLink RX6 19 "GnatPortraitsModel" "now" "[I", .fieldLink RX6 38 "GnatPortraitsModel" "past" "[I"] ++ wsX60)
def wsX6_like : List Cond := .code yX6_like cX6_like 3 (some .int) :: ([.constant RX6 190 (-1000000001), .constantLong RX6 247 (1073741823), .constant RX6 84 (-1000000002), .methodLink RX6 187 yX6_isSitter, .instanceMethod yX6_isSitter, .selects RX6 yX6_isSitter yX6_isSitter, .initialized RX6, .code yX6_isSitter cX6_isSitter 2 (some .boolean), .fieldLink RX6 72 "GnatPortraitsModel" "sitters" "I", .methodLink RX6 75 yX6_in, .static yX6_in, .code yX6_in cX6_in 6 (some .boolean), .methodLink RX6 249 yX6_likeBy, .instanceMethod yX6_likeBy, .selects RX6 yX6_likeBy yX6_likeBy, .code yX6_likeBy cX6_likeBy 3 (some .int), .fieldLink RX6 7 "GnatPortraitsModel" "outline" "[I", .methodLink RX6 178 yX6_ones, .static yX6_ones, .code yX6_ones cX6_ones 3 (some .int)] ++ wsX60)
def wsX6_seenAs : List Cond := .code yX6_seenAs cX6_seenAs 2 (some .int) :: ([.constantLong RX6 247 (1073741823), .constant RX6 197 (1073741823), .constant RX6 84 (-1000000002), .methodLink RX6 75 yX6_in, .static yX6_in, .initialized RX6, .code yX6_in cX6_in 6 (some .boolean), .methodLink RX6 198 yX6_mostLike, .instanceMethod yX6_mostLike, .selects RX6 yX6_mostLike yX6_mostLike, .code yX6_mostLike cX6_mostLike 7 (some .int), .fieldLink RX6 72 "GnatPortraitsModel" "sitters" "I", .fieldLink RX6 7 "GnatPortraitsModel" "outline" "[I", .methodLink RX6 178 yX6_ones, .static yX6_ones, .code yX6_ones cX6_ones 3 (some .int)] ++ wsX60)
def wsX6_bestLamp_r1 : List Cond := [Cond.constant RX6 190 (-1000000001), Cond.constant RX6 84 (-1000000002), Cond.fieldLink RX6 19 "GnatPortraitsModel" "now" "[I", Cond.methodLink RX6 194 yX6_isWindow, Cond.instanceMethod yX6_isWindow, Cond.selects RX6 yX6_isWindow yX6_isWindow, Cond.initialized RX6, Cond.code yX6_isWindow cX6_isWindow 2 (some .boolean), Cond.fieldLink RX6 79 "GnatPortraitsModel" "windows" "I", Cond.methodLink RX6 75 yX6_in, Cond.static yX6_in, Cond.code yX6_in cX6_in 6 (some .boolean), Cond.methodLink RX6 187 yX6_isSitter, Cond.instanceMethod yX6_isSitter, Cond.selects RX6 yX6_isSitter yX6_isSitter, Cond.code yX6_isSitter cX6_isSitter 2 (some .boolean), Cond.fieldLink RX6 72 "GnatPortraitsModel" "sitters" "I", Cond.methodLink RX6 172 yX6_drawnBy, Cond.instanceMethod yX6_drawnBy, Cond.selects RX6 yX6_drawnBy yX6_drawnBy, Cond.code yX6_drawnBy cX6_drawnBy 8 (some .int), Cond.fieldLink RX6 7 "GnatPortraitsModel" "outline" "[I", Cond.fieldLink RX6 66 "GnatPortraitsModel" "gnats" "I", Cond.methodLink RX6 166 yX6_shifted]
def wsX6_bestLamp_r2 : List Cond := [Cond.static yX6_shifted, Cond.code yX6_shifted cX6_shifted 5 (some .int), Cond.constantLong RX6 164 (5), Cond.methodLink RX6 160 yX6_has, Cond.static yX6_has, Cond.code yX6_has cX6_has 2 (some .boolean), Cond.methodLink RX6 249 yX6_likeBy, Cond.instanceMethod yX6_likeBy, Cond.selects RX6 yX6_likeBy yX6_likeBy, Cond.code yX6_likeBy cX6_likeBy 3 (some .int), Cond.methodLink RX6 178 yX6_ones, Cond.static yX6_ones, Cond.code yX6_ones cX6_ones 3 (some .int)]
def wsX6_bestLamp : List Cond := .code yX6_bestLamp cX6_bestLamp 8 (some .int) :: ((wsX6_bestLamp_r1 ++ wsX6_bestLamp_r2) ++ wsX60)
def wsX6_who : List Cond := .code yX6_who cX6_who 8 (some .int) :: ([.constantLong RX6 247 (1073741823), .constantLong RX6 201 (2), .constant RX6 84 (-1000000002), .fieldLink RX6 72 "GnatPortraitsModel" "sitters" "I", .fieldLink RX6 7 "GnatPortraitsModel" "outline" "[I", .methodLink RX6 75 yX6_in, .static yX6_in, .initialized RX6, .code yX6_in cX6_in 6 (some .boolean), .methodLink RX6 166 yX6_shifted, .static yX6_shifted, .code yX6_shifted cX6_shifted 5 (some .int), .constantLong RX6 164 (5), .methodLink RX6 160 yX6_has, .static yX6_has, .code yX6_has cX6_has 2 (some .boolean)] ++ wsX60)
def wsX6_parted : List Cond := .code yX6_parted cX6_parted 8 (some .int) :: ([.constantLong RX6 247 (1073741823), .constant RX6 84 (-1000000002), .fieldLink RX6 72 "GnatPortraitsModel" "sitters" "I", .fieldLink RX6 7 "GnatPortraitsModel" "outline" "[I", .methodLink RX6 75 yX6_in, .static yX6_in, .initialized RX6, .code yX6_in cX6_in 6 (some .boolean), .methodLink RX6 166 yX6_shifted, .static yX6_shifted, .code yX6_shifted cX6_shifted 5 (some .int), .constantLong RX6 164 (5), .methodLink RX6 160 yX6_has, .static yX6_has, .code yX6_has cX6_has 2 (some .boolean)] ++ wsX60)
def wsX6_bestPlaces : List Cond := .code yX6_bestPlaces cX6_bestPlaces 8 (some .int) :: ([.fieldLink RX6 79 "GnatPortraitsModel" "windows" "I", .fieldLink RX6 72 "GnatPortraitsModel" "sitters" "I", .fieldLink RX6 47 "GnatPortraitsModel" "dotsBy" "[I", .fieldLink RX6 19 "GnatPortraitsModel" "now" "[I", .fieldLink RX6 41 "GnatPortraitsModel" "tried" "[I", .fieldLink RX6 44 "GnatPortraitsModel" "best" "[I", .methodLink RX6 172 yX6_drawnBy, .instanceMethod yX6_drawnBy, .selects RX6 yX6_drawnBy yX6_drawnBy, .initialized RX6, .code yX6_drawnBy cX6_drawnBy 8 (some .int), .fieldLink RX6 7 "GnatPortraitsModel" "outline" "[I", .fieldLink RX6 66 "GnatPortraitsModel" "gnats" "I", .methodLink RX6 166 yX6_shifted, .static yX6_shifted, .code yX6_shifted cX6_shifted 5 (some .int), .constantLong RX6 164 (5), .methodLink RX6 160 yX6_has, .static yX6_has, .code yX6_has cX6_has 2 (some .boolean), .methodLink RX6 75 yX6_in, .static yX6_in, .code yX6_in cX6_in 6 (some .boolean)] ++ wsX60)
def wsX6_places_r1 : List Cond := [Cond.constant RX6 190 (-1000000001), Cond.fieldLink RX6 44 "GnatPortraitsModel" "best" "[I", Cond.methodLink RX6 194 yX6_isWindow, Cond.instanceMethod yX6_isWindow, Cond.selects RX6 yX6_isWindow yX6_isWindow, Cond.initialized RX6, Cond.code yX6_isWindow cX6_isWindow 2 (some .boolean), Cond.fieldLink RX6 79 "GnatPortraitsModel" "windows" "I", Cond.methodLink RX6 75 yX6_in, Cond.static yX6_in, Cond.code yX6_in cX6_in 6 (some .boolean), Cond.methodLink RX6 252 yX6_bestPlaces, Cond.instanceMethod yX6_bestPlaces, Cond.selects RX6 yX6_bestPlaces yX6_bestPlaces, Cond.code yX6_bestPlaces cX6_bestPlaces 8 (some .int), Cond.fieldLink RX6 72 "GnatPortraitsModel" "sitters" "I", Cond.fieldLink RX6 47 "GnatPortraitsModel" "dotsBy" "[I", Cond.fieldLink RX6 19 "GnatPortraitsModel" "now" "[I", Cond.fieldLink RX6 41 "GnatPortraitsModel" "tried" "[I", Cond.methodLink RX6 172 yX6_drawnBy, Cond.instanceMethod yX6_drawnBy, Cond.selects RX6 yX6_drawnBy yX6_drawnBy, Cond.code yX6_drawnBy cX6_drawnBy 8 (some .int), Cond.fieldLink RX6 7 "GnatPortraitsModel" "outline" "[I"]
def wsX6_places_r2 : List Cond := [Cond.fieldLink RX6 66 "GnatPortraitsModel" "gnats" "I", Cond.methodLink RX6 166 yX6_shifted, Cond.static yX6_shifted, Cond.code yX6_shifted cX6_shifted 5 (some .int), Cond.constantLong RX6 164 (5), Cond.methodLink RX6 160 yX6_has, Cond.static yX6_has, Cond.code yX6_has cX6_has 2 (some .boolean)]
def wsX6_places : List Cond := .code yX6_places cX6_places 3 (some .int) :: ((wsX6_places_r1 ++ wsX6_places_r2) ++ wsX60)
def wsX6_apart : List Cond := .code yX6_apart cX6_apart 5 (some .int) :: ([.constant RX6 190 (-1000000001), .fieldLink RX6 7 "GnatPortraitsModel" "outline" "[I", .constant RX6 84 (-1000000002), .methodLink RX6 187 yX6_isSitter, .instanceMethod yX6_isSitter, .selects RX6 yX6_isSitter yX6_isSitter, .initialized RX6, .code yX6_isSitter cX6_isSitter 2 (some .boolean), .fieldLink RX6 72 "GnatPortraitsModel" "sitters" "I", .methodLink RX6 75 yX6_in, .static yX6_in, .code yX6_in cX6_in 6 (some .boolean), .methodLink RX6 178 yX6_ones, .static yX6_ones, .code yX6_ones cX6_ones 3 (some .int)] ++ wsX60)
def wsX6_isHole : List Cond := .code yX6_isHole cX6_isHole 4 (some .boolean) :: ([.methodLink RX6 160 yX6_has, .static yX6_has, .initialized RX6, .code yX6_has cX6_has 2 (some .boolean)])
def wsX6_turned : List Cond := .code yX6_turned cX6_turned 6 (some .int) :: ([.constantLong RX6 247 (1073741823), .constant RX6 84 (-1000000002), .methodLink RX6 75 yX6_in, .static yX6_in, .initialized RX6, .code yX6_in cX6_in 6 (some .boolean), .methodLink RX6 255 yX6_isHole, .static yX6_isHole, .code yX6_isHole cX6_isHole 4 (some .boolean), .methodLink RX6 160 yX6_has, .static yX6_has, .code yX6_has cX6_has 2 (some .boolean)])
def wsX6_maskOf : List Cond := .code yX6_maskOf cX6_maskOf 3 (some .int) :: ([.methodLink RX6 160 yX6_has, .static yX6_has, .initialized RX6, .code yX6_has cX6_has 2 (some .boolean)])
def wsX6_votesFor : List Cond := .code yX6_votesFor cX6_votesFor 5 (some .int) :: ([.fieldLink RX6 145 "GnatPortraitsModel" "critics" "I", .fieldLink RX6 16 "GnatPortraitsModel" "looks" "[I", .methodLink RX6 258 yX6_maskOf, .static yX6_maskOf, .initialized RX6, .code yX6_maskOf cX6_maskOf 3 (some .int), .methodLink RX6 160 yX6_has, .static yX6_has, .code yX6_has cX6_has 2 (some .boolean), .methodLink RX6 198 yX6_mostLike, .instanceMethod yX6_mostLike, .selects RX6 yX6_mostLike yX6_mostLike, .code yX6_mostLike cX6_mostLike 7 (some .int), .fieldLink RX6 72 "GnatPortraitsModel" "sitters" "I", .fieldLink RX6 7 "GnatPortraitsModel" "outline" "[I", .methodLink RX6 178 yX6_ones, .static yX6_ones, .code yX6_ones cX6_ones 3 (some .int)] ++ wsX60)
def wsX6_votes_r1 : List Cond := [Cond.constant RX6 190 (-1000000001), Cond.constantLong RX6 247 (1073741823), Cond.constant RX6 84 (-1000000002), Cond.fieldLink RX6 72 "GnatPortraitsModel" "sitters" "I", Cond.methodLink RX6 187 yX6_isSitter, Cond.instanceMethod yX6_isSitter, Cond.selects RX6 yX6_isSitter yX6_isSitter, Cond.initialized RX6, Cond.code yX6_isSitter cX6_isSitter 2 (some .boolean), Cond.methodLink RX6 75 yX6_in, Cond.static yX6_in, Cond.code yX6_in cX6_in 6 (some .boolean), Cond.methodLink RX6 261 yX6_votesFor, Cond.instanceMethod yX6_votesFor, Cond.selects RX6 yX6_votesFor yX6_votesFor, Cond.code yX6_votesFor cX6_votesFor 5 (some .int), Cond.fieldLink RX6 145 "GnatPortraitsModel" "critics" "I", Cond.fieldLink RX6 16 "GnatPortraitsModel" "looks" "[I", Cond.methodLink RX6 258 yX6_maskOf, Cond.static yX6_maskOf, Cond.code yX6_maskOf cX6_maskOf 3 (some .int), Cond.methodLink RX6 160 yX6_has, Cond.static yX6_has, Cond.code yX6_has cX6_has 2 (some .boolean)]
def wsX6_votes_r2 : List Cond := [Cond.methodLink RX6 198 yX6_mostLike, Cond.instanceMethod yX6_mostLike, Cond.selects RX6 yX6_mostLike yX6_mostLike, Cond.code yX6_mostLike cX6_mostLike 7 (some .int), Cond.fieldLink RX6 7 "GnatPortraitsModel" "outline" "[I", Cond.methodLink RX6 178 yX6_ones, Cond.static yX6_ones, Cond.code yX6_ones cX6_ones 3 (some .int)]
def wsX6_votes : List Cond := .code yX6_votes cX6_votes 7 (some .int) :: ((wsX6_votes_r1 ++ wsX6_votes_r2) ++ wsX60)
def wsX6_clear : List Cond := .code yX6_clear cX6_clear 6 (some .int) :: ([.constantLong RX6 223 (60), .constantLong RX6 264 (100), .constant RX6 84 (-1000000002), .constantLong RX6 266 (1000000000), .methodLink RX6 75 yX6_in, .static yX6_in, .initialized RX6, .code yX6_in cX6_in 6 (some .boolean)])
def wsX6_tellOf : List Cond := .code yX6_tellOf cX6_tellOf 3 (some .int) :: ([.constantLong RX6 217 (29), .constant RX6 84 (-1000000002), .fieldLink RX6 154 "GnatPortraitsModel" "toldOf" "I", .constant RX6 88 (-1000000004), .fieldLink RX6 50 "GnatPortraitsModel" "dotTold" "[I", .fieldLink RX6 53 "GnatPortraitsModel" "isTold" "[I", .methodLink RX6 75 yX6_in, .static yX6_in, .initialized RX6, .code yX6_in cX6_in 6 (some .boolean)] ++ wsX60)
def wsX6_ask : List Cond := .code yX6_ask cX6_ask 6 (some .int) :: ([.fieldLink RX6 56 "GnatPortraitsModel" "having" "[I", .fieldLink RX6 72 "GnatPortraitsModel" "sitters" "I", .fieldLink RX6 7 "GnatPortraitsModel" "outline" "[I", .methodLink RX6 166 yX6_shifted, .static yX6_shifted, .initialized RX6, .code yX6_shifted cX6_shifted 5 (some .int), .constantLong RX6 164 (5), .methodLink RX6 160 yX6_has, .static yX6_has, .code yX6_has cX6_has 2 (some .boolean), .methodLink RX6 75 yX6_in, .static yX6_in, .code yX6_in cX6_in 6 (some .boolean), .methodLink RX6 268 yX6_isSo, .instanceMethod yX6_isSo, .selects RX6 yX6_isSo yX6_isSo, .code yX6_isSo cX6_isSo 4 (some .boolean), .fieldLink RX6 154 "GnatPortraitsModel" "toldOf" "I", .fieldLink RX6 50 "GnatPortraitsModel" "dotTold" "[I", .fieldLink RX6 53 "GnatPortraitsModel" "isTold" "[I"] ++ wsX60)
def wsX6_tear : List Cond := .code yX6_tear cX6_tear 2 (some .int) :: ([.fieldLink RX6 154 "GnatPortraitsModel" "toldOf" "I"] ++ wsX60)
def wsX6_seed : List Cond := .code yX6_seed cX6_seed 3 (some .int) :: ([.constant RX6 84 (-1000000002), .fieldLink RX6 231 "GnatPortraitsModel" "seed" "I"] ++ wsX60)
def wsX6_keep : List Cond := .code yX6_keep cX6_keep 3 (some .int) :: ([.constant RX6 190 (-1000000001), .fieldLink RX6 59 "GnatPortraitsModel" "images" "[I", .fieldLink RX6 19 "GnatPortraitsModel" "now" "[I", .fieldLink RX6 231 "GnatPortraitsModel" "seed" "I", .fieldLink RX6 62 "GnatPortraitsModel" "isKept" "[Z", .fieldLink RX6 157 "GnatPortraitsModel" "undos" "I", .methodLink RX6 75 yX6_in, .static yX6_in, .initialized RX6, .code yX6_in cX6_in 6 (some .boolean)] ++ wsX60)
def wsX6_goBack : List Cond := .code yX6_goBack cX6_goBack 3 (some .int) :: ([.constant RX6 190 (-1000000001), .fieldLink RX6 62 "GnatPortraitsModel" "isKept" "[Z", .constant RX6 205 (-1000000003), .fieldLink RX6 19 "GnatPortraitsModel" "now" "[I", .fieldLink RX6 59 "GnatPortraitsModel" "images" "[I", .fieldLink RX6 231 "GnatPortraitsModel" "seed" "I", .fieldLink RX6 157 "GnatPortraitsModel" "undos" "I", .methodLink RX6 75 yX6_in, .static yX6_in, .initialized RX6, .code yX6_in cX6_in 6 (some .boolean)] ++ wsX60)
def wsJ9_max_7cf53 : List Cond := .code yJ9_max_7cf53 cJ9_max_7cf53 2 (some .int) :: ([])
def wsJ9_min_7cf53 : List Cond := .code yJ9_min_7cf53 cJ9_min_7cf53 2 (some .int) :: ([])
abbrev vwCl : List vw_C := [(RX0, TX0, 8), (RX1, TX1, 14), (RX2, TX2, 3), (RX3, TX3, 6), (RX4, TX4, 6), (RX5, TX5, 13), (RX6, TX6, 33)]
end
section
/-! the judgement Z: a frame at pc, with known locals and stack, over a world X of cells; contracts over whole worlds; a row an instruction -/
def zNF : List (String × Nat × String × String × String × String) := [("GnatPortraits$Reader", 56, "GnatPortraits$Capital", "isTold", "Z", "GnatPortraits"), ("GnatPortraits", 200, "GnatPortraits$Capital", "isTold", "Z", "GnatPortraits"), ("GnatPortraits$Reader", 64, "GnatPortraits$Capital", "gnats", "I", "GnatPortraits"), ("GnatPortraits", 97, "GnatPortraits$Capital", "gnats", "I", "GnatPortraits"), ("GnatPortraits$Placing", 21, "GnatPortraits$Capital", "sitters", "I", "GnatPortraits"), ("GnatPortraits", 91, "GnatPortraits$Capital", "sitters", "I", "GnatPortraits"), ("GnatPortraits$Reader", 86, "GnatPortraits$Capital", "sitters", "I", "GnatPortraits"), ("GnatPortraits$Placing", 28, "GnatPortraits$Capital", "windows", "I", "GnatPortraits"), ("GnatPortraits$Reader", 70, "GnatPortraits$Capital", "windows", "I", "GnatPortraits"), ("GnatPortraits", 100, "GnatPortraits$Capital", "windows", "I", "GnatPortraits"), ("GnatPortraits$Reader", 76, "GnatPortraits$Capital", "critics", "I", "GnatPortraits"), ("GnatPortraits", 103, "GnatPortraits$Capital", "critics", "I", "GnatPortraits"), ("GnatPortraits", 146, "GnatPortraits$Capital", "outlines", "[I", "GnatPortraits"), ("GnatPortraits$Reader", 89, "GnatPortraits$Capital", "outlines", "[I", "GnatPortraits"), ("GnatPortraits$Evening", 56, "GnatPortraits$Capital", "firstLamps", "[I", "GnatPortraits"), ("GnatPortraits$Reader", 73, "GnatPortraits$Capital", "firstLamps", "[I", "GnatPortraits"), ("GnatPortraits$Reader", 79, "GnatPortraits$Capital", "views", "[I", "GnatPortraits"), ("GnatPortraits", 320, "GnatPortraits$Capital", "views", "[I", "GnatPortraits"), ("GnatPortraits", 75, "GnatPortraits$Reader", "found", "LGnatPortraits$Capital;", "GnatPortraits"), ("GnatPortraits", 60, "GnatPortraits$Reader", "length", "I", "GnatPortraits"), ("GnatPortraits", 72, "GnatPortraits$Reader", "faultKind", "I", "GnatPortraits"), ("GnatPortraits", 94, "GnatPortraits$Reader", "faultAt", "I", "GnatPortraits"), ("GnatPortraits", 109, "GnatPortraits$Evening", "blowing", "I", "GnatPortraits"), ("GnatPortraits", 112, "GnatPortraits$Evening", "batted", "I", "GnatPortraits"), ("GnatPortraits", 115, "GnatPortraits$Evening", "eyes", "I", "GnatPortraits"), ("GnatPortraits", 118, "GnatPortraits$Evening", "raining", "Z", "GnatPortraits"), ("GnatPortraits", 122, "GnatPortraits$Evening", "smoking", "I", "GnatPortraits"), ("GnatPortraits", 106, "GnatPortraits$Evening", "dusks", "I", "GnatPortraits"), ("GnatPortraits", 129, "GnatPortraits$Evening", "albumSize", "I", "GnatPortraits"), ("GnatPortraits", 159, "GnatPortraits$Evening", "lamps", "[I", "GnatPortraits"), ("GnatPortraits", 162, "GnatPortraits$Evening", "standing", "[I", "GnatPortraits"), ("GnatPortraits", 188, "GnatPortraits$Evening", "glasses", "[I", "GnatPortraits"), ("GnatPortraits", 176, "GnatPortraits$Evening", "albumWindows", "[I", "GnatPortraits"), ("GnatPortraits", 179, "GnatPortraits$Evening", "albumSitters", "[I", "GnatPortraits"), ("GnatPortraits", 182, "GnatPortraits$Evening", "albumDots", "[I", "GnatPortraits"), ("GnatPortraits", 138, "GnatPortraits$Past", "size", "I", "GnatPortraits"), ("GnatPortraits", 316, "GnatPortraits$Placing", "sitters", "I", "GnatPortraits"), ("GnatPortraits", 312, "GnatPortraits$Placing", "windows", "I", "GnatPortraits"), ("GnatPortraits", 238, "GnatPortraits$Placing", "most", "I", "GnatPortraits"), ("GnatPortraits", 231, "GnatPortraits$Placing", "drawn", "[I", "GnatPortraits"), ("GnatPortraits", 317, "GnatPortraits$Placing", "chosen", "[I", "GnatPortraits"), ("GnatPortraits", 241, "GnatPortraits$Placing", "best", "[I", "GnatPortraits")]
def zNM : List (String × Nat × MethodName × String) := [("GnatPortraits", 9, ⟨"GnatPortraits$Reader", "<init>", "()V"⟩, "GnatPortraits"), ("GnatPortraits$Reader", 17, ⟨"GnatPortraits$Capital", "<init>", "()V"⟩, "GnatPortraits"), ("GnatPortraits", 18, ⟨"GnatPortraits$Capital", "<init>", "()V"⟩, "GnatPortraits"), ("GnatPortraits", 25, ⟨"GnatPortraits$Evening", "<init>", "()V"⟩, "GnatPortraits"), ("GnatPortraits", 32, ⟨"GnatPortraits$Past", "<init>", "()V"⟩, "GnatPortraits"), ("GnatPortraits$Past", 17, ⟨"GnatPortraits$Evening", "<init>", "()V"⟩, "GnatPortraits"), ("GnatPortraits", 51, ⟨"GnatPortraits$Placing", "<init>", "()V"⟩, "GnatPortraits"), ("GnatPortraits", 65, ⟨"GnatPortraits$Reader", "add", "(I)V"⟩, "GnatPortraits"), ("GnatPortraits", 69, ⟨"GnatPortraits$Reader", "read", "()V"⟩, "GnatPortraits"), ("GnatPortraits$Reader", 29, ⟨"GnatPortraits$Capital", "empty", "()V"⟩, "GnatPortraits"), ("GnatPortraits", 78, ⟨"GnatPortraits$Capital", "takeFrom", "(LGnatPortraits$Capital;)V"⟩, "GnatPortraits"), ("GnatPortraits", 82, ⟨"GnatPortraits$Evening", "begin", "(LGnatPortraits$Capital;)V"⟩, "GnatPortraits"), ("GnatPortraits", 85, ⟨"GnatPortraits$Past", "forget", "()V"⟩, "GnatPortraits"), ("GnatPortraits", 149, ⟨"GnatPortraits$Evening", "windowOf", "(I)I"⟩, "GnatPortraits"), ("GnatPortraits", 153, ⟨"GnatPortraits$Evening", "timesInAlbum", "(I)I"⟩, "GnatPortraits"), ("GnatPortraits", 173, ⟨"GnatPortraits$Evening", "albumPlace", "(I)I"⟩, "GnatPortraits"), ("GnatPortraits", 192, ⟨"GnatPortraits$Past", "remember", "(LGnatPortraits$Evening;)V"⟩, "GnatPortraits"), ("GnatPortraits$Past", 25, ⟨"GnatPortraits$Evening", "copy", "(LGnatPortraits$Evening;LGnatPortraits$Evening;)V"⟩, "GnatPortraits"), ("GnatPortraits", 196, ⟨"GnatPortraits$Evening", "moveTo", "(II)V"⟩, "GnatPortraits"), ("GnatPortraits", 296, ⟨"GnatPortraits$Evening", "keepInAlbum", "(III)V"⟩, "GnatPortraits"), ("GnatPortraits", 300, ⟨"GnatPortraits$Evening", "endDusk", "()V"⟩, "GnatPortraits"), ("GnatPortraits", 215, ⟨"GnatPortraits$Past", "recall", "(LGnatPortraits$Evening;)V"⟩, "GnatPortraits"), ("GnatPortraits", 230, ⟨"GnatPortraits$Placing", "begin", "(LGnatPortraits$Capital;)V"⟩, "GnatPortraits"), ("GnatPortraits", 313, ⟨"GnatPortraits$Placing", "takeChosen", "(I)V"⟩, "GnatPortraits"), ("GnatPortraits", 285, ⟨"GnatPortraits$Evening", "copy", "(LGnatPortraits$Evening;LGnatPortraits$Evening;)V"⟩, "GnatPortraits")]
def zN (U : State) : Prop := (∀ q ∈ zNF, va_Nw (.fieldLinkNest q.1 q.2.1 q.2.2.1 q.2.2.2.1 q.2.2.2.2.1 q.2.2.2.2.2) U) ∧ (∀ q ∈ zNM, va_Nw (.methodLinkNest q.1 q.2.1 q.2.2.1 q.2.2.2) U)
theorem zN.warm {s U : State} (hW : s.WarmedH U.vm) (h : zN s) : zN U := ⟨fun q hq => va_Nw.warmF hW (h.1 q hq), fun q hq => va_Nw.warmM hW (h.2 q hq)⟩
theorem zN.same {u U : State} (hv : u.vm = U.vm) (h : zN u) : zN U := ⟨fun q hq => va_Nw.same rfl hv (h.1 q hq), fun q hq => va_Nw.same rfl hv (h.2 q hq)⟩
def zr (k : Nat) : Room := { frames := k, cells := 0, slots := 0, locals := 40 * k }
abbrev zH : Type := va_G × ClassId × ClassId × ClassId
def zty (θ : zH) : List (ClassId × FieldType) := [(θ.2.1, .int), (θ.2.2.1, .boolean), (θ.2.2.2, .object "GnatPortraits$Evening")]
abbrev zX : Type := Program × Launch × Env × Room × State × MethodId × Array Value × List Frame × Method × Code × (State → Prop) × (Nat → Prop) × zH × Nat
def Z (κ : zX) (X : va_W) (pc : Nat) (lv : List (Nat × Value)) (st : List Value) : Prop := match κ with
  | (p, l, e, R, s, m, args, below, meth, c, Q, A, θ, n) => ∀ (H : Heap) (locs : List Loc) (ls : Array Slot), va_P θ.1 vwCl X H → va_D A X → va_S A s.heap H locs → lv_has ls n lv → W p l e R s m args below meth c H locs 0 0 Q (F0 m pc ls st)
def zC (κ : zX) (l0 : Launch) (cc : ByteArray) (n0 : Nat) (own : String) (Ts : List Cond) (k : Nat) (θ0 : zH) : Prop := match κ with
  | (p, l, _, R, s, m, args, _, _, c, _, A, θ, n) => l = l0 ∧ n = n0 ∧ θ = θ0 ∧ R = zr k ∧ p.tables.exec = Jvm.exec ∧ c.code = cc ∧ c.maxLocals = n ∧ s.vm.findClass own = some m.cls ∧ (∀ w ∈ Ts, w.before args s = true) ∧ va_K θ.1 vwCl (zty θ) s ∧ zN s ∧ ∀ q, s.heap.size ≤ q → A q
def zPc (θ : zH) (av : List Value) (X : va_W) (sz : Nat) : Array Value → State → Prop := va_Pc av (fun U => U.heap.size = sz ∧ va_P θ.1 vwCl X U.heap ∧ va_K θ.1 vwCl (zty θ) U ∧ zN U ∧ va_D (fun _ => True) X)
def zB (θ : zH) (X : va_W) (sz : Nat) (Y : va_W) (t : State) : Prop := va_P θ.1 vwCl Y t.heap ∧ va_D (va_A X sz) Y
def cI (l : Launch) (y : MethodName) (wl : List Cond) (k : Nat) (θ : zH) (av : List Value) (X : va_W) (post : Int32 → va_W → Prop) : Prop := ∀ sz : Nat, Met l y wl (zr k) (zPc θ av X sz) (va_Qi post (zB θ X sz) (va_A X sz)) 0 0 (va_A X sz)
def cV (l : Launch) (y : MethodName) (wl : List Cond) (k : Nat) (θ : zH) (av : List Value) (X : va_W) (post : va_W → Prop) : Prop := ∀ sz : Nat, Met l y wl (zr k) (zPc θ av X sz) (va_Qv post (zB θ X sz) (va_A X sz)) 0 0 (va_A X sz)
theorem zPc_blind {θ : zH} {av : List Value} {X : va_W} {sz : Nat} : FrameBlind (zPc θ av X sz) := fun a U g mk q => by
  obtain ⟨q0, q1, qP, qK, qN, qD⟩ := q
  exact ⟨q0, q1, qP, va_K.moved (u := U) (U := U.calling g mk a) (Vm.Alike.refl U.vm) qK, zN.same (u := U) (U := U.calling g mk a) rfl qN, qD⟩
set_option maxHeartbeats 1000000 in
theorem z_cI {l : Launch} {y : MethodName} {wl ws' : List Cond} {cc : ByteArray} {n k : Nat} {ty : FieldType} {θ : zH} {av : List Value} {X : va_W} {post : Int32 → va_W → Prop} {lv : List (Nat × Value)} {own : String} (hy : plainName y.cls = true) (hw : wl = Cond.code y cc n (some ty) :: ws') (hown : y.cls = own) (hlen : (lg_sl av).length ≤ n) (hlv : lv_args 0 av = lv)
    (body : ∀ κ : zX, zC κ l cc n own wl k θ → (∀ (r : Int32) (Y : va_W) (pc : Nat) (lv' : List (Nat × Value)), post r Y → narrow ty (.int r) = .int r → decode cc pc = .ok (.ireturn, 1) → Z κ Y pc lv' [.int r]) → Z κ X 0 lv []) : cI l y wl k θ av X post := by
  intro sz
  refine Met.ofW (cc := cc) (maxL := n) (ret := some ty) hy hw ?_
  intro p e s m args below meth c s₁ B hml hv
  obtain ⟨rfl, hsz, hP, hK, hN, hD0⟩ := hv
  subst hsz
  have hown' : s.vm.findClass own = some m.cls := by rw [← hown]; exact findClass_of_methodNamed B.named
  have hts := atoms_spec (ws := wl) B.pre
  have hr := B.returns
  have hx := B.exec
  have hb := B.bytes
  have hlocks := B.notSynchronized
  have hA : ∀ q : Nat, s.heap.size ≤ q → va_A X s.heap.size q := fun q h => Or.inr h
  have h := body (p, l, e, zr k, s, m, av.toArray, below, meth, c, MQ below (va_Qi post (zB θ X s.heap.size) (va_A X s.heap.size)) av.toArray s 0 0 (va_A X s.heap.size), va_A X s.heap.size, θ, n)
    ⟨rfl, rfl, rfl, rfl, hx, hb, hml, hown', hts, hK, hN, hA⟩ (fun r Y pc lv' hp hn hd H locs ls hP hD hS hl => by
      exact W.zret (v := r) hx hb hr hn (fun t ht hW => ⟨⟨r, Y, rfl, hp, by rw [ht]; exact hP, hD⟩, hS.F ht⟩) hS.2.2 hd hlocks)
  have hl := lv_entry av (n := n) hlen
  rw [lg_entry_eq]
  rw [hlv] at hl
  exact h s.heap [] _ hP hD0.self va_S.rf hl
set_option maxHeartbeats 1000000 in
theorem z_cV {l : Launch} {y : MethodName} {wl ws' : List Cond} {cc : ByteArray} {n k : Nat} {θ : zH} {av : List Value} {X : va_W} {post : va_W → Prop} {lv : List (Nat × Value)} {own : String} (hy : plainName y.cls = true) (hw : wl = Cond.code y cc n none :: ws') (hown : y.cls = own) (hlen : (lg_sl av).length ≤ n) (hlv : lv_args 0 av = lv)
    (body : ∀ κ : zX, zC κ l cc n own wl k θ → (∀ (Y : va_W) (pc : Nat) (lv' : List (Nat × Value)), post Y → decode cc pc = .ok (.return_, 1) → Z κ Y pc lv' []) → Z κ X 0 lv []) : cV l y wl k θ av X post := by
  intro sz
  refine Met.ofW (cc := cc) (maxL := n) (ret := none) hy hw ?_
  intro p e s m args below meth c s₁ B hml hv
  obtain ⟨rfl, hsz, hP, hK, hN, hD0⟩ := hv
  subst hsz
  have hown' : s.vm.findClass own = some m.cls := by rw [← hown]; exact findClass_of_methodNamed B.named
  have hts := atoms_spec (ws := wl) B.pre
  have hr := B.returns
  have hx := B.exec
  have hb := B.bytes
  have hlocks := B.notSynchronized
  have hA : ∀ q : Nat, s.heap.size ≤ q → va_A X s.heap.size q := fun q h => Or.inr h
  have h := body (p, l, e, zr k, s, m, av.toArray, below, meth, c, MQ below (va_Qv post (zB θ X s.heap.size) (va_A X s.heap.size)) av.toArray s 0 0 (va_A X s.heap.size), va_A X s.heap.size, θ, n)
    ⟨rfl, rfl, rfl, rfl, hx, hb, hml, hown', hts, hK, hN, hA⟩ (fun Y pc lv' hp hd H locs ls hP hD hS hl => by
      exact W.vret hx hb hr (fun t ht hW => ⟨⟨Y, rfl, hp, by rw [ht]; exact hP, hD⟩, hS.F ht⟩) hS.2.2 hd hlocks)
  have hl := lv_entry av (n := n) hlen
  rw [lg_entry_eq]
  rw [hlv] at hl
  exact h s.heap [] _ hP hD0.self va_S.rf hl
section ZR
variable {κ : zX} {l0 : Launch} {cc : ByteArray} {n0 : Nat} {own : String} {Ts : List Cond} {kf : Nat} {θ : zH} {X : va_W} {pc : Nat} {lv : List (Nat × Value)} {st : List Value}
def zlk : List (Nat × Value) → Nat → Option Value
  | [], _ => none
  | q :: r, i => bif q.1 == i then some q.2 else zlk r i
theorem zlk_has {ls : Array Slot} {n i : Nat} {lv : List (Nat × Value)} {v : Value} (h : lv_has ls n lv) (hk : zlk lv i = some v) : ls[i]? = some (.val v) := by
  have key : ∀ l : List (Nat × Value), (∀ q ∈ l, ls[q.1]? = some (.val q.2)) → zlk l i = some v → ls[i]? = some (.val v) := by
    intro l
    induction l with
    | nil => intro _ h; cases h
    | cons q r ih =>
      intro hq hz
      unfold zlk at hz
      cases hb : (q.1 == i) with
      | true =>
        rw [hb] at hz
        have e : q.2 = v := Option.some.inj hz
        have e2 : q.1 = i := by simpa using hb
        rw [← e, ← e2]
        exact hq q List.mem_cons_self
      | false =>
        rw [hb] at hz
        exact ih (fun x hx => hq x (List.mem_cons_of_mem _ hx)) hz
  exact key lv h.2.2 hk
theorem zlk_mem {lv : List (Nat × Value)} {i : Nat} {v : Value} (hk : zlk lv i = some v) : ∃ k : Nat, lv[k]? = some (i, v) := by
  induction lv with
  | nil => cases hk
  | cons q r ih =>
    unfold zlk at hk
    cases hb : (q.1 == i) with
    | true =>
      rw [hb] at hk
      have e : q.2 = v := Option.some.inj hk
      have e2 : q.1 = i := by simpa using hb
      exact ⟨0, by rw [← e, ← e2]; rfl⟩
    | false =>
      rw [hb] at hk
      obtain ⟨k, h⟩ := ih hk
      exact ⟨k + 1, by simpa using h⟩
/-- fewer locals, in any order -/
theorem z_lv {lv' : List (Nat × Value)} (h : lv'.map (fun q => zlk lv q.1) = lv'.map (fun q => some q.2)) (kk : Z κ X pc lv' st) : Z κ X pc lv st := by
  obtain ⟨p, l, e, R, s, m, args, below, meth, c, Q, A, θ', n⟩ := κ
  intro H locs ls hP hD hS hl
  refine kk H locs ls hP hD hS ⟨hl.1, hl.2.1, fun q hq => ?_⟩
  have h2 := List.map_inj_left.mp h q hq
  exact zlk_has hl h2
theorem z_X {Y : va_W} (h : X = Y) (kk : Z κ Y pc lv st) : Z κ X pc lv st := h ▸ kk
theorem z_st {st' : List Value} (h : st = st') (kk : Z κ X pc lv st') : Z κ X pc lv st := h ▸ kk
theorem z_topi {x : Int32} (k : ∀ y : Int32, y = x → Z κ X pc lv (.int y :: st)) : Z κ X pc lv (.int x :: st) := k x rfl
theorem z_topl {x : Int64} (k : ∀ y : Int64, y = x → Z κ X pc lv (.long y :: st)) : Z κ X pc lv (.long x :: st) := k x rfl
theorem z_up (P : Nat → Prop) (N : Nat) (hend : P N) (hstep : ∀ k, k < N → P (k + 1) → P k) (k : Nat) (hk : k ≤ N) : P k := by
  obtain ⟨d, hd⟩ : ∃ d, N - k = d := ⟨_, rfl⟩
  induction d generalizing k with
  | zero => have e : k = N := by omega
            rw [e]; exact hend
  | succ d ih => exact hstep k (by omega) (ih (k + 1) (by omega) (by omega))

theorem z_iconst (C : zC κ l0 cc n0 own Ts kf θ) {i : Int} {v : Int32} (hd : decode cc pc = .ok (.iconst i, 1)) (hv : Int32.ofInt i = v) (kk : Z κ X (pc + 1) lv (.int v :: st)) : Z κ X pc lv st := by
  obtain ⟨p, l, e, R, s, m, args, below, meth, c, Q, A, θ', n⟩ := κ
  obtain ⟨rfl, rfl, rfl, hR, hx, hb, hml, hown, hts, hK, hN, hA⟩ := C
  subst hR
  intro H locs ls hP hD hS hl
  exact lv_iconst hx hb hd hv (kk H locs ls hP hD hS hl)
theorem z_bipush (C : zC κ l0 cc n0 own Ts kf θ) {i : Int} {v : Int32} (hd : decode cc pc = .ok (.bipush i, 2)) (hv : (Int8.ofInt i).toInt32 = v) (kk : Z κ X (pc + 2) lv (.int v :: st)) : Z κ X pc lv st := by
  obtain ⟨p, l, e, R, s, m, args, below, meth, c, Q, A, θ', n⟩ := κ
  obtain ⟨rfl, rfl, rfl, hR, hx, hb, hml, hown, hts, hK, hN, hA⟩ := C
  subst hR
  intro H locs ls hP hD hS hl
  exact lv_bipush hx hb hd hv (kk H locs ls hP hD hS hl)
theorem z_sipush (C : zC κ l0 cc n0 own Ts kf θ) {i : Int} {v : Int32} (hd : decode cc pc = .ok (.sipush i, 3)) (hv : (Int16.ofInt i).toInt32 = v) (kk : Z κ X (pc + 3) lv (.int v :: st)) : Z κ X pc lv st := by
  obtain ⟨p, l, e, R, s, m, args, below, meth, c, Q, A, θ', n⟩ := κ
  obtain ⟨rfl, rfl, rfl, hR, hx, hb, hml, hown, hts, hK, hN, hA⟩ := C
  subst hR
  intro H locs ls hP hD hS hl
  exact lv_sipush hx hb hd hv (kk H locs ls hP hD hS hl)
theorem z_lconst (C : zC κ l0 cc n0 own Ts kf θ) {i : Fin 2} {v : Int64} (hd : decode cc pc = .ok (.lconst i, 1)) (hv : Int64.ofNat (i : Nat) = v) (kk : Z κ X (pc + 1) lv (.long v :: st)) : Z κ X pc lv st := by
  obtain ⟨p, l, e, R, s, m, args, below, meth, c, Q, A, θ', n⟩ := κ
  obtain ⟨rfl, rfl, rfl, hR, hx, hb, hml, hown, hts, hK, hN, hA⟩ := C
  subst hR
  intro H locs ls hP hD hS hl
  exact lv_lconst hx hb hd hv (kk H locs ls hP hD hS hl)
theorem z_ldc (C : zC κ l0 cc n0 own Ts kf θ) {i : Nat} {v : Int32} (hm : Cond.constant own i v ∈ Ts) (hd : decode cc pc = .ok (.ldc i, 2)) (kk : Z κ X (pc + 2) lv (.int v :: st)) : Z κ X pc lv st := by
  obtain ⟨p, l, e, R, s, m, args, below, meth, c, Q, A, θ', n⟩ := κ
  obtain ⟨rfl, rfl, rfl, hR, hx, hb, hml, hown, hts, hK, hN, hA⟩ := C
  subst hR
  intro H locs ls hP hD hS hl
  exact lv_ldc hx hb hown (hts _ hm) hd (kk H locs ls hP hD hS hl)
theorem z_ldcw (C : zC κ l0 cc n0 own Ts kf θ) {i : Nat} {v : Int32} (hm : Cond.constant own i v ∈ Ts) (hd : decode cc pc = .ok (.ldc_w i, 3)) (kk : Z κ X (pc + 3) lv (.int v :: st)) : Z κ X pc lv st := by
  obtain ⟨p, l, e, R, s, m, args, below, meth, c, Q, A, θ', n⟩ := κ
  obtain ⟨rfl, rfl, rfl, hR, hx, hb, hml, hown, hts, hK, hN, hA⟩ := C
  subst hR
  intro H locs ls hP hD hS hl
  exact lv_ldcw hx hb hown (hts _ hm) hd (kk H locs ls hP hD hS hl)
theorem z_ldc2 (C : zC κ l0 cc n0 own Ts kf θ) {i : Nat} {v : Int64} (hm : Cond.constantLong own i v ∈ Ts) (hd : decode cc pc = .ok (.ldc2_w i, 3)) (kk : Z κ X (pc + 3) lv (.long v :: st)) : Z κ X pc lv st := by
  obtain ⟨p, l, e, R, s, m, args, below, meth, c, Q, A, θ', n⟩ := κ
  obtain ⟨rfl, rfl, rfl, hR, hx, hb, hml, hown, hts, hK, hN, hA⟩ := C
  subst hR
  intro H locs ls hP hD hS hl
  exact lv_ldc2 hx hb hown (hts _ hm) hd (kk H locs ls hP hD hS hl)
theorem z_iload_n (C : zC κ l0 cc n0 own Ts kf θ) {j : Fin 4} {i : Nat} {x : Int32} (hd : decode cc pc = .ok (.iload_n j, 1)) (hi : (j : Nat) = i) (h : zlk lv i = some (.int x)) (kk : Z κ X (pc + 1) lv (.int x :: st)) : Z κ X pc lv st := by
  obtain ⟨p, l, e, R, s, m, args, below, meth, c, Q, A, θ', n⟩ := κ
  obtain ⟨rfl, rfl, rfl, hR, hx, hb, hml, hown, hts, hK, hN, hA⟩ := C
  subst hR
  intro H locs ls hP hD hS hl
  exact lv_iload_n hx hb hd hi (zlk_has hl h) (kk H locs ls hP hD hS hl)
theorem z_iload (C : zC κ l0 cc n0 own Ts kf θ) {i : Nat} {x : Int32} (hd : decode cc pc = .ok (.iload i, 2)) (h : zlk lv i = some (.int x)) (kk : Z κ X (pc + 2) lv (.int x :: st)) : Z κ X pc lv st := by
  obtain ⟨p, l, e, R, s, m, args, below, meth, c, Q, A, θ', n⟩ := κ
  obtain ⟨rfl, rfl, rfl, hR, hx, hb, hml, hown, hts, hK, hN, hA⟩ := C
  subst hR
  intro H locs ls hP hD hS hl
  exact lv_iload hx hb hd (zlk_has hl h) (kk H locs ls hP hD hS hl)
theorem z_istore_n (C : zC κ l0 cc n0 own Ts kf θ) {j : Fin 4} {i : Nat} {x : Int32} (lv' : List (Nat × Value)) (hd : decode cc pc = .ok (.istore_n j, 1)) (hi : (j : Nat) = i) (hn : i < n0) (h : (i, Value.int x) :: lv.filter (fun q => !(q.1 == i) && !(q.1 + 1 == i && q.2.category == 2)) = lv') (kk : Z κ X (pc + 1) lv' st) : Z κ X pc lv (.int x :: st) := by
  obtain ⟨p, l, e, R, s, m, args, below, meth, c, Q, A, θ', n⟩ := κ
  obtain ⟨rfl, rfl, rfl, hR, hx, hb, hml, hown, hts, hK, hN, hA⟩ := C
  subst hR
  intro H locs ls hP hD hS hl
  exact lv_istore_n hx hb hd hi hl hn h (fun ls hl => kk H locs ls hP hD hS hl)
theorem z_istore (C : zC κ l0 cc n0 own Ts kf θ) {i : Nat} {x : Int32} (lv' : List (Nat × Value)) (hd : decode cc pc = .ok (.istore i, 2)) (hn : i < n0) (h : (i, Value.int x) :: lv.filter (fun q => !(q.1 == i) && !(q.1 + 1 == i && q.2.category == 2)) = lv') (kk : Z κ X (pc + 2) lv' st) : Z κ X pc lv (.int x :: st) := by
  obtain ⟨p, l, e, R, s, m, args, below, meth, c, Q, A, θ', n⟩ := κ
  obtain ⟨rfl, rfl, rfl, hR, hx, hb, hml, hown, hts, hK, hN, hA⟩ := C
  subst hR
  intro H locs ls hP hD hS hl
  exact lv_istore hx hb hd hl hn h (fun ls hl => kk H locs ls hP hD hS hl)
theorem z_lload_n (C : zC κ l0 cc n0 own Ts kf θ) {j : Fin 4} {i : Nat} {x : Int64} (hd : decode cc pc = .ok (.lload_n j, 1)) (hi : (j : Nat) = i) (h : zlk lv i = some (.long x)) (kk : Z κ X (pc + 1) lv (.long x :: st)) : Z κ X pc lv st := by
  obtain ⟨p, l, e, R, s, m, args, below, meth, c, Q, A, θ', n⟩ := κ
  obtain ⟨rfl, rfl, rfl, hR, hx, hb, hml, hown, hts, hK, hN, hA⟩ := C
  subst hR
  intro H locs ls hP hD hS hl
  exact lv_lload_n hx hb hd hi (zlk_has hl h) (kk H locs ls hP hD hS hl)
theorem z_lload (C : zC κ l0 cc n0 own Ts kf θ) {i : Nat} {x : Int64} (hd : decode cc pc = .ok (.lload i, 2)) (h : zlk lv i = some (.long x)) (kk : Z κ X (pc + 2) lv (.long x :: st)) : Z κ X pc lv st := by
  obtain ⟨p, l, e, R, s, m, args, below, meth, c, Q, A, θ', n⟩ := κ
  obtain ⟨rfl, rfl, rfl, hR, hx, hb, hml, hown, hts, hK, hN, hA⟩ := C
  subst hR
  intro H locs ls hP hD hS hl
  exact lv_lload hx hb hd (zlk_has hl h) (kk H locs ls hP hD hS hl)
theorem z_lstore_n (C : zC κ l0 cc n0 own Ts kf θ) {j : Fin 4} {i : Nat} {x : Int64} (lv' : List (Nat × Value)) (hd : decode cc pc = .ok (.lstore_n j, 1)) (hi : (j : Nat) = i) (hn : i + 1 < n0) (h : (i, Value.long x) :: lv.filter (fun q => !(q.1 == i) && (!(q.1 == i + 1) && !(q.1 + 1 == i && q.2.category == 2))) = lv') (kk : Z κ X (pc + 1) lv' st) : Z κ X pc lv (.long x :: st) := by
  obtain ⟨p, l, e, R, s, m, args, below, meth, c, Q, A, θ', n⟩ := κ
  obtain ⟨rfl, rfl, rfl, hR, hx, hb, hml, hown, hts, hK, hN, hA⟩ := C
  subst hR
  intro H locs ls hP hD hS hl
  exact lv_lstore_n hx hb hd hi hl hn h (fun ls hl => kk H locs ls hP hD hS hl)
theorem z_lstore (C : zC κ l0 cc n0 own Ts kf θ) {i : Nat} {x : Int64} (lv' : List (Nat × Value)) (hd : decode cc pc = .ok (.lstore i, 2)) (hn : i + 1 < n0) (h : (i, Value.long x) :: lv.filter (fun q => !(q.1 == i) && (!(q.1 == i + 1) && !(q.1 + 1 == i && q.2.category == 2))) = lv') (kk : Z κ X (pc + 2) lv' st) : Z κ X pc lv (.long x :: st) := by
  obtain ⟨p, l, e, R, s, m, args, below, meth, c, Q, A, θ', n⟩ := κ
  obtain ⟨rfl, rfl, rfl, hR, hx, hb, hml, hown, hts, hK, hN, hA⟩ := C
  subst hR
  intro H locs ls hP hD hS hl
  exact lv_lstore hx hb hd hl hn h (fun ls hl => kk H locs ls hP hD hS hl)
theorem z_aload_n (C : zC κ l0 cc n0 own Ts kf θ) {j : Fin 4} {i : Nat} {x : Nat} (hd : decode cc pc = .ok (.aload_n j, 1)) (hi : (j : Nat) = i) (h : zlk lv i = some (.ref x)) (kk : Z κ X (pc + 1) lv (.ref x :: st)) : Z κ X pc lv st := by
  obtain ⟨p, l, e, R, s, m, args, below, meth, c, Q, A, θ', n⟩ := κ
  obtain ⟨rfl, rfl, rfl, hR, hx, hb, hml, hown, hts, hK, hN, hA⟩ := C
  subst hR
  intro H locs ls hP hD hS hl
  exact lv_aload_n hx hb hd hi (zlk_has hl h) (kk H locs ls hP hD hS hl)
theorem z_aload (C : zC κ l0 cc n0 own Ts kf θ) {i : Nat} {x : Nat} (hd : decode cc pc = .ok (.aload i, 2)) (h : zlk lv i = some (.ref x)) (kk : Z κ X (pc + 2) lv (.ref x :: st)) : Z κ X pc lv st := by
  obtain ⟨p, l, e, R, s, m, args, below, meth, c, Q, A, θ', n⟩ := κ
  obtain ⟨rfl, rfl, rfl, hR, hx, hb, hml, hown, hts, hK, hN, hA⟩ := C
  subst hR
  intro H locs ls hP hD hS hl
  exact lv_aload hx hb hd (zlk_has hl h) (kk H locs ls hP hD hS hl)
theorem z_astore_n (C : zC κ l0 cc n0 own Ts kf θ) {j : Fin 4} {i : Nat} {x : Nat} (lv' : List (Nat × Value)) (hd : decode cc pc = .ok (.astore_n j, 1)) (hi : (j : Nat) = i) (hn : i < n0) (h : (i, Value.ref x) :: lv.filter (fun q => !(q.1 == i) && !(q.1 + 1 == i && q.2.category == 2)) = lv') (kk : Z κ X (pc + 1) lv' st) : Z κ X pc lv (.ref x :: st) := by
  obtain ⟨p, l, e, R, s, m, args, below, meth, c, Q, A, θ', n⟩ := κ
  obtain ⟨rfl, rfl, rfl, hR, hx, hb, hml, hown, hts, hK, hN, hA⟩ := C
  subst hR
  intro H locs ls hP hD hS hl
  exact lv_astore_n hx hb hd hi hl hn h (fun ls hl => kk H locs ls hP hD hS hl)
theorem z_astore (C : zC κ l0 cc n0 own Ts kf θ) {i : Nat} {x : Nat} (lv' : List (Nat × Value)) (hd : decode cc pc = .ok (.astore i, 2)) (hn : i < n0) (h : (i, Value.ref x) :: lv.filter (fun q => !(q.1 == i) && !(q.1 + 1 == i && q.2.category == 2)) = lv') (kk : Z κ X (pc + 2) lv' st) : Z κ X pc lv (.ref x :: st) := by
  obtain ⟨p, l, e, R, s, m, args, below, meth, c, Q, A, θ', n⟩ := κ
  obtain ⟨rfl, rfl, rfl, hR, hx, hb, hml, hown, hts, hK, hN, hA⟩ := C
  subst hR
  intro H locs ls hP hD hS hl
  exact lv_astore hx hb hd hl hn h (fun ls hl => kk H locs ls hP hD hS hl)
theorem z_iinc (C : zC κ l0 cc n0 own Ts kf θ) {i : Nat} {j : Int} {x v : Int32} (lv' : List (Nat × Value)) (hd : decode cc pc = .ok (.iinc i j, 3)) (hk : zlk lv i = some (.int x)) (hv : x + Int32.ofInt j = v) (hn : i < n0) (h : (i, Value.int v) :: lv.filter (fun q => !(q.1 == i) && !(q.1 + 1 == i && q.2.category == 2)) = lv') (kk : Z κ X (pc + 3) lv' st) : Z κ X pc lv st := by
  obtain ⟨p, l, e, R, s, m, args, below, meth, c, Q, A, θ', n⟩ := κ
  obtain ⟨rfl, rfl, rfl, hR, hx, hb, hml, hown, hts, hK, hN, hA⟩ := C
  subst hR
  intro H locs ls hP hD hS hl
  obtain ⟨k0, hk0⟩ := zlk_mem hk
  exact lv_iinc hx hb hd hl hk0 hv hn h (fun ls hl => kk H locs ls hP hD hS hl)
theorem z_iadd (C : zC κ l0 cc n0 own Ts kf θ) {x y : Int32} (hd : decode cc pc = .ok (.iadd, 1)) (kk : Z κ X (pc + 1) lv (.int (x + y) :: st)) : Z κ X pc lv (.int y :: .int x :: st) := by
  obtain ⟨p, l, e, R, s, m, args, below, meth, c, Q, A, θ', n⟩ := κ
  obtain ⟨rfl, rfl, rfl, hR, hx, hb, hml, hown, hts, hK, hN, hA⟩ := C
  subst hR
  intro H locs ls hP hD hS hl
  exact lv_iadd hx hb hd (kk H locs ls hP hD hS hl)
theorem z_isub (C : zC κ l0 cc n0 own Ts kf θ) {x y : Int32} (hd : decode cc pc = .ok (.isub, 1)) (kk : Z κ X (pc + 1) lv (.int (x - y) :: st)) : Z κ X pc lv (.int y :: .int x :: st) := by
  obtain ⟨p, l, e, R, s, m, args, below, meth, c, Q, A, θ', n⟩ := κ
  obtain ⟨rfl, rfl, rfl, hR, hx, hb, hml, hown, hts, hK, hN, hA⟩ := C
  subst hR
  intro H locs ls hP hD hS hl
  exact lv_isub hx hb hd (kk H locs ls hP hD hS hl)
theorem z_imul (C : zC κ l0 cc n0 own Ts kf θ) {x y : Int32} (hd : decode cc pc = .ok (.imul, 1)) (kk : Z κ X (pc + 1) lv (.int (x * y) :: st)) : Z κ X pc lv (.int y :: .int x :: st) := by
  obtain ⟨p, l, e, R, s, m, args, below, meth, c, Q, A, θ', n⟩ := κ
  obtain ⟨rfl, rfl, rfl, hR, hx, hb, hml, hown, hts, hK, hN, hA⟩ := C
  subst hR
  intro H locs ls hP hD hS hl
  exact lv_imul hx hb hd (kk H locs ls hP hD hS hl)
theorem z_iand (C : zC κ l0 cc n0 own Ts kf θ) {x y : Int32} (hd : decode cc pc = .ok (.iand, 1)) (kk : Z κ X (pc + 1) lv (.int (x &&& y) :: st)) : Z κ X pc lv (.int y :: .int x :: st) := by
  obtain ⟨p, l, e, R, s, m, args, below, meth, c, Q, A, θ', n⟩ := κ
  obtain ⟨rfl, rfl, rfl, hR, hx, hb, hml, hown, hts, hK, hN, hA⟩ := C
  subst hR
  intro H locs ls hP hD hS hl
  exact lv_iand hx hb hd (kk H locs ls hP hD hS hl)
theorem z_ior (C : zC κ l0 cc n0 own Ts kf θ) {x y : Int32} (hd : decode cc pc = .ok (.ior, 1)) (kk : Z κ X (pc + 1) lv (.int (x ||| y) :: st)) : Z κ X pc lv (.int y :: .int x :: st) := by
  obtain ⟨p, l, e, R, s, m, args, below, meth, c, Q, A, θ', n⟩ := κ
  obtain ⟨rfl, rfl, rfl, hR, hx, hb, hml, hown, hts, hK, hN, hA⟩ := C
  subst hR
  intro H locs ls hP hD hS hl
  exact lv_ior hx hb hd (kk H locs ls hP hD hS hl)
theorem z_ixor (C : zC κ l0 cc n0 own Ts kf θ) {x y : Int32} (hd : decode cc pc = .ok (.ixor, 1)) (kk : Z κ X (pc + 1) lv (.int (x ^^^ y) :: st)) : Z κ X pc lv (.int y :: .int x :: st) := by
  obtain ⟨p, l, e, R, s, m, args, below, meth, c, Q, A, θ', n⟩ := κ
  obtain ⟨rfl, rfl, rfl, hR, hx, hb, hml, hown, hts, hK, hN, hA⟩ := C
  subst hR
  intro H locs ls hP hD hS hl
  exact lv_ixor hx hb hd (kk H locs ls hP hD hS hl)
theorem z_ishl (C : zC κ l0 cc n0 own Ts kf θ) {x y : Int32} (hd : decode cc pc = .ok (.ishl, 1)) (kk : Z κ X (pc + 1) lv (.int (x <<< (y &&& 31)) :: st)) : Z κ X pc lv (.int y :: .int x :: st) := by
  obtain ⟨p, l, e, R, s, m, args, below, meth, c, Q, A, θ', n⟩ := κ
  obtain ⟨rfl, rfl, rfl, hR, hx, hb, hml, hown, hts, hK, hN, hA⟩ := C
  subst hR
  intro H locs ls hP hD hS hl
  exact lv_ishl hx hb hd (kk H locs ls hP hD hS hl)
theorem z_ishr (C : zC κ l0 cc n0 own Ts kf θ) {x y : Int32} (hd : decode cc pc = .ok (.ishr, 1)) (kk : Z κ X (pc + 1) lv (.int (x >>> (y &&& 31)) :: st)) : Z κ X pc lv (.int y :: .int x :: st) := by
  obtain ⟨p, l, e, R, s, m, args, below, meth, c, Q, A, θ', n⟩ := κ
  obtain ⟨rfl, rfl, rfl, hR, hx, hb, hml, hown, hts, hK, hN, hA⟩ := C
  subst hR
  intro H locs ls hP hD hS hl
  exact lv_ishr hx hb hd (kk H locs ls hP hD hS hl)
theorem z_ineg (C : zC κ l0 cc n0 own Ts kf θ) {x : Int32} (hd : decode cc pc = .ok (.ineg, 1)) (kk : Z κ X (pc + 1) lv (.int (-x) :: st)) : Z κ X pc lv (.int x :: st) := by
  obtain ⟨p, l, e, R, s, m, args, below, meth, c, Q, A, θ', n⟩ := κ
  obtain ⟨rfl, rfl, rfl, hR, hx, hb, hml, hown, hts, hK, hN, hA⟩ := C
  subst hR
  intro H locs ls hP hD hS hl
  exact lv_ineg hx hb hd (kk H locs ls hP hD hS hl)
theorem z_idiv (C : zC κ l0 cc n0 own Ts kf θ) {x y : Int32} (hd : decode cc pc = .ok (.idiv, 1)) (hne : ¬ y = 0) (kk : Z κ X (pc + 1) lv (.int (x / y) :: st)) : Z κ X pc lv (.int y :: .int x :: st) := by
  obtain ⟨p, l, e, R, s, m, args, below, meth, c, Q, A, θ', n⟩ := κ
  obtain ⟨rfl, rfl, rfl, hR, hx, hb, hml, hown, hts, hK, hN, hA⟩ := C
  subst hR
  intro H locs ls hP hD hS hl
  exact lv_idiv hx hb hd hne (kk H locs ls hP hD hS hl)
theorem z_irem (C : zC κ l0 cc n0 own Ts kf θ) {x y : Int32} (hd : decode cc pc = .ok (.irem, 1)) (hne : ¬ y = 0) (kk : Z κ X (pc + 1) lv (.int (x - x / y * y) :: st)) : Z κ X pc lv (.int y :: .int x :: st) := by
  obtain ⟨p, l, e, R, s, m, args, below, meth, c, Q, A, θ', n⟩ := κ
  obtain ⟨rfl, rfl, rfl, hR, hx, hb, hml, hown, hts, hK, hN, hA⟩ := C
  subst hR
  intro H locs ls hP hD hS hl
  exact lv_irem hx hb hd hne (kk H locs ls hP hD hS hl)
theorem z_iushr (C : zC κ l0 cc n0 own Ts kf θ) {x y v : Int32} (hd : decode cc pc = .ok (.iushr, 1)) (hv : (x.toUInt32 >>> (y.toUInt32 &&& Int32.toUInt32 31)).toInt32 = v) (kk : Z κ X (pc + 1) lv (.int v :: st)) : Z κ X pc lv (.int y :: .int x :: st) := by
  obtain ⟨p, l, e, R, s, m, args, below, meth, c, Q, A, θ', n⟩ := κ
  obtain ⟨rfl, rfl, rfl, hR, hx, hb, hml, hown, hts, hK, hN, hA⟩ := C
  subst hR
  intro H locs ls hP hD hS hl
  exact lv_iushr hx hb hd hv (kk H locs ls hP hD hS hl)
theorem z_ladd (C : zC κ l0 cc n0 own Ts kf θ) {x y : Int64} (hd : decode cc pc = .ok (.ladd, 1)) (kk : Z κ X (pc + 1) lv (.long (x + y) :: st)) : Z κ X pc lv (.long y :: .long x :: st) := by
  obtain ⟨p, l, e, R, s, m, args, below, meth, c, Q, A, θ', n⟩ := κ
  obtain ⟨rfl, rfl, rfl, hR, hx, hb, hml, hown, hts, hK, hN, hA⟩ := C
  subst hR
  intro H locs ls hP hD hS hl
  exact lv_ladd hx hb hd (kk H locs ls hP hD hS hl)
theorem z_lmul (C : zC κ l0 cc n0 own Ts kf θ) {x y : Int64} (hd : decode cc pc = .ok (.lmul, 1)) (kk : Z κ X (pc + 1) lv (.long (x * y) :: st)) : Z κ X pc lv (.long y :: .long x :: st) := by
  obtain ⟨p, l, e, R, s, m, args, below, meth, c, Q, A, θ', n⟩ := κ
  obtain ⟨rfl, rfl, rfl, hR, hx, hb, hml, hown, hts, hK, hN, hA⟩ := C
  subst hR
  intro H locs ls hP hD hS hl
  exact lv_lmul hx hb hd (kk H locs ls hP hD hS hl)
theorem z_ldiv (C : zC κ l0 cc n0 own Ts kf θ) {x y : Int64} (hd : decode cc pc = .ok (.ldiv, 1)) (hne : ¬ y = 0) (kk : Z κ X (pc + 1) lv (.long (x / y) :: st)) : Z κ X pc lv (.long y :: .long x :: st) := by
  obtain ⟨p, l, e, R, s, m, args, below, meth, c, Q, A, θ', n⟩ := κ
  obtain ⟨rfl, rfl, rfl, hR, hx, hb, hml, hown, hts, hK, hN, hA⟩ := C
  subst hR
  intro H locs ls hP hD hS hl
  exact lv_ldiv hx hb hd hne (kk H locs ls hP hD hS hl)
theorem z_lrem (C : zC κ l0 cc n0 own Ts kf θ) {x y : Int64} (hd : decode cc pc = .ok (.lrem, 1)) (hne : ¬ y = 0) (kk : Z κ X (pc + 1) lv (.long (x - x / y * y) :: st)) : Z κ X pc lv (.long y :: .long x :: st) := by
  obtain ⟨p, l, e, R, s, m, args, below, meth, c, Q, A, θ', n⟩ := κ
  obtain ⟨rfl, rfl, rfl, hR, hx, hb, hml, hown, hts, hK, hN, hA⟩ := C
  subst hR
  intro H locs ls hP hD hS hl
  exact lv_lrem hx hb hd hne (kk H locs ls hP hD hS hl)
theorem z_i2l (C : zC κ l0 cc n0 own Ts kf θ) {x : Int32} (hd : decode cc pc = .ok (.i2l, 1)) (kk : Z κ X (pc + 1) lv (.long x.toInt64 :: st)) : Z κ X pc lv (.int x :: st) := by
  obtain ⟨p, l, e, R, s, m, args, below, meth, c, Q, A, θ', n⟩ := κ
  obtain ⟨rfl, rfl, rfl, hR, hx, hb, hml, hown, hts, hK, hN, hA⟩ := C
  subst hR
  intro H locs ls hP hD hS hl
  exact lv_i2l hx hb hd rfl (kk H locs ls hP hD hS hl)
theorem z_l2i (C : zC κ l0 cc n0 own Ts kf θ) {x : Int64} (hd : decode cc pc = .ok (.l2i, 1)) (kk : Z κ X (pc + 1) lv (.int x.toInt32 :: st)) : Z κ X pc lv (.long x :: st) := by
  obtain ⟨p, l, e, R, s, m, args, below, meth, c, Q, A, θ', n⟩ := κ
  obtain ⟨rfl, rfl, rfl, hR, hx, hb, hml, hown, hts, hK, hN, hA⟩ := C
  subst hR
  intro H locs ls hP hD hS hl
  exact lv_l2i hx hb hd rfl (kk H locs ls hP hD hS hl)
theorem z_dup (C : zC κ l0 cc n0 own Ts kf θ) {v : Value} (hd : decode cc pc = .ok (.dup, 1)) (hv : v.category = 1) (kk : Z κ X (pc + 1) lv (v :: v :: st)) : Z κ X pc lv (v :: st) := by
  obtain ⟨p, l, e, R, s, m, args, below, meth, c, Q, A, θ', n⟩ := κ
  obtain ⟨rfl, rfl, rfl, hR, hx, hb, hml, hown, hts, hK, hN, hA⟩ := C
  subst hR
  intro H locs ls hP hD hS hl
  exact lv_dup hx hb hd hv (kk H locs ls hP hD hS hl)
theorem z_dup2 (C : zC κ l0 cc n0 own Ts kf θ) {v u : Value} (hd : decode cc pc = .ok (.dup2, 1)) (hv : v.category = 1) (hu : u.category = 1) (kk : Z κ X (pc + 1) lv (v :: u :: v :: u :: st)) : Z κ X pc lv (v :: u :: st) := by
  obtain ⟨p, l, e, R, s, m, args, below, meth, c, Q, A, θ', n⟩ := κ
  obtain ⟨rfl, rfl, rfl, hR, hx, hb, hml, hown, hts, hK, hN, hA⟩ := C
  subst hR
  intro H locs ls hP hD hS hl
  exact lv_dup2_11 hx hb hd hv hu (kk H locs ls hP hD hS hl)
theorem z_if_eq (C : zC κ l0 cc n0 own Ts kf θ) {x : Int32} {off : Int} (tgt : Nat) (hd : decode cc pc = .ok (.ifCond .eq off, 3)) (ht : (pc : Int) + off = (tgt : Int)) (kt : x = 0 → Z κ X tgt lv st) (kn : ¬ x = 0 → Z κ X (pc + 3) lv st) : Z κ X pc lv (.int x :: st) := by
  obtain ⟨p, l, e, R, s, m, args, below, meth, c, Q, A, θ', n⟩ := κ
  obtain ⟨rfl, rfl, rfl, hR, hx, hb, hml, hown, hts, hK, hN, hA⟩ := C
  subst hR
  intro H locs ls hP hD hS hl
  exact lv_if_eq hx hb hd ht (fun h => kt h H locs ls hP hD hS hl) (fun h => kn h H locs ls hP hD hS hl)
theorem z_icmp_eq (C : zC κ l0 cc n0 own Ts kf θ) {x y : Int32} {off : Int} (tgt : Nat) (hd : decode cc pc = .ok (.if_icmp .eq off, 3)) (ht : (pc : Int) + off = (tgt : Int)) (kt : x = y → Z κ X tgt lv st) (kn : ¬ x = y → Z κ X (pc + 3) lv st) : Z κ X pc lv (.int y :: .int x :: st) := by
  obtain ⟨p, l, e, R, s, m, args, below, meth, c, Q, A, θ', n⟩ := κ
  obtain ⟨rfl, rfl, rfl, hR, hx, hb, hml, hown, hts, hK, hN, hA⟩ := C
  subst hR
  intro H locs ls hP hD hS hl
  exact lv_icmp_eq hx hb hd ht (fun h => kt h H locs ls hP hD hS hl) (fun h => kn h H locs ls hP hD hS hl)
theorem z_if_ne (C : zC κ l0 cc n0 own Ts kf θ) {x : Int32} {off : Int} (tgt : Nat) (hd : decode cc pc = .ok (.ifCond .ne off, 3)) (ht : (pc : Int) + off = (tgt : Int)) (kt : ¬ x = 0 → Z κ X tgt lv st) (kn : x = 0 → Z κ X (pc + 3) lv st) : Z κ X pc lv (.int x :: st) := by
  obtain ⟨p, l, e, R, s, m, args, below, meth, c, Q, A, θ', n⟩ := κ
  obtain ⟨rfl, rfl, rfl, hR, hx, hb, hml, hown, hts, hK, hN, hA⟩ := C
  subst hR
  intro H locs ls hP hD hS hl
  exact lv_if_ne hx hb hd ht (fun h => kt h H locs ls hP hD hS hl) (fun h => kn h H locs ls hP hD hS hl)
theorem z_icmp_ne (C : zC κ l0 cc n0 own Ts kf θ) {x y : Int32} {off : Int} (tgt : Nat) (hd : decode cc pc = .ok (.if_icmp .ne off, 3)) (ht : (pc : Int) + off = (tgt : Int)) (kt : ¬ x = y → Z κ X tgt lv st) (kn : x = y → Z κ X (pc + 3) lv st) : Z κ X pc lv (.int y :: .int x :: st) := by
  obtain ⟨p, l, e, R, s, m, args, below, meth, c, Q, A, θ', n⟩ := κ
  obtain ⟨rfl, rfl, rfl, hR, hx, hb, hml, hown, hts, hK, hN, hA⟩ := C
  subst hR
  intro H locs ls hP hD hS hl
  exact lv_icmp_ne hx hb hd ht (fun h => kt h H locs ls hP hD hS hl) (fun h => kn h H locs ls hP hD hS hl)
theorem z_if_lt (C : zC κ l0 cc n0 own Ts kf θ) {x : Int32} {off : Int} (tgt : Nat) (hd : decode cc pc = .ok (.ifCond .lt off, 3)) (ht : (pc : Int) + off = (tgt : Int)) (kt : x < 0 → Z κ X tgt lv st) (kn : ¬ x < 0 → Z κ X (pc + 3) lv st) : Z κ X pc lv (.int x :: st) := by
  obtain ⟨p, l, e, R, s, m, args, below, meth, c, Q, A, θ', n⟩ := κ
  obtain ⟨rfl, rfl, rfl, hR, hx, hb, hml, hown, hts, hK, hN, hA⟩ := C
  subst hR
  intro H locs ls hP hD hS hl
  exact lv_if_lt hx hb hd ht (fun h => kt h H locs ls hP hD hS hl) (fun h => kn h H locs ls hP hD hS hl)
theorem z_icmp_lt (C : zC κ l0 cc n0 own Ts kf θ) {x y : Int32} {off : Int} (tgt : Nat) (hd : decode cc pc = .ok (.if_icmp .lt off, 3)) (ht : (pc : Int) + off = (tgt : Int)) (kt : x < y → Z κ X tgt lv st) (kn : ¬ x < y → Z κ X (pc + 3) lv st) : Z κ X pc lv (.int y :: .int x :: st) := by
  obtain ⟨p, l, e, R, s, m, args, below, meth, c, Q, A, θ', n⟩ := κ
  obtain ⟨rfl, rfl, rfl, hR, hx, hb, hml, hown, hts, hK, hN, hA⟩ := C
  subst hR
  intro H locs ls hP hD hS hl
  exact lv_icmp_lt hx hb hd ht (fun h => kt h H locs ls hP hD hS hl) (fun h => kn h H locs ls hP hD hS hl)
theorem z_if_ge (C : zC κ l0 cc n0 own Ts kf θ) {x : Int32} {off : Int} (tgt : Nat) (hd : decode cc pc = .ok (.ifCond .ge off, 3)) (ht : (pc : Int) + off = (tgt : Int)) (kt : 0 ≤ x → Z κ X tgt lv st) (kn : ¬ 0 ≤ x → Z κ X (pc + 3) lv st) : Z κ X pc lv (.int x :: st) := by
  obtain ⟨p, l, e, R, s, m, args, below, meth, c, Q, A, θ', n⟩ := κ
  obtain ⟨rfl, rfl, rfl, hR, hx, hb, hml, hown, hts, hK, hN, hA⟩ := C
  subst hR
  intro H locs ls hP hD hS hl
  exact lv_if_ge hx hb hd ht (fun h => kt h H locs ls hP hD hS hl) (fun h => kn h H locs ls hP hD hS hl)
theorem z_icmp_ge (C : zC κ l0 cc n0 own Ts kf θ) {x y : Int32} {off : Int} (tgt : Nat) (hd : decode cc pc = .ok (.if_icmp .ge off, 3)) (ht : (pc : Int) + off = (tgt : Int)) (kt : y ≤ x → Z κ X tgt lv st) (kn : ¬ y ≤ x → Z κ X (pc + 3) lv st) : Z κ X pc lv (.int y :: .int x :: st) := by
  obtain ⟨p, l, e, R, s, m, args, below, meth, c, Q, A, θ', n⟩ := κ
  obtain ⟨rfl, rfl, rfl, hR, hx, hb, hml, hown, hts, hK, hN, hA⟩ := C
  subst hR
  intro H locs ls hP hD hS hl
  exact lv_icmp_ge hx hb hd ht (fun h => kt h H locs ls hP hD hS hl) (fun h => kn h H locs ls hP hD hS hl)
theorem z_if_gt (C : zC κ l0 cc n0 own Ts kf θ) {x : Int32} {off : Int} (tgt : Nat) (hd : decode cc pc = .ok (.ifCond .gt off, 3)) (ht : (pc : Int) + off = (tgt : Int)) (kt : 0 < x → Z κ X tgt lv st) (kn : ¬ 0 < x → Z κ X (pc + 3) lv st) : Z κ X pc lv (.int x :: st) := by
  obtain ⟨p, l, e, R, s, m, args, below, meth, c, Q, A, θ', n⟩ := κ
  obtain ⟨rfl, rfl, rfl, hR, hx, hb, hml, hown, hts, hK, hN, hA⟩ := C
  subst hR
  intro H locs ls hP hD hS hl
  exact lv_if_gt hx hb hd ht (fun h => kt h H locs ls hP hD hS hl) (fun h => kn h H locs ls hP hD hS hl)
theorem z_icmp_gt (C : zC κ l0 cc n0 own Ts kf θ) {x y : Int32} {off : Int} (tgt : Nat) (hd : decode cc pc = .ok (.if_icmp .gt off, 3)) (ht : (pc : Int) + off = (tgt : Int)) (kt : y < x → Z κ X tgt lv st) (kn : ¬ y < x → Z κ X (pc + 3) lv st) : Z κ X pc lv (.int y :: .int x :: st) := by
  obtain ⟨p, l, e, R, s, m, args, below, meth, c, Q, A, θ', n⟩ := κ
  obtain ⟨rfl, rfl, rfl, hR, hx, hb, hml, hown, hts, hK, hN, hA⟩ := C
  subst hR
  intro H locs ls hP hD hS hl
  exact lv_icmp_gt hx hb hd ht (fun h => kt h H locs ls hP hD hS hl) (fun h => kn h H locs ls hP hD hS hl)
theorem z_if_le (C : zC κ l0 cc n0 own Ts kf θ) {x : Int32} {off : Int} (tgt : Nat) (hd : decode cc pc = .ok (.ifCond .le off, 3)) (ht : (pc : Int) + off = (tgt : Int)) (kt : x ≤ 0 → Z κ X tgt lv st) (kn : ¬ x ≤ 0 → Z κ X (pc + 3) lv st) : Z κ X pc lv (.int x :: st) := by
  obtain ⟨p, l, e, R, s, m, args, below, meth, c, Q, A, θ', n⟩ := κ
  obtain ⟨rfl, rfl, rfl, hR, hx, hb, hml, hown, hts, hK, hN, hA⟩ := C
  subst hR
  intro H locs ls hP hD hS hl
  exact lv_if_le hx hb hd ht (fun h => kt h H locs ls hP hD hS hl) (fun h => kn h H locs ls hP hD hS hl)
theorem z_icmp_le (C : zC κ l0 cc n0 own Ts kf θ) {x y : Int32} {off : Int} (tgt : Nat) (hd : decode cc pc = .ok (.if_icmp .le off, 3)) (ht : (pc : Int) + off = (tgt : Int)) (kt : x ≤ y → Z κ X tgt lv st) (kn : ¬ x ≤ y → Z κ X (pc + 3) lv st) : Z κ X pc lv (.int y :: .int x :: st) := by
  obtain ⟨p, l, e, R, s, m, args, below, meth, c, Q, A, θ', n⟩ := κ
  obtain ⟨rfl, rfl, rfl, hR, hx, hb, hml, hown, hts, hK, hN, hA⟩ := C
  subst hR
  intro H locs ls hP hD hS hl
  exact lv_icmp_le hx hb hd ht (fun h => kt h H locs ls hP hD hS hl) (fun h => kn h H locs ls hP hD hS hl)
theorem z_goto (C : zC κ l0 cc n0 own Ts kf θ) {off : Int} (tgt : Nat) (hd : decode cc pc = .ok (.goto off, 3)) (ht : (pc : Int) + off = (tgt : Int)) (kk : Z κ X tgt lv st) : Z κ X pc lv st := by
  obtain ⟨p, l, e, R, s, m, args, below, meth, c, Q, A, θ', n⟩ := κ
  obtain ⟨rfl, rfl, rfl, hR, hx, hb, hml, hown, hts, hK, hN, hA⟩ := C
  subst hR
  intro H locs ls hP hD hS hl
  exact lv_goto hx hb hd ht (kk H locs ls hP hD hS hl)
theorem z_tableOut (C : zC κ l0 cc n0 own Ts kf θ) {dflt lo hi : Int} {offs : Array Int} {len : Nat} {x : Int32} (tgt : Nat) (hd : decode cc pc = .ok (.tableswitch dflt lo hi offs, len)) (h : x.toInt < lo ∨ hi < x.toInt) (ht : (pc : Int) + dflt = (tgt : Int)) (kk : Z κ X tgt lv st) : Z κ X pc lv (.int x :: st) := by
  obtain ⟨p, l, e, R, s, m, args, below, meth, c, Q, A, θ', n⟩ := κ
  obtain ⟨rfl, rfl, rfl, hR, hx, hb, hml, hown, hts, hK, hN, hA⟩ := C
  subst hR
  intro H locs ls hP hD hS hl
  exact lv_tableOut hx hb hd h ht (kk H locs ls hP hD hS hl)
theorem z_tableIn (C : zC κ l0 cc n0 own Ts kf θ) {dflt lo hi : Int} {offs : Array Int} {len : Nat} {x : Int32} {off : Int} (tgt : Nat) (hd : decode cc pc = .ok (.tableswitch dflt lo hi offs, len)) (h1 : ¬ x.toInt < lo) (h2 : ¬ hi < x.toInt) (ho : offs[(x.toInt - lo).toNat]? = some off) (ht : (pc : Int) + off = (tgt : Int)) (kk : Z κ X tgt lv st) : Z κ X pc lv (.int x :: st) := by
  obtain ⟨p, l, e, R, s, m, args, below, meth, c, Q, A, θ', n⟩ := κ
  obtain ⟨rfl, rfl, rfl, hR, hx, hb, hml, hown, hts, hK, hN, hA⟩ := C
  subst hR
  intro H locs ls hP hD hS hl
  exact lv_tableIn hx hb hd h1 h2 ho ht (kk H locs ls hP hD hS hl)
theorem z_get (C : zC κ l0 cc n0 own Ts kf θ) {a N ci index : Nat} {Cn : String} {T : u_T} {fs : List Value} {v : Value} (hin : ∀ w ∈ u_ws Cn T N, w ∈ Ts) (q0 : Nat) (he : X[q0]? = some (a, .inr (ci, fs))) (hc : vwCl[ci]? = some (Cn, T, N)) (j : Nat) (hj : j < N) (hm : Cond.fieldLink own index (T j).1 (T j).2.1 (T j).2.2.1 ∈ Ts) (hv : fs[j]? = some v) (hd : decode cc pc = .ok (.getfield index, 3)) (kk : Z κ X (pc + 3) lv (v :: st)) : Z κ X pc lv (.ref a :: st) := by
  obtain ⟨p, l, e, R, s, m, args, below, meth, c, Q, A, θ', n⟩ := κ
  obtain ⟨rfl, rfl, rfl, hR, hx, hb, hml, hown, hts, hK, hN, hA⟩ := C
  subst hR
  intro H locs ls hP hD hS hl
  exact va_get hx hb hts hin hown hK hP q0 he hc j hj (hts _ hm) (fun _ h9 => h9) hv hd (kk H locs ls hP hD hS hl)
theorem z_getN (C : zC κ l0 cc n0 own Ts kf θ) {a N ci index : Nat} {Cn host : String} {T : u_T} {fs : List Value} {v : Value} (hin : ∀ w ∈ u_ws Cn T N, w ∈ Ts) (q0 : Nat) (he : X[q0]? = some (a, .inr (ci, fs))) (hc : vwCl[ci]? = some (Cn, T, N)) (j : Nat) (hj : j < N) (hm : (own, index, (T j).1, (T j).2.1, (T j).2.2.1, host) ∈ zNF) (hv : fs[j]? = some v) (hd : decode cc pc = .ok (.getfield index, 3)) (kk : Z κ X (pc + 3) lv (v :: st)) : Z κ X pc lv (.ref a :: st) := by
  obtain ⟨p, l, e, R, s, m, args, below, meth, c, Q, A, θ', n⟩ := κ
  obtain ⟨rfl, rfl, rfl, hR, hx, hb, hml, hown, hts, hK, hN, hA⟩ := C
  subst hR
  intro H locs ls hP hD hS hl
  exact va_getN hx hb hts hin hown hK hP q0 he hc j hj (va_Nw.use rfl (hN.1 _ hm)) (fun _ h9 => h9) hv hd (kk H locs ls hP hD hS hl)
theorem z_put (C : zC κ l0 cc n0 own Ts kf θ) {a N ci index : Nat} {Cn : String} {T : u_T} {fs : List Value} {v : Value} {ty : FieldType} (hin : ∀ w ∈ u_ws Cn T N, w ∈ Ts) (ty0 : Nat → FieldType) (hty : ∀ k, k < N → parseFieldDescriptor (T k).2.2.1 = some (ty0 k)) (hnm : ∀ a, a < N → ∀ b, b < N → a ≠ b → (T a).2.1 ≠ (T b).2.1) (q0 : Nat) (he : X[q0]? = some (a, .inr (ci, fs))) (hc : vwCl[ci]? = some (Cn, T, N)) (j : Nat) (hj : j < N) (hm : Cond.fieldLink own index (T j).1 (T j).2.1 (T j).2.2.1 ∈ Ts) (hfin : (T j).2.2.2 = false) (hty1 : ty0 j = ty) (hn : narrow ty v = v) (hfit : fits ty v = true) (hl : j < fs.length) (Y : va_W) (hY : X.set q0 (a, .inr (ci, fs.set j v)) = Y) (hd : decode cc pc = .ok (.putfield index, 3)) (kk : Z κ Y (pc + 3) lv st) : Z κ X pc lv (v :: .ref a :: st) := by
  obtain ⟨p, l, e, R, s, m, args, below, meth, c, Q, A, θ', n⟩ := κ
  obtain ⟨rfl, rfl, rfl, hR, hx, hb, hml, hown, hts, hK, hN, hA⟩ := C
  subst hR
  intro H locs ls hP hD hS hl
  rename_i hl0
  subst hY
  exact va_put hx hb hts hin ty0 hty hnm hown hK hP hD hS q0 he hc j hj (hts _ hm) (fun _ h9 => h9) hfin (hty1 ▸ hty j hj) hn hfit hl0 hd (fun H locs hP hD hS => kk H locs ls hP hD hS hl)
theorem z_putN (C : zC κ l0 cc n0 own Ts kf θ) {a N ci index : Nat} {Cn host : String} {T : u_T} {fs : List Value} {v : Value} {ty : FieldType} (hin : ∀ w ∈ u_ws Cn T N, w ∈ Ts) (ty0 : Nat → FieldType) (hty : ∀ k, k < N → parseFieldDescriptor (T k).2.2.1 = some (ty0 k)) (hnm : ∀ a, a < N → ∀ b, b < N → a ≠ b → (T a).2.1 ≠ (T b).2.1) (q0 : Nat) (he : X[q0]? = some (a, .inr (ci, fs))) (hc : vwCl[ci]? = some (Cn, T, N)) (j : Nat) (hj : j < N) (hm : (own, index, (T j).1, (T j).2.1, (T j).2.2.1, host) ∈ zNF) (hfin : (T j).2.2.2 = false) (hty1 : ty0 j = ty) (hn : narrow ty v = v) (hfit : fits ty v = true) (hl : j < fs.length) (Y : va_W) (hY : X.set q0 (a, .inr (ci, fs.set j v)) = Y) (hd : decode cc pc = .ok (.putfield index, 3)) (kk : Z κ Y (pc + 3) lv st) : Z κ X pc lv (v :: .ref a :: st) := by
  obtain ⟨p, l, e, R, s, m, args, below, meth, c, Q, A, θ', n⟩ := κ
  obtain ⟨rfl, rfl, rfl, hR, hx, hb, hml, hown, hts, hK, hN, hA⟩ := C
  subst hR
  intro H locs ls hP hD hS hl
  rename_i hl0
  subst hY
  exact va_putN hx hb hts hin ty0 hty hnm hown hK hP hD hS q0 he hc j hj (va_Nw.use rfl (hN.1 _ hm)) (fun _ h9 => h9) hfin (hty1 ▸ hty j hj) hn hfit hl0 hd (fun H locs hP hD hS => kk H locs ls hP hD hS hl)
theorem z_iald (C : zC κ l0 cc n0 own Ts kf θ) {a n : Nat} {f : Nat → Int32} {i : Int32} (q0 : Nat) (he : X[q0]? = some (a, .inl (θ.2.1, n, .inl f))) (j : Nat) (hi : i = nI j) (hj : j < n) (hn : n < 2 ^ 31) (hd : decode cc pc = .ok (.iaload, 1)) (kk : Z κ X (pc + 1) lv (.int (f j) :: st)) : Z κ X pc lv (.int i :: .ref a :: st) := by
  obtain ⟨p, l, e, R, s, m, args, below, meth, c, Q, A, θ', n⟩ := κ
  obtain ⟨rfl, rfl, rfl, hR, hx, hb, hml, hown, hts, hK, hN, hA⟩ := C
  subst hR
  intro H locs ls hP hD hS hl
  subst hi
  refine va_iald hx hb hK hP q0 0 he rfl (vp_in_nI hj hn) hd ?_
  rw [nI_clamp (Nat.lt_trans hj hn)]
  exact kk H locs ls hP hD hS hl
theorem z_zald (C : zC κ l0 cc n0 own Ts kf θ) {a n : Nat} {f : Nat → Int32} {i : Int32} (q0 : Nat) (he : X[q0]? = some (a, .inl (θ.2.2.1, n, .inl f))) (j : Nat) (hi : i = nI j) (hj : j < n) (hn : n < 2 ^ 31) (hd : decode cc pc = .ok (.baload, 1)) (kk : Z κ X (pc + 1) lv (.int (f j) :: st)) : Z κ X pc lv (.int i :: .ref a :: st) := by
  obtain ⟨p, l, e, R, s, m, args, below, meth, c, Q, A, θ', n⟩ := κ
  obtain ⟨rfl, rfl, rfl, hR, hx, hb, hml, hown, hts, hK, hN, hA⟩ := C
  subst hR
  intro H locs ls hP hD hS hl
  subst hi
  refine va_zald hx hb hK hP q0 1 he rfl (vp_in_nI hj hn) hd ?_
  rw [nI_clamp (Nat.lt_trans hj hn)]
  exact kk H locs ls hP hD hS hl
theorem z_iast (C : zC κ l0 cc n0 own Ts kf θ) {a n : Nat} {f : Nat → Int32} {i v : Int32} (q0 : Nat) (he : X[q0]? = some (a, .inl (θ.2.1, n, .inl f))) (j : Nat) (hi : i = nI j) (hj : j < n) (hn : n < 2 ^ 31) (Y : va_W) (hY : X.set q0 (a, .inl (θ.2.1, n, .inl (upd f j v))) = Y) (hd : decode cc pc = .ok (.iastore, 1)) (kk : Z κ Y (pc + 1) lv st) : Z κ X pc lv (.int v :: .int i :: .ref a :: st) := by
  obtain ⟨p, l, e, R, s, m, args, below, meth, c, Q, A, θ', n⟩ := κ
  obtain ⟨rfl, rfl, rfl, hR, hx, hb, hml, hown, hts, hK, hN, hA⟩ := C
  subst hR
  intro H locs ls hP hD hS hl
  subst hi
  subst hY
  refine va_iast hx hb hK hP hD hS q0 0 he rfl (vp_in_nI hj hn) hd ?_
  rw [nI_clamp (Nat.lt_trans hj hn)]
  exact fun H locs hP hD hS => kk H locs ls hP hD hS hl
end ZR
end
section
set_option maxRecDepth 20000 in
theorem ggX6_init_X6_empties : GoodIn wsX6_init wsX6_empties := goodIn_r _ [29, 8, 30, 31, 32, 33, 34, 35, 36, 37, 38, 39, 40, 41, 42, 43, 44, 45, 46, 47, 48, 49, 50, 51, 52, 53, 54, 55, 56, 57, 58, 59, 60, 61, 62] (by decide +kernel) (by decide +kernel)
set_option maxRecDepth 20000 in
theorem gX6_init_X6_empties : GoodIn wsX6_init (wsV RX6 69 RX6 yX6_empties wsX6_empties) := goodIn_app (goodIn_of _ (by decide +kernel)) ggX6_init_X6_empties
theorem dX6_init_0 : decode cX6_init 0 = .ok (.aload_n 0, 1) := by decide +kernel
theorem dX6_init_1 : decode cX6_init 1 = .ok (.invokespecial 1, 3) := by decide +kernel
theorem dX6_init_4 : decode cX6_init 4 = .ok (.aload_n 0, 1) := by decide +kernel
theorem dX6_init_5 : decode cX6_init 5 = .ok (.bipush 6, 2) := by decide +kernel
theorem dX6_init_7 : decode cX6_init 7 = .ok (.newarray .int, 2) := by decide +kernel
theorem dX6_init_9 : decode cX6_init 9 = .ok (.putfield 7, 3) := by decide +kernel
theorem dX6_init_12 : decode cX6_init 12 = .ok (.aload_n 0, 1) := by decide +kernel
theorem dX6_init_13 : decode cX6_init 13 = .ok (.iconst 5, 1) := by decide +kernel
theorem dX6_init_14 : decode cX6_init 14 = .ok (.newarray .int, 2) := by decide +kernel
theorem dX6_init_16 : decode cX6_init 16 = .ok (.putfield 13, 3) := by decide +kernel
theorem dX6_init_19 : decode cX6_init 19 = .ok (.aload_n 0, 1) := by decide +kernel
theorem dX6_init_20 : decode cX6_init 20 = .ok (.bipush 6, 2) := by decide +kernel
theorem dX6_init_22 : decode cX6_init 22 = .ok (.newarray .int, 2) := by decide +kernel
theorem dX6_init_24 : decode cX6_init 24 = .ok (.putfield 16, 3) := by decide +kernel
theorem dX6_init_27 : decode cX6_init 27 = .ok (.aload_n 0, 1) := by decide +kernel
theorem dX6_init_28 : decode cX6_init 28 = .ok (.bipush 82, 2) := by decide +kernel
theorem dX6_init_30 : decode cX6_init 30 = .ok (.newarray .int, 2) := by decide +kernel
theorem dX6_init_32 : decode cX6_init 32 = .ok (.putfield 19, 3) := by decide +kernel
theorem dX6_init_35 : decode cX6_init 35 = .ok (.aload_n 0, 1) := by decide +kernel
theorem dX6_init_36 : decode cX6_init 36 = .ok (.sipush 240, 3) := by decide +kernel
theorem dX6_init_39 : decode cX6_init 39 = .ok (.newarray .int, 2) := by decide +kernel
theorem dX6_init_41 : decode cX6_init 41 = .ok (.putfield 22, 3) := by decide +kernel
theorem dX6_init_44 : decode cX6_init 44 = .ok (.aload_n 0, 1) := by decide +kernel
theorem dX6_init_45 : decode cX6_init 45 = .ok (.iconst (-1), 1) := by decide +kernel
theorem dX6_init_46 : decode cX6_init 46 = .ok (.putfield 25, 3) := by decide +kernel
theorem dX6_init_49 : decode cX6_init 49 = .ok (.aload_n 0, 1) := by decide +kernel
theorem dX6_init_50 : decode cX6_init 50 = .ok (.bipush 6, 2) := by decide +kernel
theorem dX6_init_52 : decode cX6_init 52 = .ok (.newarray .int, 2) := by decide +kernel
theorem dX6_init_54 : decode cX6_init 54 = .ok (.putfield 29, 3) := by decide +kernel
theorem dX6_init_57 : decode cX6_init 57 = .ok (.aload_n 0, 1) := by decide +kernel
theorem dX6_init_58 : decode cX6_init 58 = .ok (.iconst 5, 1) := by decide +kernel
theorem dX6_init_59 : decode cX6_init 59 = .ok (.newarray .int, 2) := by decide +kernel
theorem dX6_init_61 : decode cX6_init 61 = .ok (.putfield 32, 3) := by decide +kernel
theorem dX6_init_64 : decode cX6_init 64 = .ok (.aload_n 0, 1) := by decide +kernel
theorem dX6_init_65 : decode cX6_init 65 = .ok (.bipush 6, 2) := by decide +kernel
theorem dX6_init_67 : decode cX6_init 67 = .ok (.newarray .int, 2) := by decide +kernel
theorem dX6_init_69 : decode cX6_init 69 = .ok (.putfield 35, 3) := by decide +kernel
theorem dX6_init_72 : decode cX6_init 72 = .ok (.aload_n 0, 1) := by decide +kernel
theorem dX6_init_73 : decode cX6_init 73 = .ok (.sipush 1312, 3) := by decide +kernel
theorem dX6_init_76 : decode cX6_init 76 = .ok (.newarray .int, 2) := by decide +kernel
theorem dX6_init_78 : decode cX6_init 78 = .ok (.putfield 38, 3) := by decide +kernel
theorem dX6_init_81 : decode cX6_init 81 = .ok (.aload_n 0, 1) := by decide +kernel
theorem dX6_init_82 : decode cX6_init 82 = .ok (.bipush 6, 2) := by decide +kernel
theorem dX6_init_84 : decode cX6_init 84 = .ok (.newarray .int, 2) := by decide +kernel
theorem dX6_init_86 : decode cX6_init 86 = .ok (.putfield 41, 3) := by decide +kernel
theorem dX6_init_89 : decode cX6_init 89 = .ok (.aload_n 0, 1) := by decide +kernel
theorem dX6_init_90 : decode cX6_init 90 = .ok (.iconst 5, 1) := by decide +kernel
theorem dX6_init_91 : decode cX6_init 91 = .ok (.newarray .int, 2) := by decide +kernel
theorem dX6_init_93 : decode cX6_init 93 = .ok (.putfield 44, 3) := by decide +kernel
theorem dX6_init_96 : decode cX6_init 96 = .ok (.aload_n 0, 1) := by decide +kernel
theorem dX6_init_97 : decode cX6_init 97 = .ok (.bipush 30, 2) := by decide +kernel
theorem dX6_init_99 : decode cX6_init 99 = .ok (.newarray .int, 2) := by decide +kernel
theorem dX6_init_101 : decode cX6_init 101 = .ok (.putfield 47, 3) := by decide +kernel
theorem dX6_init_104 : decode cX6_init 104 = .ok (.aload_n 0, 1) := by decide +kernel
theorem dX6_init_105 : decode cX6_init 105 = .ok (.bipush 6, 2) := by decide +kernel
theorem dX6_init_107 : decode cX6_init 107 = .ok (.newarray .int, 2) := by decide +kernel
theorem dX6_init_109 : decode cX6_init 109 = .ok (.putfield 50, 3) := by decide +kernel
theorem dX6_init_112 : decode cX6_init 112 = .ok (.aload_n 0, 1) := by decide +kernel
theorem dX6_init_113 : decode cX6_init 113 = .ok (.bipush 6, 2) := by decide +kernel
theorem dX6_init_115 : decode cX6_init 115 = .ok (.newarray .int, 2) := by decide +kernel
theorem dX6_init_117 : decode cX6_init 117 = .ok (.putfield 53, 3) := by decide +kernel
theorem dX6_init_120 : decode cX6_init 120 = .ok (.aload_n 0, 1) := by decide +kernel
theorem dX6_init_121 : decode cX6_init 121 = .ok (.bipush 30, 2) := by decide +kernel
theorem dX6_init_123 : decode cX6_init 123 = .ok (.newarray .int, 2) := by decide +kernel
theorem dX6_init_125 : decode cX6_init 125 = .ok (.putfield 56, 3) := by decide +kernel
theorem dX6_init_128 : decode cX6_init 128 = .ok (.aload_n 0, 1) := by decide +kernel
theorem dX6_init_129 : decode cX6_init 129 = .ok (.sipush 166, 3) := by decide +kernel
theorem dX6_init_132 : decode cX6_init 132 = .ok (.newarray .int, 2) := by decide +kernel
theorem dX6_init_134 : decode cX6_init 134 = .ok (.putfield 59, 3) := by decide +kernel
theorem dX6_init_137 : decode cX6_init 137 = .ok (.aload_n 0, 1) := by decide +kernel
theorem dX6_init_138 : decode cX6_init 138 = .ok (.iconst 2, 1) := by decide +kernel
theorem dX6_init_139 : decode cX6_init 139 = .ok (.newarray .boolean, 2) := by decide +kernel
theorem dX6_init_141 : decode cX6_init 141 = .ok (.putfield 62, 3) := by decide +kernel
theorem dX6_init_144 : decode cX6_init 144 = .ok (.aload_n 0, 1) := by decide +kernel
theorem dX6_init_145 : decode cX6_init 145 = .ok (.iconst 0, 1) := by decide +kernel
theorem dX6_init_146 : decode cX6_init 146 = .ok (.putfield 66, 3) := by decide +kernel
theorem dX6_init_149 : decode cX6_init 149 = .ok (.aload_n 0, 1) := by decide +kernel
theorem dX6_init_150 : decode cX6_init 150 = .ok (.invokevirtual 69, 3) := by decide +kernel
theorem dX6_init_153 : decode cX6_init 153 = .ok (.return_, 1) := by decide +kernel
theorem dX6_in_0 : decode cX6_in 0 = .ok (.lload_n 0, 1) := by decide +kernel
theorem dX6_in_1 : decode cX6_in 1 = .ok (.lload_n 2, 1) := by decide +kernel
theorem dX6_in_2 : decode cX6_in 2 = .ok (.lcmp, 1) := by decide +kernel
theorem dX6_in_3 : decode cX6_in 3 = .ok (.ifCond .lt 14, 3) := by decide +kernel
theorem dX6_in_6 : decode cX6_in 6 = .ok (.lload_n 0, 1) := by decide +kernel
theorem dX6_in_7 : decode cX6_in 7 = .ok (.lload 4, 2) := by decide +kernel
theorem dX6_in_9 : decode cX6_in 9 = .ok (.lcmp, 1) := by decide +kernel
theorem dX6_in_10 : decode cX6_in 10 = .ok (.ifCond .gt 7, 3) := by decide +kernel
theorem dX6_in_13 : decode cX6_in 13 = .ok (.iconst 1, 1) := by decide +kernel
theorem dX6_in_14 : decode cX6_in 14 = .ok (.goto 4, 3) := by decide +kernel
theorem dX6_in_17 : decode cX6_in 17 = .ok (.iconst 0, 1) := by decide +kernel
theorem dX6_in_18 : decode cX6_in 18 = .ok (.ireturn, 1) := by decide +kernel
theorem dX6_has_0 : decode cX6_has 0 = .ok (.iload_n 0, 1) := by decide +kernel
theorem dX6_has_1 : decode cX6_has 1 = .ok (.iload_n 1, 1) := by decide +kernel
theorem dX6_has_2 : decode cX6_has 2 = .ok (.ishr, 1) := by decide +kernel
theorem dX6_has_3 : decode cX6_has 3 = .ok (.iconst 1, 1) := by decide +kernel
theorem dX6_has_4 : decode cX6_has 4 = .ok (.iand, 1) := by decide +kernel
theorem dX6_has_5 : decode cX6_has 5 = .ok (.iconst 1, 1) := by decide +kernel
theorem dX6_has_6 : decode cX6_has 6 = .ok (.if_icmp .ne 7, 3) := by decide +kernel
theorem dX6_has_9 : decode cX6_has 9 = .ok (.iconst 1, 1) := by decide +kernel
theorem dX6_has_10 : decode cX6_has 10 = .ok (.goto 4, 3) := by decide +kernel
theorem dX6_has_13 : decode cX6_has 13 = .ok (.iconst 0, 1) := by decide +kernel
theorem dX6_has_14 : decode cX6_has 14 = .ok (.ireturn, 1) := by decide +kernel
theorem dX6_ones_0 : decode cX6_ones 0 = .ok (.iconst 0, 1) := by decide +kernel
theorem dX6_ones_1 : decode cX6_ones 1 = .ok (.istore_n 1, 1) := by decide +kernel
theorem dX6_ones_2 : decode cX6_ones 2 = .ok (.iconst 0, 1) := by decide +kernel
theorem dX6_ones_3 : decode cX6_ones 3 = .ok (.istore_n 2, 1) := by decide +kernel
theorem dX6_ones_4 : decode cX6_ones 4 = .ok (.iload_n 2, 1) := by decide +kernel
theorem dX6_ones_5 : decode cX6_ones 5 = .ok (.bipush 30, 2) := by decide +kernel
theorem dX6_ones_7 : decode cX6_ones 7 = .ok (.if_icmp .ge 17, 3) := by decide +kernel
theorem dX6_ones_10 : decode cX6_ones 10 = .ok (.iload_n 1, 1) := by decide +kernel
theorem dX6_ones_11 : decode cX6_ones 11 = .ok (.iload_n 0, 1) := by decide +kernel
theorem dX6_ones_12 : decode cX6_ones 12 = .ok (.iload_n 2, 1) := by decide +kernel
theorem dX6_ones_13 : decode cX6_ones 13 = .ok (.ishr, 1) := by decide +kernel
theorem dX6_ones_14 : decode cX6_ones 14 = .ok (.iconst 1, 1) := by decide +kernel
theorem dX6_ones_15 : decode cX6_ones 15 = .ok (.iand, 1) := by decide +kernel
theorem dX6_ones_16 : decode cX6_ones 16 = .ok (.iadd, 1) := by decide +kernel
theorem dX6_ones_17 : decode cX6_ones 17 = .ok (.istore_n 1, 1) := by decide +kernel
theorem dX6_ones_18 : decode cX6_ones 18 = .ok (.iinc 2 1, 3) := by decide +kernel
theorem dX6_ones_21 : decode cX6_ones 21 = .ok (.goto (-17), 3) := by decide +kernel
theorem dX6_ones_24 : decode cX6_ones 24 = .ok (.iload_n 1, 1) := by decide +kernel
theorem dX6_ones_25 : decode cX6_ones 25 = .ok (.ireturn, 1) := by decide +kernel
theorem dX6_isCapital_0 : decode cX6_isCapital 0 = .ok (.aload_n 0, 1) := by decide +kernel
theorem dX6_isCapital_1 : decode cX6_isCapital 1 = .ok (.getfield 66, 3) := by decide +kernel
theorem dX6_isCapital_4 : decode cX6_isCapital 4 = .ok (.ifCond .le 7, 3) := by decide +kernel
theorem dX6_isCapital_7 : decode cX6_isCapital 7 = .ok (.iconst 1, 1) := by decide +kernel
theorem dX6_isCapital_8 : decode cX6_isCapital 8 = .ok (.goto 4, 3) := by decide +kernel
theorem dX6_isCapital_11 : decode cX6_isCapital 11 = .ok (.iconst 0, 1) := by decide +kernel
theorem dX6_isCapital_12 : decode cX6_isCapital 12 = .ok (.ireturn, 1) := by decide +kernel
set_option maxRecDepth 20000 in
theorem ggX6_isSitter_X6_in : GoodIn wsX6_isSitter wsX6_in := goodIn_r _ [5] (by decide +kernel) (by decide +kernel)
set_option maxRecDepth 20000 in
theorem gX6_isSitter_X6_in : GoodIn wsX6_isSitter (va_wsS RX6 75 yX6_in wsX6_in) := goodIn_app (goodIn_of _ (by decide +kernel)) ggX6_isSitter_X6_in
theorem dX6_isSitter_0 : decode cX6_isSitter 0 = .ok (.iload_n 1, 1) := by decide +kernel
theorem dX6_isSitter_1 : decode cX6_isSitter 1 = .ok (.i2l, 1) := by decide +kernel
theorem dX6_isSitter_2 : decode cX6_isSitter 2 = .ok (.lconst 0, 1) := by decide +kernel
theorem dX6_isSitter_3 : decode cX6_isSitter 3 = .ok (.aload_n 0, 1) := by decide +kernel
theorem dX6_isSitter_4 : decode cX6_isSitter 4 = .ok (.getfield 72, 3) := by decide +kernel
theorem dX6_isSitter_7 : decode cX6_isSitter 7 = .ok (.iconst 1, 1) := by decide +kernel
theorem dX6_isSitter_8 : decode cX6_isSitter 8 = .ok (.isub, 1) := by decide +kernel
theorem dX6_isSitter_9 : decode cX6_isSitter 9 = .ok (.i2l, 1) := by decide +kernel
theorem dX6_isSitter_10 : decode cX6_isSitter 10 = .ok (.invokestatic 75, 3) := by decide +kernel
theorem dX6_isSitter_13 : decode cX6_isSitter 13 = .ok (.ireturn, 1) := by decide +kernel
set_option maxRecDepth 20000 in
theorem ggX6_isWindow_X6_in : GoodIn wsX6_isWindow wsX6_in := goodIn_r _ [5] (by decide +kernel) (by decide +kernel)
set_option maxRecDepth 20000 in
theorem gX6_isWindow_X6_in : GoodIn wsX6_isWindow (va_wsS RX6 75 yX6_in wsX6_in) := goodIn_app (goodIn_of _ (by decide +kernel)) ggX6_isWindow_X6_in
theorem dX6_isWindow_0 : decode cX6_isWindow 0 = .ok (.iload_n 1, 1) := by decide +kernel
theorem dX6_isWindow_1 : decode cX6_isWindow 1 = .ok (.i2l, 1) := by decide +kernel
theorem dX6_isWindow_2 : decode cX6_isWindow 2 = .ok (.lconst 0, 1) := by decide +kernel
theorem dX6_isWindow_3 : decode cX6_isWindow 3 = .ok (.aload_n 0, 1) := by decide +kernel
theorem dX6_isWindow_4 : decode cX6_isWindow 4 = .ok (.getfield 79, 3) := by decide +kernel
theorem dX6_isWindow_7 : decode cX6_isWindow 7 = .ok (.iconst 1, 1) := by decide +kernel
theorem dX6_isWindow_8 : decode cX6_isWindow 8 = .ok (.isub, 1) := by decide +kernel
theorem dX6_isWindow_9 : decode cX6_isWindow 9 = .ok (.i2l, 1) := by decide +kernel
theorem dX6_isWindow_10 : decode cX6_isWindow 10 = .ok (.invokestatic 75, 3) := by decide +kernel
theorem dX6_isWindow_13 : decode cX6_isWindow 13 = .ok (.ireturn, 1) := by decide +kernel
theorem dX6_empties_0 : decode cX6_empties 0 = .ok (.iconst 0, 1) := by decide +kernel
theorem dX6_empties_1 : decode cX6_empties 1 = .ok (.istore_n 1, 1) := by decide +kernel
theorem dX6_empties_2 : decode cX6_empties 2 = .ok (.iload_n 1, 1) := by decide +kernel
theorem dX6_empties_3 : decode cX6_empties 3 = .ok (.bipush 82, 2) := by decide +kernel
theorem dX6_empties_5 : decode cX6_empties 5 = .ok (.if_icmp .ge 16, 3) := by decide +kernel
theorem dX6_empties_8 : decode cX6_empties 8 = .ok (.aload_n 0, 1) := by decide +kernel
theorem dX6_empties_9 : decode cX6_empties 9 = .ok (.getfield 19, 3) := by decide +kernel
theorem dX6_empties_12 : decode cX6_empties 12 = .ok (.iload_n 1, 1) := by decide +kernel
theorem dX6_empties_13 : decode cX6_empties 13 = .ok (.iconst 0, 1) := by decide +kernel
theorem dX6_empties_14 : decode cX6_empties 14 = .ok (.iastore, 1) := by decide +kernel
theorem dX6_empties_15 : decode cX6_empties 15 = .ok (.iinc 1 1, 3) := by decide +kernel
theorem dX6_empties_18 : decode cX6_empties 18 = .ok (.goto (-16), 3) := by decide +kernel
theorem dX6_empties_21 : decode cX6_empties 21 = .ok (.iconst 0, 1) := by decide +kernel
theorem dX6_empties_22 : decode cX6_empties 22 = .ok (.istore_n 1, 1) := by decide +kernel
theorem dX6_empties_23 : decode cX6_empties 23 = .ok (.iload_n 1, 1) := by decide +kernel
theorem dX6_empties_24 : decode cX6_empties 24 = .ok (.bipush 6, 2) := by decide +kernel
theorem dX6_empties_26 : decode cX6_empties 26 = .ok (.if_icmp .ge 19, 3) := by decide +kernel
theorem dX6_empties_29 : decode cX6_empties 29 = .ok (.aload_n 0, 1) := by decide +kernel
theorem dX6_empties_30 : decode cX6_empties 30 = .ok (.getfield 19, 3) := by decide +kernel
theorem dX6_empties_33 : decode cX6_empties 33 = .ok (.bipush 6, 2) := by decide +kernel
theorem dX6_empties_35 : decode cX6_empties 35 = .ok (.iload_n 1, 1) := by decide +kernel
theorem dX6_empties_36 : decode cX6_empties 36 = .ok (.iadd, 1) := by decide +kernel
theorem dX6_empties_37 : decode cX6_empties 37 = .ok (.iconst (-1), 1) := by decide +kernel
theorem dX6_empties_38 : decode cX6_empties 38 = .ok (.iastore, 1) := by decide +kernel
theorem dX6_empties_39 : decode cX6_empties 39 = .ok (.iinc 1 1, 3) := by decide +kernel
theorem dX6_empties_42 : decode cX6_empties 42 = .ok (.goto (-19), 3) := by decide +kernel
theorem dX6_empties_45 : decode cX6_empties 45 = .ok (.return_, 1) := by decide +kernel
set_option maxRecDepth 20000 in
theorem ggX6_feed_X6_in : GoodIn wsX6_feed wsX6_in := goodIn_r _ [9] (by decide +kernel) (by decide +kernel)
set_option maxRecDepth 20000 in
theorem gX6_feed_X6_in : GoodIn wsX6_feed (va_wsS RX6 75 yX6_in wsX6_in) := goodIn_app (goodIn_of _ (by decide +kernel)) ggX6_feed_X6_in
theorem dX6_feed_0 : decode cX6_feed 0 = .ok (.iload_n 1, 1) := by decide +kernel
theorem dX6_feed_1 : decode cX6_feed 1 = .ok (.i2l, 1) := by decide +kernel
theorem dX6_feed_2 : decode cX6_feed 2 = .ok (.lconst 0, 1) := by decide +kernel
theorem dX6_feed_3 : decode cX6_feed 3 = .ok (.ldc2_w 82, 3) := by decide +kernel
theorem dX6_feed_6 : decode cX6_feed 6 = .ok (.invokestatic 75, 3) := by decide +kernel
theorem dX6_feed_9 : decode cX6_feed 9 = .ok (.ifCond .ne 6, 3) := by decide +kernel
theorem dX6_feed_12 : decode cX6_feed 12 = .ok (.ldc 84, 2) := by decide +kernel
theorem dX6_feed_14 : decode cX6_feed 14 = .ok (.ireturn, 1) := by decide +kernel
theorem dX6_feed_15 : decode cX6_feed 15 = .ok (.aload_n 0, 1) := by decide +kernel
theorem dX6_feed_16 : decode cX6_feed 16 = .ok (.getfield 85, 3) := by decide +kernel
theorem dX6_feed_19 : decode cX6_feed 19 = .ok (.sipush 240, 3) := by decide +kernel
theorem dX6_feed_22 : decode cX6_feed 22 = .ok (.if_icmp .ne 6, 3) := by decide +kernel
theorem dX6_feed_25 : decode cX6_feed 25 = .ok (.ldc 88, 2) := by decide +kernel
theorem dX6_feed_27 : decode cX6_feed 27 = .ok (.ireturn, 1) := by decide +kernel
theorem dX6_feed_28 : decode cX6_feed 28 = .ok (.aload_n 0, 1) := by decide +kernel
theorem dX6_feed_29 : decode cX6_feed 29 = .ok (.getfield 22, 3) := by decide +kernel
theorem dX6_feed_32 : decode cX6_feed 32 = .ok (.aload_n 0, 1) := by decide +kernel
theorem dX6_feed_33 : decode cX6_feed 33 = .ok (.getfield 85, 3) := by decide +kernel
theorem dX6_feed_36 : decode cX6_feed 36 = .ok (.iload_n 1, 1) := by decide +kernel
theorem dX6_feed_37 : decode cX6_feed 37 = .ok (.iastore, 1) := by decide +kernel
theorem dX6_feed_38 : decode cX6_feed 38 = .ok (.aload_n 0, 1) := by decide +kernel
theorem dX6_feed_39 : decode cX6_feed 39 = .ok (.dup, 1) := by decide +kernel
theorem dX6_feed_40 : decode cX6_feed 40 = .ok (.getfield 85, 3) := by decide +kernel
theorem dX6_feed_43 : decode cX6_feed 43 = .ok (.iconst 1, 1) := by decide +kernel
theorem dX6_feed_44 : decode cX6_feed 44 = .ok (.iadd, 1) := by decide +kernel
theorem dX6_feed_45 : decode cX6_feed 45 = .ok (.putfield 85, 3) := by decide +kernel
theorem dX6_feed_48 : decode cX6_feed 48 = .ok (.aload_n 0, 1) := by decide +kernel
theorem dX6_feed_49 : decode cX6_feed 49 = .ok (.getfield 85, 3) := by decide +kernel
theorem dX6_feed_52 : decode cX6_feed 52 = .ok (.ireturn, 1) := by decide +kernel
theorem dX6_here_0 : decode cX6_here 0 = .ok (.aload_n 0, 1) := by decide +kernel
theorem dX6_here_1 : decode cX6_here 1 = .ok (.getfield 89, 3) := by decide +kernel
theorem dX6_here_4 : decode cX6_here 4 = .ok (.aload_n 0, 1) := by decide +kernel
theorem dX6_here_5 : decode cX6_here 5 = .ok (.getfield 85, 3) := by decide +kernel
theorem dX6_here_8 : decode cX6_here 8 = .ok (.if_icmp .ge 30, 3) := by decide +kernel
theorem dX6_here_11 : decode cX6_here 11 = .ok (.aload_n 0, 1) := by decide +kernel
theorem dX6_here_12 : decode cX6_here 12 = .ok (.getfield 22, 3) := by decide +kernel
theorem dX6_here_15 : decode cX6_here 15 = .ok (.aload_n 0, 1) := by decide +kernel
theorem dX6_here_16 : decode cX6_here 16 = .ok (.getfield 89, 3) := by decide +kernel
theorem dX6_here_19 : decode cX6_here 19 = .ok (.iaload, 1) := by decide +kernel
theorem dX6_here_20 : decode cX6_here 20 = .ok (.bipush 32, 2) := by decide +kernel
theorem dX6_here_22 : decode cX6_here 22 = .ok (.if_icmp .ne 16, 3) := by decide +kernel
theorem dX6_here_25 : decode cX6_here 25 = .ok (.aload_n 0, 1) := by decide +kernel
theorem dX6_here_26 : decode cX6_here 26 = .ok (.dup, 1) := by decide +kernel
theorem dX6_here_27 : decode cX6_here 27 = .ok (.getfield 89, 3) := by decide +kernel
theorem dX6_here_30 : decode cX6_here 30 = .ok (.iconst 1, 1) := by decide +kernel
theorem dX6_here_31 : decode cX6_here 31 = .ok (.iadd, 1) := by decide +kernel
theorem dX6_here_32 : decode cX6_here 32 = .ok (.putfield 89, 3) := by decide +kernel
theorem dX6_here_35 : decode cX6_here 35 = .ok (.goto (-35), 3) := by decide +kernel
theorem dX6_here_38 : decode cX6_here 38 = .ok (.aload_n 0, 1) := by decide +kernel
theorem dX6_here_39 : decode cX6_here 39 = .ok (.getfield 89, 3) := by decide +kernel
theorem dX6_here_42 : decode cX6_here 42 = .ok (.aload_n 0, 1) := by decide +kernel
theorem dX6_here_43 : decode cX6_here 43 = .ok (.getfield 85, 3) := by decide +kernel
theorem dX6_here_46 : decode cX6_here 46 = .ok (.if_icmp .ge 15, 3) := by decide +kernel
theorem dX6_here_49 : decode cX6_here 49 = .ok (.aload_n 0, 1) := by decide +kernel
theorem dX6_here_50 : decode cX6_here 50 = .ok (.getfield 22, 3) := by decide +kernel
theorem dX6_here_53 : decode cX6_here 53 = .ok (.aload_n 0, 1) := by decide +kernel
theorem dX6_here_54 : decode cX6_here 54 = .ok (.getfield 89, 3) := by decide +kernel
theorem dX6_here_57 : decode cX6_here 57 = .ok (.iaload, 1) := by decide +kernel
theorem dX6_here_58 : decode cX6_here 58 = .ok (.goto 4, 3) := by decide +kernel
theorem dX6_here_61 : decode cX6_here 61 = .ok (.iconst (-1), 1) := by decide +kernel
theorem dX6_here_62 : decode cX6_here 62 = .ok (.ireturn, 1) := by decide +kernel
theorem dX6_fails_0 : decode cX6_fails 0 = .ok (.aload_n 0, 1) := by decide +kernel
theorem dX6_fails_1 : decode cX6_fails 1 = .ok (.iload_n 2, 1) := by decide +kernel
theorem dX6_fails_2 : decode cX6_fails 2 = .ok (.putfield 25, 3) := by decide +kernel
theorem dX6_fails_5 : decode cX6_fails 5 = .ok (.iload_n 1, 1) := by decide +kernel
theorem dX6_fails_6 : decode cX6_fails 6 = .ok (.ireturn, 1) := by decide +kernel
set_option maxRecDepth 20000 in
theorem ggX6_takeNumber_X6_here : GoodIn wsX6_takeNumber wsX6_here := goodIn_r _ [12, 3, 6, 7, 21, 22, 23, 24, 25, 26, 27, 28, 29, 30, 31, 32, 33, 34, 35, 36, 37, 38, 39, 40, 41, 42, 43, 44, 45, 46, 47, 48, 49, 50, 51, 52, 53] (by decide +kernel) (by decide +kernel)
set_option maxRecDepth 20000 in
theorem gX6_takeNumber_X6_here : GoodIn wsX6_takeNumber (wsV RX6 92 RX6 yX6_here wsX6_here) := goodIn_app (goodIn_of _ (by decide +kernel)) ggX6_takeNumber_X6_here
set_option maxRecDepth 20000 in
theorem ggX6_takeNumber_X6_in : GoodIn wsX6_takeNumber wsX6_in := goodIn_r _ [15] (by decide +kernel) (by decide +kernel)
set_option maxRecDepth 20000 in
theorem gX6_takeNumber_X6_in : GoodIn wsX6_takeNumber (va_wsS RX6 75 yX6_in wsX6_in) := goodIn_app (goodIn_of _ (by decide +kernel)) ggX6_takeNumber_X6_in
set_option maxRecDepth 20000 in
theorem ggX6_takeNumber_X6_fails : GoodIn wsX6_takeNumber wsX6_fails := goodIn_r _ [19, 20, 21, 22, 23, 24, 25, 26, 27, 28, 29, 30, 31, 32, 33, 34, 35, 36, 37, 38, 39, 40, 41, 42, 43, 44, 45, 46, 47, 48, 49, 50, 51, 52, 53] (by decide +kernel) (by decide +kernel)
set_option maxRecDepth 20000 in
theorem gX6_takeNumber_X6_fails : GoodIn wsX6_takeNumber (wsV RX6 100 RX6 yX6_fails wsX6_fails) := goodIn_app (goodIn_of _ (by decide +kernel)) ggX6_takeNumber_X6_fails
theorem dX6_takeNumber_0 : decode cX6_takeNumber 0 = .ok (.aload_n 0, 1) := by decide +kernel
theorem dX6_takeNumber_1 : decode cX6_takeNumber 1 = .ok (.invokevirtual 92, 3) := by decide +kernel
theorem dX6_takeNumber_4 : decode cX6_takeNumber 4 = .ok (.istore_n 3, 1) := by decide +kernel
theorem dX6_takeNumber_5 : decode cX6_takeNumber 5 = .ok (.iload_n 3, 1) := by decide +kernel
theorem dX6_takeNumber_6 : decode cX6_takeNumber 6 = .ok (.i2l, 1) := by decide +kernel
theorem dX6_takeNumber_7 : decode cX6_takeNumber 7 = .ok (.ldc2_w 96, 3) := by decide +kernel
theorem dX6_takeNumber_10 : decode cX6_takeNumber 10 = .ok (.ldc2_w 98, 3) := by decide +kernel
theorem dX6_takeNumber_13 : decode cX6_takeNumber 13 = .ok (.invokestatic 75, 3) := by decide +kernel
theorem dX6_takeNumber_16 : decode cX6_takeNumber 16 = .ok (.ifCond .ne 13, 3) := by decide +kernel
theorem dX6_takeNumber_19 : decode cX6_takeNumber 19 = .ok (.aload_n 0, 1) := by decide +kernel
theorem dX6_takeNumber_20 : decode cX6_takeNumber 20 = .ok (.iconst 1, 1) := by decide +kernel
theorem dX6_takeNumber_21 : decode cX6_takeNumber 21 = .ok (.aload_n 0, 1) := by decide +kernel
theorem dX6_takeNumber_22 : decode cX6_takeNumber 22 = .ok (.getfield 89, 3) := by decide +kernel
theorem dX6_takeNumber_25 : decode cX6_takeNumber 25 = .ok (.invokevirtual 100, 3) := by decide +kernel
theorem dX6_takeNumber_28 : decode cX6_takeNumber 28 = .ok (.ireturn, 1) := by decide +kernel
theorem dX6_takeNumber_29 : decode cX6_takeNumber 29 = .ok (.aload_n 0, 1) := by decide +kernel
theorem dX6_takeNumber_30 : decode cX6_takeNumber 30 = .ok (.aload_n 0, 1) := by decide +kernel
theorem dX6_takeNumber_31 : decode cX6_takeNumber 31 = .ok (.getfield 89, 3) := by decide +kernel
theorem dX6_takeNumber_34 : decode cX6_takeNumber 34 = .ok (.putfield 104, 3) := by decide +kernel
theorem dX6_takeNumber_37 : decode cX6_takeNumber 37 = .ok (.aload_n 0, 1) := by decide +kernel
theorem dX6_takeNumber_38 : decode cX6_takeNumber 38 = .ok (.iconst 0, 1) := by decide +kernel
theorem dX6_takeNumber_39 : decode cX6_takeNumber 39 = .ok (.putfield 107, 3) := by decide +kernel
theorem dX6_takeNumber_42 : decode cX6_takeNumber 42 = .ok (.aload_n 0, 1) := by decide +kernel
theorem dX6_takeNumber_43 : decode cX6_takeNumber 43 = .ok (.getfield 89, 3) := by decide +kernel
theorem dX6_takeNumber_46 : decode cX6_takeNumber 46 = .ok (.aload_n 0, 1) := by decide +kernel
theorem dX6_takeNumber_47 : decode cX6_takeNumber 47 = .ok (.getfield 85, 3) := by decide +kernel
theorem dX6_takeNumber_50 : decode cX6_takeNumber 50 = .ok (.if_icmp .ge 79, 3) := by decide +kernel
theorem dX6_takeNumber_53 : decode cX6_takeNumber 53 = .ok (.aload_n 0, 1) := by decide +kernel
theorem dX6_takeNumber_54 : decode cX6_takeNumber 54 = .ok (.getfield 22, 3) := by decide +kernel
theorem dX6_takeNumber_57 : decode cX6_takeNumber 57 = .ok (.aload_n 0, 1) := by decide +kernel
theorem dX6_takeNumber_58 : decode cX6_takeNumber 58 = .ok (.getfield 89, 3) := by decide +kernel
theorem dX6_takeNumber_61 : decode cX6_takeNumber 61 = .ok (.iaload, 1) := by decide +kernel
theorem dX6_takeNumber_62 : decode cX6_takeNumber 62 = .ok (.i2l, 1) := by decide +kernel
theorem dX6_takeNumber_63 : decode cX6_takeNumber 63 = .ok (.ldc2_w 96, 3) := by decide +kernel
theorem dX6_takeNumber_66 : decode cX6_takeNumber 66 = .ok (.ldc2_w 98, 3) := by decide +kernel
theorem dX6_takeNumber_69 : decode cX6_takeNumber 69 = .ok (.invokestatic 75, 3) := by decide +kernel
theorem dX6_takeNumber_72 : decode cX6_takeNumber 72 = .ok (.ifCond .eq 57, 3) := by decide +kernel
theorem dX6_takeNumber_75 : decode cX6_takeNumber 75 = .ok (.aload_n 0, 1) := by decide +kernel
theorem dX6_takeNumber_76 : decode cX6_takeNumber 76 = .ok (.aload_n 0, 1) := by decide +kernel
theorem dX6_takeNumber_77 : decode cX6_takeNumber 77 = .ok (.getfield 107, 3) := by decide +kernel
theorem dX6_takeNumber_80 : decode cX6_takeNumber 80 = .ok (.sipush 10000, 3) := by decide +kernel
theorem dX6_takeNumber_83 : decode cX6_takeNumber 83 = .ok (.if_icmp .le 10, 3) := by decide +kernel
theorem dX6_takeNumber_86 : decode cX6_takeNumber 86 = .ok (.aload_n 0, 1) := by decide +kernel
theorem dX6_takeNumber_87 : decode cX6_takeNumber 87 = .ok (.getfield 107, 3) := by decide +kernel
theorem dX6_takeNumber_90 : decode cX6_takeNumber 90 = .ok (.goto 23, 3) := by decide +kernel
theorem dX6_takeNumber_93 : decode cX6_takeNumber 93 = .ok (.bipush 10, 2) := by decide +kernel
theorem dX6_takeNumber_95 : decode cX6_takeNumber 95 = .ok (.aload_n 0, 1) := by decide +kernel
theorem dX6_takeNumber_96 : decode cX6_takeNumber 96 = .ok (.getfield 107, 3) := by decide +kernel
theorem dX6_takeNumber_99 : decode cX6_takeNumber 99 = .ok (.imul, 1) := by decide +kernel
theorem dX6_takeNumber_100 : decode cX6_takeNumber 100 = .ok (.aload_n 0, 1) := by decide +kernel
theorem dX6_takeNumber_101 : decode cX6_takeNumber 101 = .ok (.getfield 22, 3) := by decide +kernel
theorem dX6_takeNumber_104 : decode cX6_takeNumber 104 = .ok (.aload_n 0, 1) := by decide +kernel
theorem dX6_takeNumber_105 : decode cX6_takeNumber 105 = .ok (.getfield 89, 3) := by decide +kernel
theorem dX6_takeNumber_108 : decode cX6_takeNumber 108 = .ok (.iaload, 1) := by decide +kernel
theorem dX6_takeNumber_109 : decode cX6_takeNumber 109 = .ok (.iadd, 1) := by decide +kernel
theorem dX6_takeNumber_110 : decode cX6_takeNumber 110 = .ok (.bipush 48, 2) := by decide +kernel
theorem dX6_takeNumber_112 : decode cX6_takeNumber 112 = .ok (.isub, 1) := by decide +kernel
theorem dX6_takeNumber_113 : decode cX6_takeNumber 113 = .ok (.putfield 107, 3) := by decide +kernel
theorem dX6_takeNumber_116 : decode cX6_takeNumber 116 = .ok (.aload_n 0, 1) := by decide +kernel
theorem dX6_takeNumber_117 : decode cX6_takeNumber 117 = .ok (.dup, 1) := by decide +kernel
theorem dX6_takeNumber_118 : decode cX6_takeNumber 118 = .ok (.getfield 89, 3) := by decide +kernel
theorem dX6_takeNumber_121 : decode cX6_takeNumber 121 = .ok (.iconst 1, 1) := by decide +kernel
theorem dX6_takeNumber_122 : decode cX6_takeNumber 122 = .ok (.iadd, 1) := by decide +kernel
theorem dX6_takeNumber_123 : decode cX6_takeNumber 123 = .ok (.putfield 89, 3) := by decide +kernel
theorem dX6_takeNumber_126 : decode cX6_takeNumber 126 = .ok (.goto (-84), 3) := by decide +kernel
theorem dX6_takeNumber_129 : decode cX6_takeNumber 129 = .ok (.aload_n 0, 1) := by decide +kernel
theorem dX6_takeNumber_130 : decode cX6_takeNumber 130 = .ok (.getfield 89, 3) := by decide +kernel
theorem dX6_takeNumber_133 : decode cX6_takeNumber 133 = .ok (.aload_n 0, 1) := by decide +kernel
theorem dX6_takeNumber_134 : decode cX6_takeNumber 134 = .ok (.getfield 104, 3) := by decide +kernel
theorem dX6_takeNumber_137 : decode cX6_takeNumber 137 = .ok (.isub, 1) := by decide +kernel
theorem dX6_takeNumber_138 : decode cX6_takeNumber 138 = .ok (.iconst 3, 1) := by decide +kernel
theorem dX6_takeNumber_139 : decode cX6_takeNumber 139 = .ok (.if_icmp .gt 18, 3) := by decide +kernel
theorem dX6_takeNumber_142 : decode cX6_takeNumber 142 = .ok (.aload_n 0, 1) := by decide +kernel
theorem dX6_takeNumber_143 : decode cX6_takeNumber 143 = .ok (.getfield 107, 3) := by decide +kernel
theorem dX6_takeNumber_146 : decode cX6_takeNumber 146 = .ok (.i2l, 1) := by decide +kernel
theorem dX6_takeNumber_147 : decode cX6_takeNumber 147 = .ok (.iload_n 1, 1) := by decide +kernel
theorem dX6_takeNumber_148 : decode cX6_takeNumber 148 = .ok (.i2l, 1) := by decide +kernel
theorem dX6_takeNumber_149 : decode cX6_takeNumber 149 = .ok (.iload_n 2, 1) := by decide +kernel
theorem dX6_takeNumber_150 : decode cX6_takeNumber 150 = .ok (.i2l, 1) := by decide +kernel
theorem dX6_takeNumber_151 : decode cX6_takeNumber 151 = .ok (.invokestatic 75, 3) := by decide +kernel
theorem dX6_takeNumber_154 : decode cX6_takeNumber 154 = .ok (.ifCond .ne 15, 3) := by decide +kernel
theorem dX6_takeNumber_157 : decode cX6_takeNumber 157 = .ok (.aload_n 0, 1) := by decide +kernel
theorem dX6_takeNumber_158 : decode cX6_takeNumber 158 = .ok (.iconst 2, 1) := by decide +kernel
theorem dX6_takeNumber_159 : decode cX6_takeNumber 159 = .ok (.aload_n 0, 1) := by decide +kernel
theorem dX6_takeNumber_160 : decode cX6_takeNumber 160 = .ok (.getfield 104, 3) := by decide +kernel
theorem dX6_takeNumber_163 : decode cX6_takeNumber 163 = .ok (.invokevirtual 100, 3) := by decide +kernel
theorem dX6_takeNumber_166 : decode cX6_takeNumber 166 = .ok (.goto 4, 3) := by decide +kernel
theorem dX6_takeNumber_169 : decode cX6_takeNumber 169 = .ok (.iconst 0, 1) := by decide +kernel
theorem dX6_takeNumber_170 : decode cX6_takeNumber 170 = .ok (.ireturn, 1) := by decide +kernel
set_option maxRecDepth 20000 in
theorem ggX6_takeGnats_X6_takeNumber : GoodIn wsX6_takeGnats wsX6_takeNumber := goodIn_r _ [7, 8, 9, 10, 11, 1, 12, 13, 14, 15, 16, 6, 17, 18, 19, 20, 21, 22, 23, 24, 25, 26, 27, 28, 29, 30, 31, 32, 33, 34, 35, 36, 37, 38, 39, 40, 41, 42, 43, 44, 45, 46, 47, 48, 49, 50, 51, 52, 53, 54, 55, 56, 57, 58] (by decide +kernel) (by decide +kernel)
set_option maxRecDepth 20000 in
theorem gX6_takeGnats_X6_takeNumber : GoodIn wsX6_takeGnats (wsV RX6 110 RX6 yX6_takeNumber wsX6_takeNumber) := goodIn_app (goodIn_of _ (by decide +kernel)) ggX6_takeGnats_X6_takeNumber
theorem dX6_takeGnats_0 : decode cX6_takeGnats 0 = .ok (.aload_n 0, 1) := by decide +kernel
theorem dX6_takeGnats_1 : decode cX6_takeGnats 1 = .ok (.iconst 1, 1) := by decide +kernel
theorem dX6_takeGnats_2 : decode cX6_takeGnats 2 = .ok (.bipush 30, 2) := by decide +kernel
theorem dX6_takeGnats_4 : decode cX6_takeGnats 4 = .ok (.invokevirtual 110, 3) := by decide +kernel
theorem dX6_takeGnats_7 : decode cX6_takeGnats 7 = .ok (.istore_n 1, 1) := by decide +kernel
theorem dX6_takeGnats_8 : decode cX6_takeGnats 8 = .ok (.aload_n 0, 1) := by decide +kernel
theorem dX6_takeGnats_9 : decode cX6_takeGnats 9 = .ok (.aload_n 0, 1) := by decide +kernel
theorem dX6_takeGnats_10 : decode cX6_takeGnats 10 = .ok (.getfield 107, 3) := by decide +kernel
theorem dX6_takeGnats_13 : decode cX6_takeGnats 13 = .ok (.putfield 113, 3) := by decide +kernel
theorem dX6_takeGnats_16 : decode cX6_takeGnats 16 = .ok (.iload_n 1, 1) := by decide +kernel
theorem dX6_takeGnats_17 : decode cX6_takeGnats 17 = .ok (.ireturn, 1) := by decide +kernel
set_option maxRecDepth 20000 in
theorem ggX6_takeSitter_X6_here : GoodIn wsX6_takeSitter wsX6_here := goodIn_r _ [9, 1, 10, 11, 27, 28, 29, 30, 31, 32, 33, 34, 35, 36, 37, 38, 39, 40, 41, 42, 43, 44, 45, 46, 47, 48, 49, 50, 51, 52, 53, 54, 55, 56, 57, 58, 59] (by decide +kernel) (by decide +kernel)
set_option maxRecDepth 20000 in
theorem gX6_takeSitter_X6_here : GoodIn wsX6_takeSitter (wsV RX6 92 RX6 yX6_here wsX6_here) := goodIn_app (goodIn_of _ (by decide +kernel)) ggX6_takeSitter_X6_here
set_option maxRecDepth 20000 in
theorem ggX6_takeSitter_X6_fails : GoodIn wsX6_takeSitter wsX6_fails := goodIn_r _ [15, 16, 27, 28, 29, 30, 31, 32, 33, 34, 35, 36, 37, 38, 39, 40, 41, 42, 43, 44, 45, 46, 47, 48, 49, 50, 51, 52, 53, 54, 55, 56, 57, 58, 59] (by decide +kernel) (by decide +kernel)
set_option maxRecDepth 20000 in
theorem gX6_takeSitter_X6_fails : GoodIn wsX6_takeSitter (wsV RX6 100 RX6 yX6_fails wsX6_fails) := goodIn_app (goodIn_of _ (by decide +kernel)) ggX6_takeSitter_X6_fails
set_option maxRecDepth 20000 in
theorem ggX6_takeSitter_X6_takeNumber : GoodIn wsX6_takeSitter wsX6_takeNumber := goodIn_r _ [20, 21, 22, 1, 23, 2, 10, 11, 5, 6, 7, 8, 9, 24, 25, 26, 12, 13, 14, 15, 16, 27, 28, 29, 30, 31, 32, 33, 34, 35, 36, 37, 38, 39, 40, 41, 42, 43, 44, 45, 46, 47, 48, 49, 50, 51, 52, 53, 54, 55, 56, 57, 58, 59] (by decide +kernel) (by decide +kernel)
set_option maxRecDepth 20000 in
theorem gX6_takeSitter_X6_takeNumber : GoodIn wsX6_takeSitter (wsV RX6 110 RX6 yX6_takeNumber wsX6_takeNumber) := goodIn_app (goodIn_of _ (by decide +kernel)) ggX6_takeSitter_X6_takeNumber
theorem dX6_takeSitter_0 : decode cX6_takeSitter 0 = .ok (.iconst 0, 1) := by decide +kernel
theorem dX6_takeSitter_1 : decode cX6_takeSitter 1 = .ok (.istore_n 1, 1) := by decide +kernel
theorem dX6_takeSitter_2 : decode cX6_takeSitter 2 = .ok (.iconst 0, 1) := by decide +kernel
theorem dX6_takeSitter_3 : decode cX6_takeSitter 3 = .ok (.istore_n 2, 1) := by decide +kernel
theorem dX6_takeSitter_4 : decode cX6_takeSitter 4 = .ok (.iload_n 2, 1) := by decide +kernel
theorem dX6_takeSitter_5 : decode cX6_takeSitter 5 = .ok (.iconst 5, 1) := by decide +kernel
theorem dX6_takeSitter_6 : decode cX6_takeSitter 6 = .ok (.if_icmp .ge 68, 3) := by decide +kernel
theorem dX6_takeSitter_9 : decode cX6_takeSitter 9 = .ok (.iload_n 2, 1) := by decide +kernel
theorem dX6_takeSitter_10 : decode cX6_takeSitter 10 = .ok (.ifCond .le 32, 3) := by decide +kernel
theorem dX6_takeSitter_13 : decode cX6_takeSitter 13 = .ok (.aload_n 0, 1) := by decide +kernel
theorem dX6_takeSitter_14 : decode cX6_takeSitter 14 = .ok (.invokevirtual 92, 3) := by decide +kernel
theorem dX6_takeSitter_17 : decode cX6_takeSitter 17 = .ok (.bipush 44, 2) := by decide +kernel
theorem dX6_takeSitter_19 : decode cX6_takeSitter 19 = .ok (.if_icmp .eq 13, 3) := by decide +kernel
theorem dX6_takeSitter_22 : decode cX6_takeSitter 22 = .ok (.aload_n 0, 1) := by decide +kernel
theorem dX6_takeSitter_23 : decode cX6_takeSitter 23 = .ok (.iconst 1, 1) := by decide +kernel
theorem dX6_takeSitter_24 : decode cX6_takeSitter 24 = .ok (.aload_n 0, 1) := by decide +kernel
theorem dX6_takeSitter_25 : decode cX6_takeSitter 25 = .ok (.getfield 89, 3) := by decide +kernel
theorem dX6_takeSitter_28 : decode cX6_takeSitter 28 = .ok (.invokevirtual 100, 3) := by decide +kernel
theorem dX6_takeSitter_31 : decode cX6_takeSitter 31 = .ok (.ireturn, 1) := by decide +kernel
theorem dX6_takeSitter_32 : decode cX6_takeSitter 32 = .ok (.aload_n 0, 1) := by decide +kernel
theorem dX6_takeSitter_33 : decode cX6_takeSitter 33 = .ok (.dup, 1) := by decide +kernel
theorem dX6_takeSitter_34 : decode cX6_takeSitter 34 = .ok (.getfield 89, 3) := by decide +kernel
theorem dX6_takeSitter_37 : decode cX6_takeSitter 37 = .ok (.iconst 1, 1) := by decide +kernel
theorem dX6_takeSitter_38 : decode cX6_takeSitter 38 = .ok (.iadd, 1) := by decide +kernel
theorem dX6_takeSitter_39 : decode cX6_takeSitter 39 = .ok (.putfield 89, 3) := by decide +kernel
theorem dX6_takeSitter_42 : decode cX6_takeSitter 42 = .ok (.aload_n 0, 1) := by decide +kernel
theorem dX6_takeSitter_43 : decode cX6_takeSitter 43 = .ok (.iconst 0, 1) := by decide +kernel
theorem dX6_takeSitter_44 : decode cX6_takeSitter 44 = .ok (.bipush 63, 2) := by decide +kernel
theorem dX6_takeSitter_46 : decode cX6_takeSitter 46 = .ok (.invokevirtual 110, 3) := by decide +kernel
theorem dX6_takeSitter_49 : decode cX6_takeSitter 49 = .ok (.istore_n 3, 1) := by decide +kernel
theorem dX6_takeSitter_50 : decode cX6_takeSitter 50 = .ok (.iload_n 3, 1) := by decide +kernel
theorem dX6_takeSitter_51 : decode cX6_takeSitter 51 = .ok (.ifCond .le 5, 3) := by decide +kernel
theorem dX6_takeSitter_54 : decode cX6_takeSitter 54 = .ok (.iload_n 3, 1) := by decide +kernel
theorem dX6_takeSitter_55 : decode cX6_takeSitter 55 = .ok (.ireturn, 1) := by decide +kernel
theorem dX6_takeSitter_56 : decode cX6_takeSitter 56 = .ok (.iload_n 1, 1) := by decide +kernel
theorem dX6_takeSitter_57 : decode cX6_takeSitter 57 = .ok (.aload_n 0, 1) := by decide +kernel
theorem dX6_takeSitter_58 : decode cX6_takeSitter 58 = .ok (.getfield 107, 3) := by decide +kernel
theorem dX6_takeSitter_61 : decode cX6_takeSitter 61 = .ok (.bipush 6, 2) := by decide +kernel
theorem dX6_takeSitter_63 : decode cX6_takeSitter 63 = .ok (.iload_n 2, 1) := by decide +kernel
theorem dX6_takeSitter_64 : decode cX6_takeSitter 64 = .ok (.imul, 1) := by decide +kernel
theorem dX6_takeSitter_65 : decode cX6_takeSitter 65 = .ok (.ishl, 1) := by decide +kernel
theorem dX6_takeSitter_66 : decode cX6_takeSitter 66 = .ok (.ior, 1) := by decide +kernel
theorem dX6_takeSitter_67 : decode cX6_takeSitter 67 = .ok (.istore_n 1, 1) := by decide +kernel
theorem dX6_takeSitter_68 : decode cX6_takeSitter 68 = .ok (.iinc 2 1, 3) := by decide +kernel
theorem dX6_takeSitter_71 : decode cX6_takeSitter 71 = .ok (.goto (-67), 3) := by decide +kernel
theorem dX6_takeSitter_74 : decode cX6_takeSitter 74 = .ok (.aload_n 0, 1) := by decide +kernel
theorem dX6_takeSitter_75 : decode cX6_takeSitter 75 = .ok (.getfield 29, 3) := by decide +kernel
theorem dX6_takeSitter_78 : decode cX6_takeSitter 78 = .ok (.aload_n 0, 1) := by decide +kernel
theorem dX6_takeSitter_79 : decode cX6_takeSitter 79 = .ok (.getfield 116, 3) := by decide +kernel
theorem dX6_takeSitter_82 : decode cX6_takeSitter 82 = .ok (.iload_n 1, 1) := by decide +kernel
theorem dX6_takeSitter_83 : decode cX6_takeSitter 83 = .ok (.iastore, 1) := by decide +kernel
theorem dX6_takeSitter_84 : decode cX6_takeSitter 84 = .ok (.aload_n 0, 1) := by decide +kernel
theorem dX6_takeSitter_85 : decode cX6_takeSitter 85 = .ok (.dup, 1) := by decide +kernel
theorem dX6_takeSitter_86 : decode cX6_takeSitter 86 = .ok (.getfield 116, 3) := by decide +kernel
theorem dX6_takeSitter_89 : decode cX6_takeSitter 89 = .ok (.iconst 1, 1) := by decide +kernel
theorem dX6_takeSitter_90 : decode cX6_takeSitter 90 = .ok (.iadd, 1) := by decide +kernel
theorem dX6_takeSitter_91 : decode cX6_takeSitter 91 = .ok (.putfield 116, 3) := by decide +kernel
theorem dX6_takeSitter_94 : decode cX6_takeSitter 94 = .ok (.iconst 0, 1) := by decide +kernel
theorem dX6_takeSitter_95 : decode cX6_takeSitter 95 = .ok (.ireturn, 1) := by decide +kernel
set_option maxRecDepth 20000 in
theorem ggX6_takeWindow_X6_takeNumber : GoodIn wsX6_takeWindow wsX6_takeNumber := goodIn_r _ [8, 9, 10, 11, 12, 3, 13, 14, 15, 16, 17, 7, 18, 19, 20, 21, 22, 23, 24, 25, 26, 27, 28, 29, 30, 31, 32, 33, 34, 35, 36, 37, 38, 39, 40, 41, 42, 43, 44, 45, 46, 47, 48, 49, 50, 51, 52, 53, 54, 55, 56, 57, 58, 59] (by decide +kernel) (by decide +kernel)
set_option maxRecDepth 20000 in
theorem gX6_takeWindow_X6_takeNumber : GoodIn wsX6_takeWindow (wsV RX6 110 RX6 yX6_takeNumber wsX6_takeNumber) := goodIn_app (goodIn_of _ (by decide +kernel)) ggX6_takeWindow_X6_takeNumber
theorem dX6_takeWindow_0 : decode cX6_takeWindow 0 = .ok (.aload_n 0, 1) := by decide +kernel
theorem dX6_takeWindow_1 : decode cX6_takeWindow 1 = .ok (.iconst 0, 1) := by decide +kernel
theorem dX6_takeWindow_2 : decode cX6_takeWindow 2 = .ok (.iconst 5, 1) := by decide +kernel
theorem dX6_takeWindow_3 : decode cX6_takeWindow 3 = .ok (.invokevirtual 110, 3) := by decide +kernel
theorem dX6_takeWindow_6 : decode cX6_takeWindow 6 = .ok (.istore_n 1, 1) := by decide +kernel
theorem dX6_takeWindow_7 : decode cX6_takeWindow 7 = .ok (.aload_n 0, 1) := by decide +kernel
theorem dX6_takeWindow_8 : decode cX6_takeWindow 8 = .ok (.getfield 32, 3) := by decide +kernel
theorem dX6_takeWindow_11 : decode cX6_takeWindow 11 = .ok (.aload_n 0, 1) := by decide +kernel
theorem dX6_takeWindow_12 : decode cX6_takeWindow 12 = .ok (.getfield 119, 3) := by decide +kernel
theorem dX6_takeWindow_15 : decode cX6_takeWindow 15 = .ok (.aload_n 0, 1) := by decide +kernel
theorem dX6_takeWindow_16 : decode cX6_takeWindow 16 = .ok (.getfield 107, 3) := by decide +kernel
theorem dX6_takeWindow_19 : decode cX6_takeWindow 19 = .ok (.iastore, 1) := by decide +kernel
theorem dX6_takeWindow_20 : decode cX6_takeWindow 20 = .ok (.aload_n 0, 1) := by decide +kernel
theorem dX6_takeWindow_21 : decode cX6_takeWindow 21 = .ok (.dup, 1) := by decide +kernel
theorem dX6_takeWindow_22 : decode cX6_takeWindow 22 = .ok (.getfield 119, 3) := by decide +kernel
theorem dX6_takeWindow_25 : decode cX6_takeWindow 25 = .ok (.iconst 1, 1) := by decide +kernel
theorem dX6_takeWindow_26 : decode cX6_takeWindow 26 = .ok (.iadd, 1) := by decide +kernel
theorem dX6_takeWindow_27 : decode cX6_takeWindow 27 = .ok (.putfield 119, 3) := by decide +kernel
theorem dX6_takeWindow_30 : decode cX6_takeWindow 30 = .ok (.iload_n 1, 1) := by decide +kernel
theorem dX6_takeWindow_31 : decode cX6_takeWindow 31 = .ok (.ireturn, 1) := by decide +kernel
set_option maxRecDepth 20000 in
theorem ggX6_takeCritic_X6_takeNumber : GoodIn wsX6_takeCritic wsX6_takeNumber := goodIn_r _ [8, 9, 10, 11, 12, 3, 13, 14, 15, 16, 17, 7, 18, 19, 20, 21, 22, 23, 24, 25, 26, 27, 28, 29, 30, 31, 32, 33, 34, 35, 36, 37, 38, 39, 40, 41, 42, 43, 44, 45, 46, 47, 48, 49, 50, 51, 52, 53, 54, 55, 56, 57, 58, 59] (by decide +kernel) (by decide +kernel)
set_option maxRecDepth 20000 in
theorem gX6_takeCritic_X6_takeNumber : GoodIn wsX6_takeCritic (wsV RX6 110 RX6 yX6_takeNumber wsX6_takeNumber) := goodIn_app (goodIn_of _ (by decide +kernel)) ggX6_takeCritic_X6_takeNumber
theorem dX6_takeCritic_0 : decode cX6_takeCritic 0 = .ok (.aload_n 0, 1) := by decide +kernel
theorem dX6_takeCritic_1 : decode cX6_takeCritic 1 = .ok (.iconst 1, 1) := by decide +kernel
theorem dX6_takeCritic_2 : decode cX6_takeCritic 2 = .ok (.bipush 63, 2) := by decide +kernel
theorem dX6_takeCritic_4 : decode cX6_takeCritic 4 = .ok (.invokevirtual 110, 3) := by decide +kernel
theorem dX6_takeCritic_7 : decode cX6_takeCritic 7 = .ok (.istore_n 1, 1) := by decide +kernel
theorem dX6_takeCritic_8 : decode cX6_takeCritic 8 = .ok (.aload_n 0, 1) := by decide +kernel
theorem dX6_takeCritic_9 : decode cX6_takeCritic 9 = .ok (.getfield 35, 3) := by decide +kernel
theorem dX6_takeCritic_12 : decode cX6_takeCritic 12 = .ok (.aload_n 0, 1) := by decide +kernel
theorem dX6_takeCritic_13 : decode cX6_takeCritic 13 = .ok (.getfield 122, 3) := by decide +kernel
theorem dX6_takeCritic_16 : decode cX6_takeCritic 16 = .ok (.aload_n 0, 1) := by decide +kernel
theorem dX6_takeCritic_17 : decode cX6_takeCritic 17 = .ok (.getfield 107, 3) := by decide +kernel
theorem dX6_takeCritic_20 : decode cX6_takeCritic 20 = .ok (.iastore, 1) := by decide +kernel
theorem dX6_takeCritic_21 : decode cX6_takeCritic 21 = .ok (.aload_n 0, 1) := by decide +kernel
theorem dX6_takeCritic_22 : decode cX6_takeCritic 22 = .ok (.dup, 1) := by decide +kernel
theorem dX6_takeCritic_23 : decode cX6_takeCritic 23 = .ok (.getfield 122, 3) := by decide +kernel
theorem dX6_takeCritic_26 : decode cX6_takeCritic 26 = .ok (.iconst 1, 1) := by decide +kernel
theorem dX6_takeCritic_27 : decode cX6_takeCritic 27 = .ok (.iadd, 1) := by decide +kernel
theorem dX6_takeCritic_28 : decode cX6_takeCritic 28 = .ok (.putfield 122, 3) := by decide +kernel
theorem dX6_takeCritic_31 : decode cX6_takeCritic 31 = .ok (.iload_n 1, 1) := by decide +kernel
theorem dX6_takeCritic_32 : decode cX6_takeCritic 32 = .ok (.ireturn, 1) := by decide +kernel
theorem dX6_isFull_0 : decode cX6_isFull 0 = .ok (.iload_n 1, 1) := by decide +kernel
theorem dX6_isFull_1 : decode cX6_isFull 1 = .ok (.ifCond .ne 18, 3) := by decide +kernel
theorem dX6_isFull_4 : decode cX6_isFull 4 = .ok (.aload_n 0, 1) := by decide +kernel
theorem dX6_isFull_5 : decode cX6_isFull 5 = .ok (.getfield 113, 3) := by decide +kernel
theorem dX6_isFull_8 : decode cX6_isFull 8 = .ok (.ifCond .le 7, 3) := by decide +kernel
theorem dX6_isFull_11 : decode cX6_isFull 11 = .ok (.iconst 1, 1) := by decide +kernel
theorem dX6_isFull_12 : decode cX6_isFull 12 = .ok (.goto 64, 3) := by decide +kernel
theorem dX6_isFull_15 : decode cX6_isFull 15 = .ok (.iconst 0, 1) := by decide +kernel
theorem dX6_isFull_16 : decode cX6_isFull 16 = .ok (.goto 60, 3) := by decide +kernel
theorem dX6_isFull_19 : decode cX6_isFull 19 = .ok (.iload_n 1, 1) := by decide +kernel
theorem dX6_isFull_20 : decode cX6_isFull 20 = .ok (.iconst 1, 1) := by decide +kernel
theorem dX6_isFull_21 : decode cX6_isFull 21 = .ok (.if_icmp .ne 20, 3) := by decide +kernel
theorem dX6_isFull_24 : decode cX6_isFull 24 = .ok (.aload_n 0, 1) := by decide +kernel
theorem dX6_isFull_25 : decode cX6_isFull 25 = .ok (.getfield 116, 3) := by decide +kernel
theorem dX6_isFull_28 : decode cX6_isFull 28 = .ok (.bipush 6, 2) := by decide +kernel
theorem dX6_isFull_30 : decode cX6_isFull 30 = .ok (.if_icmp .ne 7, 3) := by decide +kernel
theorem dX6_isFull_33 : decode cX6_isFull 33 = .ok (.iconst 1, 1) := by decide +kernel
theorem dX6_isFull_34 : decode cX6_isFull 34 = .ok (.goto 42, 3) := by decide +kernel
theorem dX6_isFull_37 : decode cX6_isFull 37 = .ok (.iconst 0, 1) := by decide +kernel
theorem dX6_isFull_38 : decode cX6_isFull 38 = .ok (.goto 38, 3) := by decide +kernel
theorem dX6_isFull_41 : decode cX6_isFull 41 = .ok (.iload_n 1, 1) := by decide +kernel
theorem dX6_isFull_42 : decode cX6_isFull 42 = .ok (.iconst 2, 1) := by decide +kernel
theorem dX6_isFull_43 : decode cX6_isFull 43 = .ok (.if_icmp .ne 19, 3) := by decide +kernel
theorem dX6_isFull_46 : decode cX6_isFull 46 = .ok (.aload_n 0, 1) := by decide +kernel
theorem dX6_isFull_47 : decode cX6_isFull 47 = .ok (.getfield 119, 3) := by decide +kernel
theorem dX6_isFull_50 : decode cX6_isFull 50 = .ok (.iconst 5, 1) := by decide +kernel
theorem dX6_isFull_51 : decode cX6_isFull 51 = .ok (.if_icmp .ne 7, 3) := by decide +kernel
theorem dX6_isFull_54 : decode cX6_isFull 54 = .ok (.iconst 1, 1) := by decide +kernel
theorem dX6_isFull_55 : decode cX6_isFull 55 = .ok (.goto 21, 3) := by decide +kernel
theorem dX6_isFull_58 : decode cX6_isFull 58 = .ok (.iconst 0, 1) := by decide +kernel
theorem dX6_isFull_59 : decode cX6_isFull 59 = .ok (.goto 17, 3) := by decide +kernel
theorem dX6_isFull_62 : decode cX6_isFull 62 = .ok (.aload_n 0, 1) := by decide +kernel
theorem dX6_isFull_63 : decode cX6_isFull 63 = .ok (.getfield 122, 3) := by decide +kernel
theorem dX6_isFull_66 : decode cX6_isFull 66 = .ok (.bipush 6, 2) := by decide +kernel
theorem dX6_isFull_68 : decode cX6_isFull 68 = .ok (.if_icmp .ne 7, 3) := by decide +kernel
theorem dX6_isFull_71 : decode cX6_isFull 71 = .ok (.iconst 1, 1) := by decide +kernel
theorem dX6_isFull_72 : decode cX6_isFull 72 = .ok (.goto 4, 3) := by decide +kernel
theorem dX6_isFull_75 : decode cX6_isFull 75 = .ok (.iconst 0, 1) := by decide +kernel
theorem dX6_isFull_76 : decode cX6_isFull 76 = .ok (.ireturn, 1) := by decide +kernel
set_option maxRecDepth 20000 in
theorem ggX6_takeBody_X6_takeGnats : GoodIn wsX6_takeBody wsX6_takeGnats := goodIn_r _ [5, 6, 7, 8, 9, 10, 4, 11, 12, 13, 14, 15, 16, 17, 18, 19, 20, 21, 22, 23, 24, 25, 26, 27, 28, 29, 48, 49, 50, 51, 52, 53, 54, 55, 56, 57, 58, 59, 60, 61, 62, 63, 64, 65, 66, 67, 68, 69, 70, 71, 72, 73, 74, 75, 76, 77, 78, 79, 80] (by decide +kernel) (by decide +kernel)
set_option maxRecDepth 20000 in
theorem gX6_takeBody_X6_takeGnats : GoodIn wsX6_takeBody (wsV RX6 125 RX6 yX6_takeGnats wsX6_takeGnats) := goodIn_app (goodIn_of _ (by decide +kernel)) ggX6_takeBody_X6_takeGnats
set_option maxRecDepth 20000 in
theorem ggX6_takeBody_X6_takeSitter : GoodIn wsX6_takeBody wsX6_takeSitter := goodIn_r _ [33, 14, 6, 34, 35, 18, 19, 20, 4, 21, 16, 17, 25, 26, 27, 28, 29, 8, 9, 10, 11, 12, 13, 15, 22, 23, 24, 48, 49, 50, 51, 52, 53, 54, 55, 56, 57, 58, 59, 60, 61, 62, 63, 64, 65, 66, 67, 68, 69, 70, 71, 72, 73, 74, 75, 76, 77, 78, 79, 80] (by decide +kernel) (by decide +kernel)
set_option maxRecDepth 20000 in
theorem gX6_takeBody_X6_takeSitter : GoodIn wsX6_takeBody (wsV RX6 128 RX6 yX6_takeSitter wsX6_takeSitter) := goodIn_app (goodIn_of _ (by decide +kernel)) ggX6_takeBody_X6_takeSitter
set_option maxRecDepth 20000 in
theorem ggX6_takeBody_X6_takeWindow : GoodIn wsX6_takeBody wsX6_takeWindow := goodIn_r _ [39, 40, 41, 6, 8, 9, 10, 4, 11, 12, 13, 14, 15, 16, 17, 18, 19, 20, 21, 22, 23, 24, 25, 26, 27, 28, 29, 48, 49, 50, 51, 52, 53, 54, 55, 56, 57, 58, 59, 60, 61, 62, 63, 64, 65, 66, 67, 68, 69, 70, 71, 72, 73, 74, 75, 76, 77, 78, 79, 80] (by decide +kernel) (by decide +kernel)
set_option maxRecDepth 20000 in
theorem gX6_takeBody_X6_takeWindow : GoodIn wsX6_takeBody (wsV RX6 131 RX6 yX6_takeWindow wsX6_takeWindow) := goodIn_app (goodIn_of _ (by decide +kernel)) ggX6_takeBody_X6_takeWindow
set_option maxRecDepth 20000 in
theorem ggX6_takeBody_X6_takeCritic : GoodIn wsX6_takeBody wsX6_takeCritic := goodIn_r _ [45, 46, 47, 6, 8, 9, 10, 4, 11, 12, 13, 14, 15, 16, 17, 18, 19, 20, 21, 22, 23, 24, 25, 26, 27, 28, 29, 48, 49, 50, 51, 52, 53, 54, 55, 56, 57, 58, 59, 60, 61, 62, 63, 64, 65, 66, 67, 68, 69, 70, 71, 72, 73, 74, 75, 76, 77, 78, 79, 80] (by decide +kernel) (by decide +kernel)
set_option maxRecDepth 20000 in
theorem gX6_takeBody_X6_takeCritic : GoodIn wsX6_takeBody (wsV RX6 134 RX6 yX6_takeCritic wsX6_takeCritic) := goodIn_app (goodIn_of _ (by decide +kernel)) ggX6_takeBody_X6_takeCritic
theorem dX6_takeBody_0 : decode cX6_takeBody 0 = .ok (.iload_n 1, 1) := by decide +kernel
theorem dX6_takeBody_1 : decode cX6_takeBody 1 = .ok (.ifCond .ne 10, 3) := by decide +kernel
theorem dX6_takeBody_4 : decode cX6_takeBody 4 = .ok (.aload_n 0, 1) := by decide +kernel
theorem dX6_takeBody_5 : decode cX6_takeBody 5 = .ok (.invokevirtual 125, 3) := by decide +kernel
theorem dX6_takeBody_8 : decode cX6_takeBody 8 = .ok (.goto 31, 3) := by decide +kernel
theorem dX6_takeBody_11 : decode cX6_takeBody 11 = .ok (.iload_n 1, 1) := by decide +kernel
theorem dX6_takeBody_12 : decode cX6_takeBody 12 = .ok (.iconst 1, 1) := by decide +kernel
theorem dX6_takeBody_13 : decode cX6_takeBody 13 = .ok (.if_icmp .ne 10, 3) := by decide +kernel
theorem dX6_takeBody_16 : decode cX6_takeBody 16 = .ok (.aload_n 0, 1) := by decide +kernel
theorem dX6_takeBody_17 : decode cX6_takeBody 17 = .ok (.invokevirtual 128, 3) := by decide +kernel
theorem dX6_takeBody_20 : decode cX6_takeBody 20 = .ok (.goto 19, 3) := by decide +kernel
theorem dX6_takeBody_23 : decode cX6_takeBody 23 = .ok (.iload_n 1, 1) := by decide +kernel
theorem dX6_takeBody_24 : decode cX6_takeBody 24 = .ok (.iconst 2, 1) := by decide +kernel
theorem dX6_takeBody_25 : decode cX6_takeBody 25 = .ok (.if_icmp .ne 10, 3) := by decide +kernel
theorem dX6_takeBody_28 : decode cX6_takeBody 28 = .ok (.aload_n 0, 1) := by decide +kernel
theorem dX6_takeBody_29 : decode cX6_takeBody 29 = .ok (.invokevirtual 131, 3) := by decide +kernel
theorem dX6_takeBody_32 : decode cX6_takeBody 32 = .ok (.goto 7, 3) := by decide +kernel
theorem dX6_takeBody_35 : decode cX6_takeBody 35 = .ok (.aload_n 0, 1) := by decide +kernel
theorem dX6_takeBody_36 : decode cX6_takeBody 36 = .ok (.invokevirtual 134, 3) := by decide +kernel
theorem dX6_takeBody_39 : decode cX6_takeBody 39 = .ok (.ireturn, 1) := by decide +kernel
set_option maxRecDepth 20000 in
theorem ggX6_takeClause_X6_here : GoodIn wsX6_takeClause wsX6_here := goodIn_r _ [7, 2, 8, 9, 56, 57, 58, 59, 60, 61, 62, 63, 64, 65, 66, 67, 68, 69, 70, 71, 72, 73, 74, 75, 76, 77, 78, 79, 80, 81, 82, 83, 84, 85, 86, 87, 88] (by decide +kernel) (by decide +kernel)
set_option maxRecDepth 20000 in
theorem gX6_takeClause_X6_here : GoodIn wsX6_takeClause (wsV RX6 92 RX6 yX6_here wsX6_here) := goodIn_app (goodIn_of _ (by decide +kernel)) ggX6_takeClause_X6_here
set_option maxRecDepth 20000 in
theorem ggX6_takeClause_X6_fails : GoodIn wsX6_takeClause wsX6_fails := goodIn_r _ [13, 14, 56, 57, 58, 59, 60, 61, 62, 63, 64, 65, 66, 67, 68, 69, 70, 71, 72, 73, 74, 75, 76, 77, 78, 79, 80, 81, 82, 83, 84, 85, 86, 87, 88] (by decide +kernel) (by decide +kernel)
set_option maxRecDepth 20000 in
theorem gX6_takeClause_X6_fails : GoodIn wsX6_takeClause (wsV RX6 100 RX6 yX6_fails wsX6_fails) := goodIn_app (goodIn_of _ (by decide +kernel)) ggX6_takeClause_X6_fails
set_option maxRecDepth 20000 in
theorem ggX6_takeClause_X6_isFull : GoodIn wsX6_takeClause wsX6_isFull := goodIn_r _ [18, 1, 19, 20, 21, 56, 57, 58, 59, 60, 61, 62, 63, 64, 65, 66, 67, 68, 69, 70, 71, 72, 73, 74, 75, 76, 77, 78, 79, 80, 81, 82, 83, 84, 85, 86, 87, 88] (by decide +kernel) (by decide +kernel)
set_option maxRecDepth 20000 in
theorem gX6_takeClause_X6_isFull : GoodIn wsX6_takeClause (wsV RX6 137 RX6 yX6_isFull wsX6_isFull) := goodIn_app (goodIn_of _ (by decide +kernel)) ggX6_takeClause_X6_isFull
set_option maxRecDepth 20000 in
theorem ggX6_takeClause_X6_takeBody : GoodIn wsX6_takeClause wsX6_takeBody := goodIn_r _ [25, 26, 27, 28, 6, 29, 30, 1, 31, 32, 33, 34, 35, 36, 2, 37, 8, 9, 3, 4, 5, 7, 38, 39, 40, 10, 11, 12, 13, 14, 41, 42, 43, 44, 45, 19, 46, 47, 48, 49, 50, 20, 51, 52, 53, 54, 55, 21, 56, 57, 58, 59, 60, 61, 62, 63, 64, 65, 66, 67, 68, 69, 70, 71, 72, 73, 74, 75, 76, 77, 78, 79, 80, 81, 82, 83, 84, 85, 86, 87, 88] (by decide +kernel) (by decide +kernel)
set_option maxRecDepth 20000 in
theorem gX6_takeClause_X6_takeBody : GoodIn wsX6_takeClause (wsV RX6 141 RX6 yX6_takeBody wsX6_takeBody) := goodIn_app (goodIn_of _ (by decide +kernel)) ggX6_takeClause_X6_takeBody
theorem dX6_takeClause_0 : decode cX6_takeClause 0 = .ok (.aload_n 0, 1) := by decide +kernel
theorem dX6_takeClause_1 : decode cX6_takeClause 1 = .ok (.invokevirtual 92, 3) := by decide +kernel
theorem dX6_takeClause_4 : decode cX6_takeClause 4 = .ok (.istore_n 1, 1) := by decide +kernel
theorem dX6_takeClause_5 : decode cX6_takeClause 5 = .ok (.iload_n 1, 1) := by decide +kernel
theorem dX6_takeClause_6 : decode cX6_takeClause 6 = .ok (.bipush 103, 2) := by decide +kernel
theorem dX6_takeClause_8 : decode cX6_takeClause 8 = .ok (.if_icmp .ne 7, 3) := by decide +kernel
theorem dX6_takeClause_11 : decode cX6_takeClause 11 = .ok (.iconst 0, 1) := by decide +kernel
theorem dX6_takeClause_12 : decode cX6_takeClause 12 = .ok (.goto 34, 3) := by decide +kernel
theorem dX6_takeClause_15 : decode cX6_takeClause 15 = .ok (.iload_n 1, 1) := by decide +kernel
theorem dX6_takeClause_16 : decode cX6_takeClause 16 = .ok (.bipush 115, 2) := by decide +kernel
theorem dX6_takeClause_18 : decode cX6_takeClause 18 = .ok (.if_icmp .ne 7, 3) := by decide +kernel
theorem dX6_takeClause_21 : decode cX6_takeClause 21 = .ok (.iconst 1, 1) := by decide +kernel
theorem dX6_takeClause_22 : decode cX6_takeClause 22 = .ok (.goto 24, 3) := by decide +kernel
theorem dX6_takeClause_25 : decode cX6_takeClause 25 = .ok (.iload_n 1, 1) := by decide +kernel
theorem dX6_takeClause_26 : decode cX6_takeClause 26 = .ok (.bipush 119, 2) := by decide +kernel
theorem dX6_takeClause_28 : decode cX6_takeClause 28 = .ok (.if_icmp .ne 7, 3) := by decide +kernel
theorem dX6_takeClause_31 : decode cX6_takeClause 31 = .ok (.iconst 2, 1) := by decide +kernel
theorem dX6_takeClause_32 : decode cX6_takeClause 32 = .ok (.goto 14, 3) := by decide +kernel
theorem dX6_takeClause_35 : decode cX6_takeClause 35 = .ok (.iload_n 1, 1) := by decide +kernel
theorem dX6_takeClause_36 : decode cX6_takeClause 36 = .ok (.bipush 99, 2) := by decide +kernel
theorem dX6_takeClause_38 : decode cX6_takeClause 38 = .ok (.if_icmp .ne 7, 3) := by decide +kernel
theorem dX6_takeClause_41 : decode cX6_takeClause 41 = .ok (.iconst 3, 1) := by decide +kernel
theorem dX6_takeClause_42 : decode cX6_takeClause 42 = .ok (.goto 4, 3) := by decide +kernel
theorem dX6_takeClause_45 : decode cX6_takeClause 45 = .ok (.iconst (-1), 1) := by decide +kernel
theorem dX6_takeClause_46 : decode cX6_takeClause 46 = .ok (.istore_n 2, 1) := by decide +kernel
theorem dX6_takeClause_47 : decode cX6_takeClause 47 = .ok (.iload_n 2, 1) := by decide +kernel
theorem dX6_takeClause_48 : decode cX6_takeClause 48 = .ok (.ifCond .lt 14, 3) := by decide +kernel
theorem dX6_takeClause_51 : decode cX6_takeClause 51 = .ok (.iload_n 2, 1) := by decide +kernel
theorem dX6_takeClause_52 : decode cX6_takeClause 52 = .ok (.ifCond .le 20, 3) := by decide +kernel
theorem dX6_takeClause_55 : decode cX6_takeClause 55 = .ok (.aload_n 0, 1) := by decide +kernel
theorem dX6_takeClause_56 : decode cX6_takeClause 56 = .ok (.getfield 113, 3) := by decide +kernel
theorem dX6_takeClause_59 : decode cX6_takeClause 59 = .ok (.ifCond .ne 13, 3) := by decide +kernel
theorem dX6_takeClause_62 : decode cX6_takeClause 62 = .ok (.aload_n 0, 1) := by decide +kernel
theorem dX6_takeClause_63 : decode cX6_takeClause 63 = .ok (.iconst 1, 1) := by decide +kernel
theorem dX6_takeClause_64 : decode cX6_takeClause 64 = .ok (.aload_n 0, 1) := by decide +kernel
theorem dX6_takeClause_65 : decode cX6_takeClause 65 = .ok (.getfield 89, 3) := by decide +kernel
theorem dX6_takeClause_68 : decode cX6_takeClause 68 = .ok (.invokevirtual 100, 3) := by decide +kernel
theorem dX6_takeClause_71 : decode cX6_takeClause 71 = .ok (.ireturn, 1) := by decide +kernel
theorem dX6_takeClause_72 : decode cX6_takeClause 72 = .ok (.aload_n 0, 1) := by decide +kernel
theorem dX6_takeClause_73 : decode cX6_takeClause 73 = .ok (.iload_n 2, 1) := by decide +kernel
theorem dX6_takeClause_74 : decode cX6_takeClause 74 = .ok (.invokevirtual 137, 3) := by decide +kernel
theorem dX6_takeClause_77 : decode cX6_takeClause 77 = .ok (.ifCond .eq 13, 3) := by decide +kernel
theorem dX6_takeClause_80 : decode cX6_takeClause 80 = .ok (.aload_n 0, 1) := by decide +kernel
theorem dX6_takeClause_81 : decode cX6_takeClause 81 = .ok (.iconst 3, 1) := by decide +kernel
theorem dX6_takeClause_82 : decode cX6_takeClause 82 = .ok (.aload_n 0, 1) := by decide +kernel
theorem dX6_takeClause_83 : decode cX6_takeClause 83 = .ok (.getfield 89, 3) := by decide +kernel
theorem dX6_takeClause_86 : decode cX6_takeClause 86 = .ok (.invokevirtual 100, 3) := by decide +kernel
theorem dX6_takeClause_89 : decode cX6_takeClause 89 = .ok (.ireturn, 1) := by decide +kernel
theorem dX6_takeClause_90 : decode cX6_takeClause 90 = .ok (.aload_n 0, 1) := by decide +kernel
theorem dX6_takeClause_91 : decode cX6_takeClause 91 = .ok (.dup, 1) := by decide +kernel
theorem dX6_takeClause_92 : decode cX6_takeClause 92 = .ok (.getfield 89, 3) := by decide +kernel
theorem dX6_takeClause_95 : decode cX6_takeClause 95 = .ok (.iconst 1, 1) := by decide +kernel
theorem dX6_takeClause_96 : decode cX6_takeClause 96 = .ok (.iadd, 1) := by decide +kernel
theorem dX6_takeClause_97 : decode cX6_takeClause 97 = .ok (.putfield 89, 3) := by decide +kernel
theorem dX6_takeClause_100 : decode cX6_takeClause 100 = .ok (.aload_n 0, 1) := by decide +kernel
theorem dX6_takeClause_101 : decode cX6_takeClause 101 = .ok (.iload_n 2, 1) := by decide +kernel
theorem dX6_takeClause_102 : decode cX6_takeClause 102 = .ok (.invokevirtual 141, 3) := by decide +kernel
theorem dX6_takeClause_105 : decode cX6_takeClause 105 = .ok (.istore_n 3, 1) := by decide +kernel
theorem dX6_takeClause_106 : decode cX6_takeClause 106 = .ok (.iload_n 3, 1) := by decide +kernel
theorem dX6_takeClause_107 : decode cX6_takeClause 107 = .ok (.ifCond .le 5, 3) := by decide +kernel
theorem dX6_takeClause_110 : decode cX6_takeClause 110 = .ok (.iload_n 3, 1) := by decide +kernel
theorem dX6_takeClause_111 : decode cX6_takeClause 111 = .ok (.ireturn, 1) := by decide +kernel
theorem dX6_takeClause_112 : decode cX6_takeClause 112 = .ok (.aload_n 0, 1) := by decide +kernel
theorem dX6_takeClause_113 : decode cX6_takeClause 113 = .ok (.invokevirtual 92, 3) := by decide +kernel
theorem dX6_takeClause_116 : decode cX6_takeClause 116 = .ok (.bipush 59, 2) := by decide +kernel
theorem dX6_takeClause_118 : decode cX6_takeClause 118 = .ok (.if_icmp .eq 13, 3) := by decide +kernel
theorem dX6_takeClause_121 : decode cX6_takeClause 121 = .ok (.aload_n 0, 1) := by decide +kernel
theorem dX6_takeClause_122 : decode cX6_takeClause 122 = .ok (.iconst 1, 1) := by decide +kernel
theorem dX6_takeClause_123 : decode cX6_takeClause 123 = .ok (.aload_n 0, 1) := by decide +kernel
theorem dX6_takeClause_124 : decode cX6_takeClause 124 = .ok (.getfield 89, 3) := by decide +kernel
theorem dX6_takeClause_127 : decode cX6_takeClause 127 = .ok (.invokevirtual 100, 3) := by decide +kernel
theorem dX6_takeClause_130 : decode cX6_takeClause 130 = .ok (.ireturn, 1) := by decide +kernel
theorem dX6_takeClause_131 : decode cX6_takeClause 131 = .ok (.aload_n 0, 1) := by decide +kernel
theorem dX6_takeClause_132 : decode cX6_takeClause 132 = .ok (.dup, 1) := by decide +kernel
theorem dX6_takeClause_133 : decode cX6_takeClause 133 = .ok (.getfield 89, 3) := by decide +kernel
theorem dX6_takeClause_136 : decode cX6_takeClause 136 = .ok (.iconst 1, 1) := by decide +kernel
theorem dX6_takeClause_137 : decode cX6_takeClause 137 = .ok (.iadd, 1) := by decide +kernel
theorem dX6_takeClause_138 : decode cX6_takeClause 138 = .ok (.putfield 89, 3) := by decide +kernel
theorem dX6_takeClause_141 : decode cX6_takeClause 141 = .ok (.iconst 0, 1) := by decide +kernel
theorem dX6_takeClause_142 : decode cX6_takeClause 142 = .ok (.ireturn, 1) := by decide +kernel
set_option maxRecDepth 20000 in
theorem ggX6_takeRead_X6_empties : GoodIn wsX6_takeRead wsX6_empties := goodIn_r _ [20, 15, 21, 22, 23, 24, 25, 26, 27, 28, 29, 30, 31, 32, 33, 34, 35, 36, 37, 38, 39, 40, 41, 42, 43, 44, 45, 46, 47, 48, 49, 50, 51, 52, 53] (by decide +kernel) (by decide +kernel)
set_option maxRecDepth 20000 in
theorem gX6_takeRead_X6_empties : GoodIn wsX6_takeRead (wsV RX6 69 RX6 yX6_empties wsX6_empties) := goodIn_app (goodIn_of _ (by decide +kernel)) ggX6_takeRead_X6_empties
theorem dX6_takeRead_0 : decode cX6_takeRead 0 = .ok (.aload_n 0, 1) := by decide +kernel
theorem dX6_takeRead_1 : decode cX6_takeRead 1 = .ok (.aload_n 0, 1) := by decide +kernel
theorem dX6_takeRead_2 : decode cX6_takeRead 2 = .ok (.getfield 113, 3) := by decide +kernel
theorem dX6_takeRead_5 : decode cX6_takeRead 5 = .ok (.putfield 66, 3) := by decide +kernel
theorem dX6_takeRead_8 : decode cX6_takeRead 8 = .ok (.aload_n 0, 1) := by decide +kernel
theorem dX6_takeRead_9 : decode cX6_takeRead 9 = .ok (.aload_n 0, 1) := by decide +kernel
theorem dX6_takeRead_10 : decode cX6_takeRead 10 = .ok (.getfield 116, 3) := by decide +kernel
theorem dX6_takeRead_13 : decode cX6_takeRead 13 = .ok (.putfield 72, 3) := by decide +kernel
theorem dX6_takeRead_16 : decode cX6_takeRead 16 = .ok (.aload_n 0, 1) := by decide +kernel
theorem dX6_takeRead_17 : decode cX6_takeRead 17 = .ok (.aload_n 0, 1) := by decide +kernel
theorem dX6_takeRead_18 : decode cX6_takeRead 18 = .ok (.getfield 119, 3) := by decide +kernel
theorem dX6_takeRead_21 : decode cX6_takeRead 21 = .ok (.putfield 79, 3) := by decide +kernel
theorem dX6_takeRead_24 : decode cX6_takeRead 24 = .ok (.aload_n 0, 1) := by decide +kernel
theorem dX6_takeRead_25 : decode cX6_takeRead 25 = .ok (.aload_n 0, 1) := by decide +kernel
theorem dX6_takeRead_26 : decode cX6_takeRead 26 = .ok (.getfield 122, 3) := by decide +kernel
theorem dX6_takeRead_29 : decode cX6_takeRead 29 = .ok (.putfield 145, 3) := by decide +kernel
theorem dX6_takeRead_32 : decode cX6_takeRead 32 = .ok (.iconst 0, 1) := by decide +kernel
theorem dX6_takeRead_33 : decode cX6_takeRead 33 = .ok (.istore_n 1, 1) := by decide +kernel
theorem dX6_takeRead_34 : decode cX6_takeRead 34 = .ok (.iload_n 1, 1) := by decide +kernel
theorem dX6_takeRead_35 : decode cX6_takeRead 35 = .ok (.bipush 6, 2) := by decide +kernel
theorem dX6_takeRead_37 : decode cX6_takeRead 37 = .ok (.if_icmp .ge 33, 3) := by decide +kernel
theorem dX6_takeRead_40 : decode cX6_takeRead 40 = .ok (.aload_n 0, 1) := by decide +kernel
theorem dX6_takeRead_41 : decode cX6_takeRead 41 = .ok (.getfield 7, 3) := by decide +kernel
theorem dX6_takeRead_44 : decode cX6_takeRead 44 = .ok (.iload_n 1, 1) := by decide +kernel
theorem dX6_takeRead_45 : decode cX6_takeRead 45 = .ok (.aload_n 0, 1) := by decide +kernel
theorem dX6_takeRead_46 : decode cX6_takeRead 46 = .ok (.getfield 29, 3) := by decide +kernel
theorem dX6_takeRead_49 : decode cX6_takeRead 49 = .ok (.iload_n 1, 1) := by decide +kernel
theorem dX6_takeRead_50 : decode cX6_takeRead 50 = .ok (.iaload, 1) := by decide +kernel
theorem dX6_takeRead_51 : decode cX6_takeRead 51 = .ok (.iastore, 1) := by decide +kernel
theorem dX6_takeRead_52 : decode cX6_takeRead 52 = .ok (.aload_n 0, 1) := by decide +kernel
theorem dX6_takeRead_53 : decode cX6_takeRead 53 = .ok (.getfield 16, 3) := by decide +kernel
theorem dX6_takeRead_56 : decode cX6_takeRead 56 = .ok (.iload_n 1, 1) := by decide +kernel
theorem dX6_takeRead_57 : decode cX6_takeRead 57 = .ok (.aload_n 0, 1) := by decide +kernel
theorem dX6_takeRead_58 : decode cX6_takeRead 58 = .ok (.getfield 35, 3) := by decide +kernel
theorem dX6_takeRead_61 : decode cX6_takeRead 61 = .ok (.iload_n 1, 1) := by decide +kernel
theorem dX6_takeRead_62 : decode cX6_takeRead 62 = .ok (.iaload, 1) := by decide +kernel
theorem dX6_takeRead_63 : decode cX6_takeRead 63 = .ok (.iastore, 1) := by decide +kernel
theorem dX6_takeRead_64 : decode cX6_takeRead 64 = .ok (.iinc 1 1, 3) := by decide +kernel
theorem dX6_takeRead_67 : decode cX6_takeRead 67 = .ok (.goto (-33), 3) := by decide +kernel
theorem dX6_takeRead_70 : decode cX6_takeRead 70 = .ok (.aload_n 0, 1) := by decide +kernel
theorem dX6_takeRead_71 : decode cX6_takeRead 71 = .ok (.invokevirtual 69, 3) := by decide +kernel
theorem dX6_takeRead_74 : decode cX6_takeRead 74 = .ok (.iconst 0, 1) := by decide +kernel
theorem dX6_takeRead_75 : decode cX6_takeRead 75 = .ok (.istore_n 1, 1) := by decide +kernel
theorem dX6_takeRead_76 : decode cX6_takeRead 76 = .ok (.iload_n 1, 1) := by decide +kernel
theorem dX6_takeRead_77 : decode cX6_takeRead 77 = .ok (.aload_n 0, 1) := by decide +kernel
theorem dX6_takeRead_78 : decode cX6_takeRead 78 = .ok (.getfield 79, 3) := by decide +kernel
theorem dX6_takeRead_81 : decode cX6_takeRead 81 = .ok (.if_icmp .ge 36, 3) := by decide +kernel
theorem dX6_takeRead_84 : decode cX6_takeRead 84 = .ok (.aload_n 0, 1) := by decide +kernel
theorem dX6_takeRead_85 : decode cX6_takeRead 85 = .ok (.getfield 13, 3) := by decide +kernel
theorem dX6_takeRead_88 : decode cX6_takeRead 88 = .ok (.iload_n 1, 1) := by decide +kernel
theorem dX6_takeRead_89 : decode cX6_takeRead 89 = .ok (.aload_n 0, 1) := by decide +kernel
theorem dX6_takeRead_90 : decode cX6_takeRead 90 = .ok (.getfield 32, 3) := by decide +kernel
theorem dX6_takeRead_93 : decode cX6_takeRead 93 = .ok (.iload_n 1, 1) := by decide +kernel
theorem dX6_takeRead_94 : decode cX6_takeRead 94 = .ok (.iaload, 1) := by decide +kernel
theorem dX6_takeRead_95 : decode cX6_takeRead 95 = .ok (.iastore, 1) := by decide +kernel
theorem dX6_takeRead_96 : decode cX6_takeRead 96 = .ok (.aload_n 0, 1) := by decide +kernel
theorem dX6_takeRead_97 : decode cX6_takeRead 97 = .ok (.getfield 19, 3) := by decide +kernel
theorem dX6_takeRead_100 : decode cX6_takeRead 100 = .ok (.bipush 12, 2) := by decide +kernel
theorem dX6_takeRead_102 : decode cX6_takeRead 102 = .ok (.iload_n 1, 1) := by decide +kernel
theorem dX6_takeRead_103 : decode cX6_takeRead 103 = .ok (.iadd, 1) := by decide +kernel
theorem dX6_takeRead_104 : decode cX6_takeRead 104 = .ok (.aload_n 0, 1) := by decide +kernel
theorem dX6_takeRead_105 : decode cX6_takeRead 105 = .ok (.getfield 32, 3) := by decide +kernel
theorem dX6_takeRead_108 : decode cX6_takeRead 108 = .ok (.iload_n 1, 1) := by decide +kernel
theorem dX6_takeRead_109 : decode cX6_takeRead 109 = .ok (.iaload, 1) := by decide +kernel
theorem dX6_takeRead_110 : decode cX6_takeRead 110 = .ok (.iastore, 1) := by decide +kernel
theorem dX6_takeRead_111 : decode cX6_takeRead 111 = .ok (.iinc 1 1, 3) := by decide +kernel
theorem dX6_takeRead_114 : decode cX6_takeRead 114 = .ok (.goto (-38), 3) := by decide +kernel
theorem dX6_takeRead_117 : decode cX6_takeRead 117 = .ok (.return_, 1) := by decide +kernel
set_option maxRecDepth 20000 in
theorem ggX6_capital_X6_here : GoodIn wsX6_capital wsX6_here := goodIn_r _ [16, 2, 7, 17, 79, 80, 81, 82, 83, 84, 85, 86, 87, 88, 89, 90, 91, 92, 93, 94, 95, 96, 97, 98, 99, 100, 101, 102, 103, 104, 105, 106, 107, 108, 109, 110, 111] (by decide +kernel) (by decide +kernel)
set_option maxRecDepth 20000 in
theorem gX6_capital_X6_here : GoodIn wsX6_capital (wsV RX6 92 RX6 yX6_here wsX6_here) := goodIn_app (goodIn_of _ (by decide +kernel)) ggX6_capital_X6_here
set_option maxRecDepth 20000 in
theorem ggX6_capital_X6_takeClause : GoodIn wsX6_capital wsX6_takeClause := goodIn_r _ [21, 3, 2, 12, 13, 14, 15, 16, 7, 17, 22, 23, 24, 25, 1, 26, 27, 28, 29, 4, 5, 6, 30, 31, 32, 33, 34, 35, 36, 37, 38, 39, 40, 41, 42, 43, 44, 45, 46, 47, 48, 49, 50, 51, 52, 53, 54, 55, 56, 57, 58, 59, 60, 61, 62, 63, 79, 80, 81, 82, 83, 84, 85, 86, 87, 88, 89, 90, 91, 92, 93, 94, 95, 96, 97, 98, 99, 100, 101, 102, 103, 104, 105, 106, 107, 108, 109, 110, 111] (by decide +kernel) (by decide +kernel)
set_option maxRecDepth 20000 in
theorem gX6_capital_X6_takeClause : GoodIn wsX6_capital (wsV RX6 148 RX6 yX6_takeClause wsX6_takeClause) := goodIn_app (goodIn_of _ (by decide +kernel)) ggX6_capital_X6_takeClause
set_option maxRecDepth 20000 in
theorem ggX6_capital_X6_takeRead : GoodIn wsX6_capital wsX6_takeRead := goodIn_r _ [67, 3, 68, 4, 11, 5, 69, 6, 70, 71, 53, 72, 63, 73, 58, 74, 75, 76, 77, 15, 78, 79, 80, 81, 82, 83, 84, 85, 86, 87, 88, 89, 90, 91, 92, 93, 94, 95, 96, 97, 98, 99, 100, 101, 102, 103, 104, 105, 106, 107, 108, 109, 110, 111] (by decide +kernel) (by decide +kernel)
set_option maxRecDepth 20000 in
theorem gX6_capital_X6_takeRead : GoodIn wsX6_capital (wsV RX6 151 RX6 yX6_takeRead wsX6_takeRead) := goodIn_app (goodIn_of _ (by decide +kernel)) ggX6_capital_X6_takeRead
theorem dX6_capital_0 : decode cX6_capital 0 = .ok (.aload_n 0, 1) := by decide +kernel
theorem dX6_capital_1 : decode cX6_capital 1 = .ok (.iconst (-1), 1) := by decide +kernel
theorem dX6_capital_2 : decode cX6_capital 2 = .ok (.putfield 25, 3) := by decide +kernel
theorem dX6_capital_5 : decode cX6_capital 5 = .ok (.aload_n 0, 1) := by decide +kernel
theorem dX6_capital_6 : decode cX6_capital 6 = .ok (.iconst 0, 1) := by decide +kernel
theorem dX6_capital_7 : decode cX6_capital 7 = .ok (.putfield 89, 3) := by decide +kernel
theorem dX6_capital_10 : decode cX6_capital 10 = .ok (.aload_n 0, 1) := by decide +kernel
theorem dX6_capital_11 : decode cX6_capital 11 = .ok (.iconst 0, 1) := by decide +kernel
theorem dX6_capital_12 : decode cX6_capital 12 = .ok (.putfield 113, 3) := by decide +kernel
theorem dX6_capital_15 : decode cX6_capital 15 = .ok (.aload_n 0, 1) := by decide +kernel
theorem dX6_capital_16 : decode cX6_capital 16 = .ok (.iconst 0, 1) := by decide +kernel
theorem dX6_capital_17 : decode cX6_capital 17 = .ok (.putfield 116, 3) := by decide +kernel
theorem dX6_capital_20 : decode cX6_capital 20 = .ok (.aload_n 0, 1) := by decide +kernel
theorem dX6_capital_21 : decode cX6_capital 21 = .ok (.iconst 0, 1) := by decide +kernel
theorem dX6_capital_22 : decode cX6_capital 22 = .ok (.putfield 119, 3) := by decide +kernel
theorem dX6_capital_25 : decode cX6_capital 25 = .ok (.aload_n 0, 1) := by decide +kernel
theorem dX6_capital_26 : decode cX6_capital 26 = .ok (.iconst 0, 1) := by decide +kernel
theorem dX6_capital_27 : decode cX6_capital 27 = .ok (.putfield 122, 3) := by decide +kernel
theorem dX6_capital_30 : decode cX6_capital 30 = .ok (.iconst 0, 1) := by decide +kernel
theorem dX6_capital_31 : decode cX6_capital 31 = .ok (.istore_n 1, 1) := by decide +kernel
theorem dX6_capital_32 : decode cX6_capital 32 = .ok (.iload_n 1, 1) := by decide +kernel
theorem dX6_capital_33 : decode cX6_capital 33 = .ok (.ifCond .ne 18, 3) := by decide +kernel
theorem dX6_capital_36 : decode cX6_capital 36 = .ok (.aload_n 0, 1) := by decide +kernel
theorem dX6_capital_37 : decode cX6_capital 37 = .ok (.invokevirtual 92, 3) := by decide +kernel
theorem dX6_capital_40 : decode cX6_capital 40 = .ok (.ifCond .lt 11, 3) := by decide +kernel
theorem dX6_capital_43 : decode cX6_capital 43 = .ok (.aload_n 0, 1) := by decide +kernel
theorem dX6_capital_44 : decode cX6_capital 44 = .ok (.invokevirtual 148, 3) := by decide +kernel
theorem dX6_capital_47 : decode cX6_capital 47 = .ok (.istore_n 1, 1) := by decide +kernel
theorem dX6_capital_48 : decode cX6_capital 48 = .ok (.goto (-16), 3) := by decide +kernel
theorem dX6_capital_51 : decode cX6_capital 51 = .ok (.aload_n 0, 1) := by decide +kernel
theorem dX6_capital_52 : decode cX6_capital 52 = .ok (.iconst 0, 1) := by decide +kernel
theorem dX6_capital_53 : decode cX6_capital 53 = .ok (.putfield 85, 3) := by decide +kernel
theorem dX6_capital_56 : decode cX6_capital 56 = .ok (.iload_n 1, 1) := by decide +kernel
theorem dX6_capital_57 : decode cX6_capital 57 = .ok (.ifCond .le 8, 3) := by decide +kernel
theorem dX6_capital_60 : decode cX6_capital 60 = .ok (.bipush (-10), 2) := by decide +kernel
theorem dX6_capital_62 : decode cX6_capital 62 = .ok (.iload_n 1, 1) := by decide +kernel
theorem dX6_capital_63 : decode cX6_capital 63 = .ok (.isub, 1) := by decide +kernel
theorem dX6_capital_64 : decode cX6_capital 64 = .ok (.ireturn, 1) := by decide +kernel
theorem dX6_capital_65 : decode cX6_capital 65 = .ok (.aload_n 0, 1) := by decide +kernel
theorem dX6_capital_66 : decode cX6_capital 66 = .ok (.invokevirtual 151, 3) := by decide +kernel
theorem dX6_capital_69 : decode cX6_capital 69 = .ok (.aload_n 0, 1) := by decide +kernel
theorem dX6_capital_70 : decode cX6_capital 70 = .ok (.iconst 0, 1) := by decide +kernel
theorem dX6_capital_71 : decode cX6_capital 71 = .ok (.putfield 154, 3) := by decide +kernel
theorem dX6_capital_74 : decode cX6_capital 74 = .ok (.aload_n 0, 1) := by decide +kernel
theorem dX6_capital_75 : decode cX6_capital 75 = .ok (.iconst 0, 1) := by decide +kernel
theorem dX6_capital_76 : decode cX6_capital 76 = .ok (.putfield 157, 3) := by decide +kernel
theorem dX6_capital_79 : decode cX6_capital 79 = .ok (.aload_n 0, 1) := by decide +kernel
theorem dX6_capital_80 : decode cX6_capital 80 = .ok (.getfield 62, 3) := by decide +kernel
theorem dX6_capital_83 : decode cX6_capital 83 = .ok (.iconst 0, 1) := by decide +kernel
theorem dX6_capital_84 : decode cX6_capital 84 = .ok (.iconst 0, 1) := by decide +kernel
theorem dX6_capital_85 : decode cX6_capital 85 = .ok (.bastore, 1) := by decide +kernel
theorem dX6_capital_86 : decode cX6_capital 86 = .ok (.aload_n 0, 1) := by decide +kernel
theorem dX6_capital_87 : decode cX6_capital 87 = .ok (.getfield 62, 3) := by decide +kernel
theorem dX6_capital_90 : decode cX6_capital 90 = .ok (.iconst 1, 1) := by decide +kernel
theorem dX6_capital_91 : decode cX6_capital 91 = .ok (.iconst 0, 1) := by decide +kernel
theorem dX6_capital_92 : decode cX6_capital 92 = .ok (.bastore, 1) := by decide +kernel
theorem dX6_capital_93 : decode cX6_capital 93 = .ok (.aload_n 0, 1) := by decide +kernel
theorem dX6_capital_94 : decode cX6_capital 94 = .ok (.getfield 72, 3) := by decide +kernel
theorem dX6_capital_97 : decode cX6_capital 97 = .ok (.ireturn, 1) := by decide +kernel
theorem dX6_fault_0 : decode cX6_fault 0 = .ok (.aload_n 0, 1) := by decide +kernel
theorem dX6_fault_1 : decode cX6_fault 1 = .ok (.getfield 25, 3) := by decide +kernel
theorem dX6_fault_4 : decode cX6_fault 4 = .ok (.ireturn, 1) := by decide +kernel
set_option maxRecDepth 20000 in
theorem ggX6_shifted_X6_has : GoodIn wsX6_shifted wsX6_has := goodIn_r _ [5] (by decide +kernel) (by decide +kernel)
set_option maxRecDepth 20000 in
theorem gX6_shifted_X6_has : GoodIn wsX6_shifted (va_wsS RX6 160 yX6_has wsX6_has) := goodIn_app (goodIn_of _ (by decide +kernel)) ggX6_shifted_X6_has
set_option maxRecDepth 20000 in
theorem ggX6_shifted_X6_in : GoodIn wsX6_shifted wsX6_in := goodIn_r _ [8] (by decide +kernel) (by decide +kernel)
set_option maxRecDepth 20000 in
theorem gX6_shifted_X6_in : GoodIn wsX6_shifted (va_wsS RX6 75 yX6_in wsX6_in) := goodIn_app (goodIn_of _ (by decide +kernel)) ggX6_shifted_X6_in
theorem dX6_shifted_0 : decode cX6_shifted 0 = .ok (.iconst 0, 1) := by decide +kernel
theorem dX6_shifted_1 : decode cX6_shifted 1 = .ok (.istore_n 2, 1) := by decide +kernel
theorem dX6_shifted_2 : decode cX6_shifted 2 = .ok (.iconst 0, 1) := by decide +kernel
theorem dX6_shifted_3 : decode cX6_shifted 3 = .ok (.istore_n 3, 1) := by decide +kernel
theorem dX6_shifted_4 : decode cX6_shifted 4 = .ok (.iload_n 3, 1) := by decide +kernel
theorem dX6_shifted_5 : decode cX6_shifted 5 = .ok (.bipush 30, 2) := by decide +kernel
theorem dX6_shifted_7 : decode cX6_shifted 7 = .ok (.if_icmp .ge 50, 3) := by decide +kernel
theorem dX6_shifted_10 : decode cX6_shifted 10 = .ok (.iload_n 3, 1) := by decide +kernel
theorem dX6_shifted_11 : decode cX6_shifted 11 = .ok (.bipush 6, 2) := by decide +kernel
theorem dX6_shifted_13 : decode cX6_shifted 13 = .ok (.irem, 1) := by decide +kernel
theorem dX6_shifted_14 : decode cX6_shifted 14 = .ok (.iload_n 1, 1) := by decide +kernel
theorem dX6_shifted_15 : decode cX6_shifted 15 = .ok (.iadd, 1) := by decide +kernel
theorem dX6_shifted_16 : decode cX6_shifted 16 = .ok (.istore 4, 2) := by decide +kernel
theorem dX6_shifted_18 : decode cX6_shifted 18 = .ok (.iload_n 2, 1) := by decide +kernel
theorem dX6_shifted_19 : decode cX6_shifted 19 = .ok (.iload_n 0, 1) := by decide +kernel
theorem dX6_shifted_20 : decode cX6_shifted 20 = .ok (.iload_n 3, 1) := by decide +kernel
theorem dX6_shifted_21 : decode cX6_shifted 21 = .ok (.invokestatic 160, 3) := by decide +kernel
theorem dX6_shifted_24 : decode cX6_shifted 24 = .ok (.ifCond .eq 24, 3) := by decide +kernel
theorem dX6_shifted_27 : decode cX6_shifted 27 = .ok (.iload 4, 2) := by decide +kernel
theorem dX6_shifted_29 : decode cX6_shifted 29 = .ok (.i2l, 1) := by decide +kernel
theorem dX6_shifted_30 : decode cX6_shifted 30 = .ok (.lconst 0, 1) := by decide +kernel
theorem dX6_shifted_31 : decode cX6_shifted 31 = .ok (.ldc2_w 164, 3) := by decide +kernel
theorem dX6_shifted_34 : decode cX6_shifted 34 = .ok (.invokestatic 75, 3) := by decide +kernel
theorem dX6_shifted_37 : decode cX6_shifted 37 = .ok (.ifCond .eq 11, 3) := by decide +kernel
theorem dX6_shifted_40 : decode cX6_shifted 40 = .ok (.iconst 1, 1) := by decide +kernel
theorem dX6_shifted_41 : decode cX6_shifted 41 = .ok (.iload_n 3, 1) := by decide +kernel
theorem dX6_shifted_42 : decode cX6_shifted 42 = .ok (.iload_n 1, 1) := by decide +kernel
theorem dX6_shifted_43 : decode cX6_shifted 43 = .ok (.iadd, 1) := by decide +kernel
theorem dX6_shifted_44 : decode cX6_shifted 44 = .ok (.ishl, 1) := by decide +kernel
theorem dX6_shifted_45 : decode cX6_shifted 45 = .ok (.goto 4, 3) := by decide +kernel
theorem dX6_shifted_48 : decode cX6_shifted 48 = .ok (.iconst 0, 1) := by decide +kernel
theorem dX6_shifted_49 : decode cX6_shifted 49 = .ok (.ior, 1) := by decide +kernel
theorem dX6_shifted_50 : decode cX6_shifted 50 = .ok (.istore_n 2, 1) := by decide +kernel
theorem dX6_shifted_51 : decode cX6_shifted 51 = .ok (.iinc 3 1, 3) := by decide +kernel
theorem dX6_shifted_54 : decode cX6_shifted 54 = .ok (.goto (-50), 3) := by decide +kernel
theorem dX6_shifted_57 : decode cX6_shifted 57 = .ok (.iload_n 2, 1) := by decide +kernel
theorem dX6_shifted_58 : decode cX6_shifted 58 = .ok (.ireturn, 1) := by decide +kernel
set_option maxRecDepth 20000 in
theorem ggX6_drawnBy_X6_shifted : GoodIn wsX6_drawnBy wsX6_shifted := goodIn_r _ [7, 8, 9, 10, 6, 11, 12, 13, 14] (by decide +kernel) (by decide +kernel)
set_option maxRecDepth 20000 in
theorem gX6_drawnBy_X6_shifted : GoodIn wsX6_drawnBy (va_wsS RX6 166 yX6_shifted wsX6_shifted) := goodIn_app (goodIn_of _ (by decide +kernel)) ggX6_drawnBy_X6_shifted
set_option maxRecDepth 20000 in
theorem ggX6_drawnBy_X6_has : GoodIn wsX6_drawnBy wsX6_has := goodIn_r _ [11] (by decide +kernel) (by decide +kernel)
set_option maxRecDepth 20000 in
theorem gX6_drawnBy_X6_has : GoodIn wsX6_drawnBy (va_wsS RX6 160 yX6_has wsX6_has) := goodIn_app (goodIn_of _ (by decide +kernel)) ggX6_drawnBy_X6_has
theorem dX6_drawnBy_0 : decode cX6_drawnBy 0 = .ok (.aload_n 0, 1) := by decide +kernel
theorem dX6_drawnBy_1 : decode cX6_drawnBy 1 = .ok (.getfield 7, 3) := by decide +kernel
theorem dX6_drawnBy_4 : decode cX6_drawnBy 4 = .ok (.iload_n 1, 1) := by decide +kernel
theorem dX6_drawnBy_5 : decode cX6_drawnBy 5 = .ok (.iaload, 1) := by decide +kernel
theorem dX6_drawnBy_6 : decode cX6_drawnBy 6 = .ok (.iload_n 2, 1) := by decide +kernel
theorem dX6_drawnBy_7 : decode cX6_drawnBy 7 = .ok (.invokestatic 166, 3) := by decide +kernel
theorem dX6_drawnBy_10 : decode cX6_drawnBy 10 = .ok (.aload_n 0, 1) := by decide +kernel
theorem dX6_drawnBy_11 : decode cX6_drawnBy 11 = .ok (.getfield 19, 3) := by decide +kernel
theorem dX6_drawnBy_14 : decode cX6_drawnBy 14 = .ok (.iconst 3, 1) := by decide +kernel
theorem dX6_drawnBy_15 : decode cX6_drawnBy 15 = .ok (.iaload, 1) := by decide +kernel
theorem dX6_drawnBy_16 : decode cX6_drawnBy 16 = .ok (.iconst (-1), 1) := by decide +kernel
theorem dX6_drawnBy_17 : decode cX6_drawnBy 17 = .ok (.ixor, 1) := by decide +kernel
theorem dX6_drawnBy_18 : decode cX6_drawnBy 18 = .ok (.iand, 1) := by decide +kernel
theorem dX6_drawnBy_19 : decode cX6_drawnBy 19 = .ok (.istore_n 3, 1) := by decide +kernel
theorem dX6_drawnBy_20 : decode cX6_drawnBy 20 = .ok (.aload_n 0, 1) := by decide +kernel
theorem dX6_drawnBy_21 : decode cX6_drawnBy 21 = .ok (.getfield 66, 3) := by decide +kernel
theorem dX6_drawnBy_24 : decode cX6_drawnBy 24 = .ok (.istore 4, 2) := by decide +kernel
theorem dX6_drawnBy_26 : decode cX6_drawnBy 26 = .ok (.iconst 0, 1) := by decide +kernel
theorem dX6_drawnBy_27 : decode cX6_drawnBy 27 = .ok (.istore 5, 2) := by decide +kernel
theorem dX6_drawnBy_29 : decode cX6_drawnBy 29 = .ok (.iconst 0, 1) := by decide +kernel
theorem dX6_drawnBy_30 : decode cX6_drawnBy 30 = .ok (.istore 6, 2) := by decide +kernel
theorem dX6_drawnBy_32 : decode cX6_drawnBy 32 = .ok (.iload 6, 2) := by decide +kernel
theorem dX6_drawnBy_34 : decode cX6_drawnBy 34 = .ok (.bipush 30, 2) := by decide +kernel
theorem dX6_drawnBy_36 : decode cX6_drawnBy 36 = .ok (.if_icmp .ge 80, 3) := by decide +kernel
theorem dX6_drawnBy_39 : decode cX6_drawnBy 39 = .ok (.iload_n 3, 1) := by decide +kernel
theorem dX6_drawnBy_40 : decode cX6_drawnBy 40 = .ok (.iload 6, 2) := by decide +kernel
theorem dX6_drawnBy_42 : decode cX6_drawnBy 42 = .ok (.invokestatic 160, 3) := by decide +kernel
theorem dX6_drawnBy_45 : decode cX6_drawnBy 45 = .ok (.ifCond .eq 29, 3) := by decide +kernel
theorem dX6_drawnBy_48 : decode cX6_drawnBy 48 = .ok (.aload_n 0, 1) := by decide +kernel
theorem dX6_drawnBy_49 : decode cX6_drawnBy 49 = .ok (.getfield 19, 3) := by decide +kernel
theorem dX6_drawnBy_52 : decode cX6_drawnBy 52 = .ok (.iconst 2, 1) := by decide +kernel
theorem dX6_drawnBy_53 : decode cX6_drawnBy 53 = .ok (.iaload, 1) := by decide +kernel
theorem dX6_drawnBy_54 : decode cX6_drawnBy 54 = .ok (.iload 6, 2) := by decide +kernel
theorem dX6_drawnBy_56 : decode cX6_drawnBy 56 = .ok (.bipush 6, 2) := by decide +kernel
theorem dX6_drawnBy_58 : decode cX6_drawnBy 58 = .ok (.irem, 1) := by decide +kernel
theorem dX6_drawnBy_59 : decode cX6_drawnBy 59 = .ok (.invokestatic 160, 3) := by decide +kernel
theorem dX6_drawnBy_62 : decode cX6_drawnBy 62 = .ok (.ifCond .ne 12, 3) := by decide +kernel
theorem dX6_drawnBy_65 : decode cX6_drawnBy 65 = .ok (.iload 4, 2) := by decide +kernel
theorem dX6_drawnBy_67 : decode cX6_drawnBy 67 = .ok (.ifCond .le 7, 3) := by decide +kernel
theorem dX6_drawnBy_70 : decode cX6_drawnBy 70 = .ok (.iconst 1, 1) := by decide +kernel
theorem dX6_drawnBy_71 : decode cX6_drawnBy 71 = .ok (.goto 4, 3) := by decide +kernel
theorem dX6_drawnBy_74 : decode cX6_drawnBy 74 = .ok (.iconst 0, 1) := by decide +kernel
theorem dX6_drawnBy_75 : decode cX6_drawnBy 75 = .ok (.istore 7, 2) := by decide +kernel
theorem dX6_drawnBy_77 : decode cX6_drawnBy 77 = .ok (.iload 5, 2) := by decide +kernel
theorem dX6_drawnBy_79 : decode cX6_drawnBy 79 = .ok (.iload 7, 2) := by decide +kernel
theorem dX6_drawnBy_81 : decode cX6_drawnBy 81 = .ok (.ifCond .eq 10, 3) := by decide +kernel
theorem dX6_drawnBy_84 : decode cX6_drawnBy 84 = .ok (.iconst 1, 1) := by decide +kernel
theorem dX6_drawnBy_85 : decode cX6_drawnBy 85 = .ok (.iload 6, 2) := by decide +kernel
theorem dX6_drawnBy_87 : decode cX6_drawnBy 87 = .ok (.ishl, 1) := by decide +kernel
theorem dX6_drawnBy_88 : decode cX6_drawnBy 88 = .ok (.goto 4, 3) := by decide +kernel
theorem dX6_drawnBy_91 : decode cX6_drawnBy 91 = .ok (.iconst 0, 1) := by decide +kernel
theorem dX6_drawnBy_92 : decode cX6_drawnBy 92 = .ok (.ior, 1) := by decide +kernel
theorem dX6_drawnBy_93 : decode cX6_drawnBy 93 = .ok (.istore 5, 2) := by decide +kernel
theorem dX6_drawnBy_95 : decode cX6_drawnBy 95 = .ok (.iload 4, 2) := by decide +kernel
theorem dX6_drawnBy_97 : decode cX6_drawnBy 97 = .ok (.iload 7, 2) := by decide +kernel
theorem dX6_drawnBy_99 : decode cX6_drawnBy 99 = .ok (.ifCond .eq 7, 3) := by decide +kernel
theorem dX6_drawnBy_102 : decode cX6_drawnBy 102 = .ok (.iconst 1, 1) := by decide +kernel
theorem dX6_drawnBy_103 : decode cX6_drawnBy 103 = .ok (.goto 4, 3) := by decide +kernel
theorem dX6_drawnBy_106 : decode cX6_drawnBy 106 = .ok (.iconst 0, 1) := by decide +kernel
theorem dX6_drawnBy_107 : decode cX6_drawnBy 107 = .ok (.isub, 1) := by decide +kernel
theorem dX6_drawnBy_108 : decode cX6_drawnBy 108 = .ok (.istore 4, 2) := by decide +kernel
theorem dX6_drawnBy_110 : decode cX6_drawnBy 110 = .ok (.iinc 6 1, 3) := by decide +kernel
theorem dX6_drawnBy_113 : decode cX6_drawnBy 113 = .ok (.goto (-81), 3) := by decide +kernel
theorem dX6_drawnBy_116 : decode cX6_drawnBy 116 = .ok (.iload 5, 2) := by decide +kernel
theorem dX6_drawnBy_118 : decode cX6_drawnBy 118 = .ok (.ireturn, 1) := by decide +kernel
theorem dX6_whoIsAt_0 : decode cX6_whoIsAt 0 = .ok (.iconst (-1), 1) := by decide +kernel
theorem dX6_whoIsAt_1 : decode cX6_whoIsAt 1 = .ok (.istore_n 2, 1) := by decide +kernel
theorem dX6_whoIsAt_2 : decode cX6_whoIsAt 2 = .ok (.iconst 0, 1) := by decide +kernel
theorem dX6_whoIsAt_3 : decode cX6_whoIsAt 3 = .ok (.istore_n 3, 1) := by decide +kernel
theorem dX6_whoIsAt_4 : decode cX6_whoIsAt 4 = .ok (.iload_n 3, 1) := by decide +kernel
theorem dX6_whoIsAt_5 : decode cX6_whoIsAt 5 = .ok (.aload_n 0, 1) := by decide +kernel
theorem dX6_whoIsAt_6 : decode cX6_whoIsAt 6 = .ok (.getfield 72, 3) := by decide +kernel
theorem dX6_whoIsAt_9 : decode cX6_whoIsAt 9 = .ok (.if_icmp .ge 28, 3) := by decide +kernel
theorem dX6_whoIsAt_12 : decode cX6_whoIsAt 12 = .ok (.aload_n 0, 1) := by decide +kernel
theorem dX6_whoIsAt_13 : decode cX6_whoIsAt 13 = .ok (.getfield 19, 3) := by decide +kernel
theorem dX6_whoIsAt_16 : decode cX6_whoIsAt 16 = .ok (.bipush 6, 2) := by decide +kernel
theorem dX6_whoIsAt_18 : decode cX6_whoIsAt 18 = .ok (.iload_n 3, 1) := by decide +kernel
theorem dX6_whoIsAt_19 : decode cX6_whoIsAt 19 = .ok (.iadd, 1) := by decide +kernel
theorem dX6_whoIsAt_20 : decode cX6_whoIsAt 20 = .ok (.iaload, 1) := by decide +kernel
theorem dX6_whoIsAt_21 : decode cX6_whoIsAt 21 = .ok (.iload_n 1, 1) := by decide +kernel
theorem dX6_whoIsAt_22 : decode cX6_whoIsAt 22 = .ok (.if_icmp .ne 7, 3) := by decide +kernel
theorem dX6_whoIsAt_25 : decode cX6_whoIsAt 25 = .ok (.iload_n 3, 1) := by decide +kernel
theorem dX6_whoIsAt_26 : decode cX6_whoIsAt 26 = .ok (.goto 4, 3) := by decide +kernel
theorem dX6_whoIsAt_29 : decode cX6_whoIsAt 29 = .ok (.iload_n 2, 1) := by decide +kernel
theorem dX6_whoIsAt_30 : decode cX6_whoIsAt 30 = .ok (.istore_n 2, 1) := by decide +kernel
theorem dX6_whoIsAt_31 : decode cX6_whoIsAt 31 = .ok (.iinc 3 1, 3) := by decide +kernel
theorem dX6_whoIsAt_34 : decode cX6_whoIsAt 34 = .ok (.goto (-30), 3) := by decide +kernel
theorem dX6_whoIsAt_37 : decode cX6_whoIsAt 37 = .ok (.iload_n 2, 1) := by decide +kernel
theorem dX6_whoIsAt_38 : decode cX6_whoIsAt 38 = .ok (.ireturn, 1) := by decide +kernel
set_option maxRecDepth 20000 in
theorem ggX6_drawnAt_X6_whoIsAt : GoodIn wsX6_drawnAt wsX6_whoIsAt := goodIn_r _ [6, 7, 1, 24, 25, 26, 27, 28, 29, 30, 31, 32, 33, 34, 35, 36, 37, 38, 39, 40, 41, 42, 43, 44, 45, 46, 47, 48, 49, 50, 51, 52, 53, 54, 55, 56] (by decide +kernel) (by decide +kernel)
set_option maxRecDepth 20000 in
theorem gX6_drawnAt_X6_whoIsAt : GoodIn wsX6_drawnAt (wsV RX6 169 RX6 yX6_whoIsAt wsX6_whoIsAt) := goodIn_app (goodIn_of _ (by decide +kernel)) ggX6_drawnAt_X6_whoIsAt
set_option maxRecDepth 20000 in
theorem ggX6_drawnAt_X6_has : GoodIn wsX6_drawnAt wsX6_has := goodIn_r _ [10] (by decide +kernel) (by decide +kernel)
set_option maxRecDepth 20000 in
theorem gX6_drawnAt_X6_has : GoodIn wsX6_drawnAt (va_wsS RX6 160 yX6_has wsX6_has) := goodIn_app (goodIn_of _ (by decide +kernel)) ggX6_drawnAt_X6_has
set_option maxRecDepth 20000 in
theorem ggX6_drawnAt_X6_drawnBy : GoodIn wsX6_drawnAt wsX6_drawnBy := goodIn_r _ [14, 15, 1, 16, 17, 18, 5, 19, 20, 8, 9, 10, 21, 22, 23, 24, 25, 26, 27, 28, 29, 30, 31, 32, 33, 34, 35, 36, 37, 38, 39, 40, 41, 42, 43, 44, 45, 46, 47, 48, 49, 50, 51, 52, 53, 54, 55, 56] (by decide +kernel) (by decide +kernel)
set_option maxRecDepth 20000 in
theorem gX6_drawnAt_X6_drawnBy : GoodIn wsX6_drawnAt (wsV RX6 172 RX6 yX6_drawnBy wsX6_drawnBy) := goodIn_app (goodIn_of _ (by decide +kernel)) ggX6_drawnAt_X6_drawnBy
theorem dX6_drawnAt_0 : decode cX6_drawnAt 0 = .ok (.aload_n 0, 1) := by decide +kernel
theorem dX6_drawnAt_1 : decode cX6_drawnAt 1 = .ok (.iload_n 1, 1) := by decide +kernel
theorem dX6_drawnAt_2 : decode cX6_drawnAt 2 = .ok (.invokevirtual 169, 3) := by decide +kernel
theorem dX6_drawnAt_5 : decode cX6_drawnAt 5 = .ok (.istore_n 2, 1) := by decide +kernel
theorem dX6_drawnAt_6 : decode cX6_drawnAt 6 = .ok (.iload_n 2, 1) := by decide +kernel
theorem dX6_drawnAt_7 : decode cX6_drawnAt 7 = .ok (.iconst (-1), 1) := by decide +kernel
theorem dX6_drawnAt_8 : decode cX6_drawnAt 8 = .ok (.if_icmp .eq 26, 3) := by decide +kernel
theorem dX6_drawnAt_11 : decode cX6_drawnAt 11 = .ok (.aload_n 0, 1) := by decide +kernel
theorem dX6_drawnAt_12 : decode cX6_drawnAt 12 = .ok (.getfield 19, 3) := by decide +kernel
theorem dX6_drawnAt_15 : decode cX6_drawnAt 15 = .ok (.iconst 4, 1) := by decide +kernel
theorem dX6_drawnAt_16 : decode cX6_drawnAt 16 = .ok (.iaload, 1) := by decide +kernel
theorem dX6_drawnAt_17 : decode cX6_drawnAt 17 = .ok (.iconst 1, 1) := by decide +kernel
theorem dX6_drawnAt_18 : decode cX6_drawnAt 18 = .ok (.if_icmp .eq 16, 3) := by decide +kernel
theorem dX6_drawnAt_21 : decode cX6_drawnAt 21 = .ok (.aload_n 0, 1) := by decide +kernel
theorem dX6_drawnAt_22 : decode cX6_drawnAt 22 = .ok (.getfield 19, 3) := by decide +kernel
theorem dX6_drawnAt_25 : decode cX6_drawnAt 25 = .ok (.iconst 5, 1) := by decide +kernel
theorem dX6_drawnAt_26 : decode cX6_drawnAt 26 = .ok (.iaload, 1) := by decide +kernel
theorem dX6_drawnAt_27 : decode cX6_drawnAt 27 = .ok (.iload_n 1, 1) := by decide +kernel
theorem dX6_drawnAt_28 : decode cX6_drawnAt 28 = .ok (.invokestatic 160, 3) := by decide +kernel
theorem dX6_drawnAt_31 : decode cX6_drawnAt 31 = .ok (.ifCond .eq 7, 3) := by decide +kernel
theorem dX6_drawnAt_34 : decode cX6_drawnAt 34 = .ok (.iconst 0, 1) := by decide +kernel
theorem dX6_drawnAt_35 : decode cX6_drawnAt 35 = .ok (.goto 24, 3) := by decide +kernel
theorem dX6_drawnAt_38 : decode cX6_drawnAt 38 = .ok (.aload_n 0, 1) := by decide +kernel
theorem dX6_drawnAt_39 : decode cX6_drawnAt 39 = .ok (.iload_n 2, 1) := by decide +kernel
theorem dX6_drawnAt_40 : decode cX6_drawnAt 40 = .ok (.aload_n 0, 1) := by decide +kernel
theorem dX6_drawnAt_41 : decode cX6_drawnAt 41 = .ok (.getfield 19, 3) := by decide +kernel
theorem dX6_drawnAt_44 : decode cX6_drawnAt 44 = .ok (.bipush 12, 2) := by decide +kernel
theorem dX6_drawnAt_46 : decode cX6_drawnAt 46 = .ok (.iload_n 1, 1) := by decide +kernel
theorem dX6_drawnAt_47 : decode cX6_drawnAt 47 = .ok (.iadd, 1) := by decide +kernel
theorem dX6_drawnAt_48 : decode cX6_drawnAt 48 = .ok (.iaload, 1) := by decide +kernel
theorem dX6_drawnAt_49 : decode cX6_drawnAt 49 = .ok (.aload_n 0, 1) := by decide +kernel
theorem dX6_drawnAt_50 : decode cX6_drawnAt 50 = .ok (.getfield 19, 3) := by decide +kernel
theorem dX6_drawnAt_53 : decode cX6_drawnAt 53 = .ok (.iconst 1, 1) := by decide +kernel
theorem dX6_drawnAt_54 : decode cX6_drawnAt 54 = .ok (.iaload, 1) := by decide +kernel
theorem dX6_drawnAt_55 : decode cX6_drawnAt 55 = .ok (.iadd, 1) := by decide +kernel
theorem dX6_drawnAt_56 : decode cX6_drawnAt 56 = .ok (.invokevirtual 172, 3) := by decide +kernel
theorem dX6_drawnAt_59 : decode cX6_drawnAt 59 = .ok (.ireturn, 1) := by decide +kernel
set_option maxRecDepth 20000 in
theorem ggX6_cloud_X6_drawnAt : GoodIn wsX6_cloud wsX6_drawnAt := goodIn_r _ [6, 7, 8, 9, 10, 5, 11, 12, 13, 14, 15, 16, 17, 18, 19, 20, 21, 22, 23, 24, 25, 26, 27, 28, 29, 30, 31, 32, 33, 34, 35, 36, 37, 38, 39, 40, 41, 42, 43, 44, 45, 46, 47, 48, 49, 50, 51, 52, 53, 54, 55, 56, 57, 58, 59, 60, 61] (by decide +kernel) (by decide +kernel)
set_option maxRecDepth 20000 in
theorem gX6_cloud_X6_drawnAt : GoodIn wsX6_cloud (wsV RX6 175 RX6 yX6_drawnAt wsX6_drawnAt) := goodIn_app (goodIn_of _ (by decide +kernel)) ggX6_cloud_X6_drawnAt
theorem dX6_cloud_0 : decode cX6_cloud 0 = .ok (.iconst 0, 1) := by decide +kernel
theorem dX6_cloud_1 : decode cX6_cloud 1 = .ok (.istore_n 1, 1) := by decide +kernel
theorem dX6_cloud_2 : decode cX6_cloud 2 = .ok (.iconst 0, 1) := by decide +kernel
theorem dX6_cloud_3 : decode cX6_cloud 3 = .ok (.istore_n 2, 1) := by decide +kernel
theorem dX6_cloud_4 : decode cX6_cloud 4 = .ok (.iload_n 2, 1) := by decide +kernel
theorem dX6_cloud_5 : decode cX6_cloud 5 = .ok (.aload_n 0, 1) := by decide +kernel
theorem dX6_cloud_6 : decode cX6_cloud 6 = .ok (.getfield 79, 3) := by decide +kernel
theorem dX6_cloud_9 : decode cX6_cloud 9 = .ok (.if_icmp .ge 17, 3) := by decide +kernel
theorem dX6_cloud_12 : decode cX6_cloud 12 = .ok (.iload_n 1, 1) := by decide +kernel
theorem dX6_cloud_13 : decode cX6_cloud 13 = .ok (.aload_n 0, 1) := by decide +kernel
theorem dX6_cloud_14 : decode cX6_cloud 14 = .ok (.iload_n 2, 1) := by decide +kernel
theorem dX6_cloud_15 : decode cX6_cloud 15 = .ok (.invokevirtual 175, 3) := by decide +kernel
theorem dX6_cloud_18 : decode cX6_cloud 18 = .ok (.ior, 1) := by decide +kernel
theorem dX6_cloud_19 : decode cX6_cloud 19 = .ok (.istore_n 1, 1) := by decide +kernel
theorem dX6_cloud_20 : decode cX6_cloud 20 = .ok (.iinc 2 1, 3) := by decide +kernel
theorem dX6_cloud_23 : decode cX6_cloud 23 = .ok (.goto (-19), 3) := by decide +kernel
theorem dX6_cloud_26 : decode cX6_cloud 26 = .ok (.iload_n 1, 1) := by decide +kernel
theorem dX6_cloud_27 : decode cX6_cloud 27 = .ok (.ireturn, 1) := by decide +kernel
set_option maxRecDepth 20000 in
theorem ggX6_likeBy_X6_ones : GoodIn wsX6_likeBy wsX6_ones := goodIn_r _ [5] (by decide +kernel) (by decide +kernel)
set_option maxRecDepth 20000 in
theorem gX6_likeBy_X6_ones : GoodIn wsX6_likeBy (va_wsS RX6 178 yX6_ones wsX6_ones) := goodIn_app (goodIn_of _ (by decide +kernel)) ggX6_likeBy_X6_ones
theorem dX6_likeBy_0 : decode cX6_likeBy 0 = .ok (.bipush 30, 2) := by decide +kernel
theorem dX6_likeBy_2 : decode cX6_likeBy 2 = .ok (.aload_n 0, 1) := by decide +kernel
theorem dX6_likeBy_3 : decode cX6_likeBy 3 = .ok (.getfield 7, 3) := by decide +kernel
theorem dX6_likeBy_6 : decode cX6_likeBy 6 = .ok (.iload_n 1, 1) := by decide +kernel
theorem dX6_likeBy_7 : decode cX6_likeBy 7 = .ok (.iaload, 1) := by decide +kernel
theorem dX6_likeBy_8 : decode cX6_likeBy 8 = .ok (.iload_n 2, 1) := by decide +kernel
theorem dX6_likeBy_9 : decode cX6_likeBy 9 = .ok (.ixor, 1) := by decide +kernel
theorem dX6_likeBy_10 : decode cX6_likeBy 10 = .ok (.invokestatic 178, 3) := by decide +kernel
theorem dX6_likeBy_13 : decode cX6_likeBy 13 = .ok (.isub, 1) := by decide +kernel
theorem dX6_likeBy_14 : decode cX6_likeBy 14 = .ok (.ireturn, 1) := by decide +kernel
set_option maxRecDepth 20000 in
theorem ggX6_mostLike_X6_ones : GoodIn wsX6_mostLike wsX6_ones := goodIn_r _ [6] (by decide +kernel) (by decide +kernel)
set_option maxRecDepth 20000 in
theorem gX6_mostLike_X6_ones : GoodIn wsX6_mostLike (va_wsS RX6 178 yX6_ones wsX6_ones) := goodIn_app (goodIn_of _ (by decide +kernel)) ggX6_mostLike_X6_ones
theorem dX6_mostLike_0 : decode cX6_mostLike 0 = .ok (.iconst (-1), 1) := by decide +kernel
theorem dX6_mostLike_1 : decode cX6_mostLike 1 = .ok (.istore_n 3, 1) := by decide +kernel
theorem dX6_mostLike_2 : decode cX6_mostLike 2 = .ok (.iconst (-1), 1) := by decide +kernel
theorem dX6_mostLike_3 : decode cX6_mostLike 3 = .ok (.istore 4, 2) := by decide +kernel
theorem dX6_mostLike_5 : decode cX6_mostLike 5 = .ok (.iconst 0, 1) := by decide +kernel
theorem dX6_mostLike_6 : decode cX6_mostLike 6 = .ok (.istore 5, 2) := by decide +kernel
theorem dX6_mostLike_8 : decode cX6_mostLike 8 = .ok (.iload 5, 2) := by decide +kernel
theorem dX6_mostLike_10 : decode cX6_mostLike 10 = .ok (.aload_n 0, 1) := by decide +kernel
theorem dX6_mostLike_11 : decode cX6_mostLike 11 = .ok (.getfield 72, 3) := by decide +kernel
theorem dX6_mostLike_14 : decode cX6_mostLike 14 = .ok (.if_icmp .ge 58, 3) := by decide +kernel
theorem dX6_mostLike_17 : decode cX6_mostLike 17 = .ok (.bipush 30, 2) := by decide +kernel
theorem dX6_mostLike_19 : decode cX6_mostLike 19 = .ok (.aload_n 0, 1) := by decide +kernel
theorem dX6_mostLike_20 : decode cX6_mostLike 20 = .ok (.getfield 7, 3) := by decide +kernel
theorem dX6_mostLike_23 : decode cX6_mostLike 23 = .ok (.iload 5, 2) := by decide +kernel
theorem dX6_mostLike_25 : decode cX6_mostLike 25 = .ok (.iaload, 1) := by decide +kernel
theorem dX6_mostLike_26 : decode cX6_mostLike 26 = .ok (.iload_n 1, 1) := by decide +kernel
theorem dX6_mostLike_27 : decode cX6_mostLike 27 = .ok (.ixor, 1) := by decide +kernel
theorem dX6_mostLike_28 : decode cX6_mostLike 28 = .ok (.iload_n 2, 1) := by decide +kernel
theorem dX6_mostLike_29 : decode cX6_mostLike 29 = .ok (.iand, 1) := by decide +kernel
theorem dX6_mostLike_30 : decode cX6_mostLike 30 = .ok (.invokestatic 178, 3) := by decide +kernel
theorem dX6_mostLike_33 : decode cX6_mostLike 33 = .ok (.isub, 1) := by decide +kernel
theorem dX6_mostLike_34 : decode cX6_mostLike 34 = .ok (.istore 6, 2) := by decide +kernel
theorem dX6_mostLike_36 : decode cX6_mostLike 36 = .ok (.iload 6, 2) := by decide +kernel
theorem dX6_mostLike_38 : decode cX6_mostLike 38 = .ok (.iload 4, 2) := by decide +kernel
theorem dX6_mostLike_40 : decode cX6_mostLike 40 = .ok (.if_icmp .le 8, 3) := by decide +kernel
theorem dX6_mostLike_43 : decode cX6_mostLike 43 = .ok (.iload 5, 2) := by decide +kernel
theorem dX6_mostLike_45 : decode cX6_mostLike 45 = .ok (.goto 4, 3) := by decide +kernel
theorem dX6_mostLike_48 : decode cX6_mostLike 48 = .ok (.iload_n 3, 1) := by decide +kernel
theorem dX6_mostLike_49 : decode cX6_mostLike 49 = .ok (.istore_n 3, 1) := by decide +kernel
theorem dX6_mostLike_50 : decode cX6_mostLike 50 = .ok (.iload 6, 2) := by decide +kernel
theorem dX6_mostLike_52 : decode cX6_mostLike 52 = .ok (.iload 4, 2) := by decide +kernel
theorem dX6_mostLike_54 : decode cX6_mostLike 54 = .ok (.if_icmp .le 8, 3) := by decide +kernel
theorem dX6_mostLike_57 : decode cX6_mostLike 57 = .ok (.iload 6, 2) := by decide +kernel
theorem dX6_mostLike_59 : decode cX6_mostLike 59 = .ok (.goto 5, 3) := by decide +kernel
theorem dX6_mostLike_62 : decode cX6_mostLike 62 = .ok (.iload 4, 2) := by decide +kernel
theorem dX6_mostLike_64 : decode cX6_mostLike 64 = .ok (.istore 4, 2) := by decide +kernel
theorem dX6_mostLike_66 : decode cX6_mostLike 66 = .ok (.iinc 5 1, 3) := by decide +kernel
theorem dX6_mostLike_69 : decode cX6_mostLike 69 = .ok (.goto (-61), 3) := by decide +kernel
theorem dX6_mostLike_72 : decode cX6_mostLike 72 = .ok (.iload_n 3, 1) := by decide +kernel
theorem dX6_mostLike_73 : decode cX6_mostLike 73 = .ok (.ireturn, 1) := by decide +kernel
theorem dX6_often_0 : decode cX6_often 0 = .ok (.iconst 0, 1) := by decide +kernel
theorem dX6_often_1 : decode cX6_often 1 = .ok (.istore_n 2, 1) := by decide +kernel
theorem dX6_often_2 : decode cX6_often 2 = .ok (.iconst 0, 1) := by decide +kernel
theorem dX6_often_3 : decode cX6_often 3 = .ok (.istore_n 3, 1) := by decide +kernel
theorem dX6_often_4 : decode cX6_often 4 = .ok (.iload_n 3, 1) := by decide +kernel
theorem dX6_often_5 : decode cX6_often 5 = .ok (.aload_n 0, 1) := by decide +kernel
theorem dX6_often_6 : decode cX6_often 6 = .ok (.getfield 19, 3) := by decide +kernel
theorem dX6_often_9 : decode cX6_often 9 = .ok (.bipush 21, 2) := by decide +kernel
theorem dX6_often_11 : decode cX6_often 11 = .ok (.iaload, 1) := by decide +kernel
theorem dX6_often_12 : decode cX6_often 12 = .ok (.if_icmp .ge 34, 3) := by decide +kernel
theorem dX6_often_15 : decode cX6_often 15 = .ok (.iload_n 2, 1) := by decide +kernel
theorem dX6_often_16 : decode cX6_often 16 = .ok (.aload_n 0, 1) := by decide +kernel
theorem dX6_often_17 : decode cX6_often 17 = .ok (.getfield 19, 3) := by decide +kernel
theorem dX6_often_20 : decode cX6_often 20 = .ok (.bipush 22, 2) := by decide +kernel
theorem dX6_often_22 : decode cX6_often 22 = .ok (.iconst 3, 1) := by decide +kernel
theorem dX6_often_23 : decode cX6_often 23 = .ok (.iload_n 3, 1) := by decide +kernel
theorem dX6_often_24 : decode cX6_often 24 = .ok (.imul, 1) := by decide +kernel
theorem dX6_often_25 : decode cX6_often 25 = .ok (.iadd, 1) := by decide +kernel
theorem dX6_often_26 : decode cX6_often 26 = .ok (.iconst 1, 1) := by decide +kernel
theorem dX6_often_27 : decode cX6_often 27 = .ok (.iadd, 1) := by decide +kernel
theorem dX6_often_28 : decode cX6_often 28 = .ok (.iaload, 1) := by decide +kernel
theorem dX6_often_29 : decode cX6_often 29 = .ok (.iload_n 1, 1) := by decide +kernel
theorem dX6_often_30 : decode cX6_often 30 = .ok (.if_icmp .ne 7, 3) := by decide +kernel
theorem dX6_often_33 : decode cX6_often 33 = .ok (.iconst 1, 1) := by decide +kernel
theorem dX6_often_34 : decode cX6_often 34 = .ok (.goto 4, 3) := by decide +kernel
theorem dX6_often_37 : decode cX6_often 37 = .ok (.iconst 0, 1) := by decide +kernel
theorem dX6_often_38 : decode cX6_often 38 = .ok (.iadd, 1) := by decide +kernel
theorem dX6_often_39 : decode cX6_often 39 = .ok (.istore_n 2, 1) := by decide +kernel
theorem dX6_often_40 : decode cX6_often 40 = .ok (.iinc 3 1, 3) := by decide +kernel
theorem dX6_often_43 : decode cX6_often 43 = .ok (.goto (-39), 3) := by decide +kernel
theorem dX6_often_46 : decode cX6_often 46 = .ok (.iload_n 2, 1) := by decide +kernel
theorem dX6_often_47 : decode cX6_often 47 = .ok (.ireturn, 1) := by decide +kernel
set_option maxRecDepth 20000 in
theorem ggX6_told_X6_cloud : GoodIn wsX6_told wsX6_cloud := goodIn_r _ [14, 3, 15, 16, 17, 13, 18, 6, 19, 20, 21, 22, 2, 23, 24, 25, 26, 27, 28, 29, 30, 1, 31, 32, 33, 34, 35, 36, 37, 48, 49, 50, 51, 52, 53, 54, 55, 56, 57, 58, 59, 60, 61, 62, 63, 64, 65, 66, 67, 68, 69, 70, 71, 72, 73, 74, 75, 76, 77, 78, 79, 80] (by decide +kernel) (by decide +kernel)
set_option maxRecDepth 20000 in
theorem gX6_told_X6_cloud : GoodIn wsX6_told (wsV RX6 181 RX6 yX6_cloud wsX6_cloud) := goodIn_app (goodIn_of _ (by decide +kernel)) ggX6_told_X6_cloud
set_option maxRecDepth 20000 in
theorem ggX6_told_X6_mayBe : GoodIn wsX6_told wsX6_mayBe := goodIn_r _ [41, 2, 30, 31, 32, 13, 33, 34, 23, 24, 25, 35, 36, 37, 42, 43, 44, 45, 7, 46, 47, 48, 49, 50, 51, 52, 53, 54, 55, 56, 57, 58, 59, 60, 61, 62, 63, 64, 65, 66, 67, 68, 69, 70, 71, 72, 73, 74, 75, 76, 77, 78, 79, 80] (by decide +kernel) (by decide +kernel)
set_option maxRecDepth 20000 in
theorem gX6_told_X6_mayBe : GoodIn wsX6_told (wsV RX6 184 RX6 yX6_mayBe wsX6_mayBe) := goodIn_app (goodIn_of _ (by decide +kernel)) ggX6_told_X6_mayBe
theorem dX6_told_0 : decode cX6_told 0 = .ok (.iload_n 1, 1) := by decide +kernel
theorem dX6_told_1 : decode cX6_told 1 = .ok (.tableswitch 176 0 15 #[79, 84, 89, 94, 99, 104, 111, 120, 127, 134, 141, 148, 153, 161, 166, 171], 79) := by decide +kernel
theorem dX6_told_80 : decode cX6_told 80 = .ok (.aload_n 0, 1) := by decide +kernel
theorem dX6_told_81 : decode cX6_told 81 = .ok (.getfield 66, 3) := by decide +kernel
theorem dX6_told_84 : decode cX6_told 84 = .ok (.ireturn, 1) := by decide +kernel
theorem dX6_told_85 : decode cX6_told 85 = .ok (.aload_n 0, 1) := by decide +kernel
theorem dX6_told_86 : decode cX6_told 86 = .ok (.getfield 72, 3) := by decide +kernel
theorem dX6_told_89 : decode cX6_told 89 = .ok (.ireturn, 1) := by decide +kernel
theorem dX6_told_90 : decode cX6_told 90 = .ok (.aload_n 0, 1) := by decide +kernel
theorem dX6_told_91 : decode cX6_told 91 = .ok (.getfield 79, 3) := by decide +kernel
theorem dX6_told_94 : decode cX6_told 94 = .ok (.ireturn, 1) := by decide +kernel
theorem dX6_told_95 : decode cX6_told 95 = .ok (.aload_n 0, 1) := by decide +kernel
theorem dX6_told_96 : decode cX6_told 96 = .ok (.getfield 145, 3) := by decide +kernel
theorem dX6_told_99 : decode cX6_told 99 = .ok (.ireturn, 1) := by decide +kernel
theorem dX6_told_100 : decode cX6_told 100 = .ok (.aload_n 0, 1) := by decide +kernel
theorem dX6_told_101 : decode cX6_told 101 = .ok (.getfield 85, 3) := by decide +kernel
theorem dX6_told_104 : decode cX6_told 104 = .ok (.ireturn, 1) := by decide +kernel
theorem dX6_told_105 : decode cX6_told 105 = .ok (.aload_n 0, 1) := by decide +kernel
theorem dX6_told_106 : decode cX6_told 106 = .ok (.getfield 19, 3) := by decide +kernel
theorem dX6_told_109 : decode cX6_told 109 = .ok (.iconst 0, 1) := by decide +kernel
theorem dX6_told_110 : decode cX6_told 110 = .ok (.iaload, 1) := by decide +kernel
theorem dX6_told_111 : decode cX6_told 111 = .ok (.ireturn, 1) := by decide +kernel
theorem dX6_told_112 : decode cX6_told 112 = .ok (.aload_n 0, 1) := by decide +kernel
theorem dX6_told_113 : decode cX6_told 113 = .ok (.getfield 19, 3) := by decide +kernel
theorem dX6_told_116 : decode cX6_told 116 = .ok (.iconst 1, 1) := by decide +kernel
theorem dX6_told_117 : decode cX6_told 117 = .ok (.iaload, 1) := by decide +kernel
theorem dX6_told_118 : decode cX6_told 118 = .ok (.iconst 3, 1) := by decide +kernel
theorem dX6_told_119 : decode cX6_told 119 = .ok (.iadd, 1) := by decide +kernel
theorem dX6_told_120 : decode cX6_told 120 = .ok (.ireturn, 1) := by decide +kernel
theorem dX6_told_121 : decode cX6_told 121 = .ok (.aload_n 0, 1) := by decide +kernel
theorem dX6_told_122 : decode cX6_told 122 = .ok (.getfield 19, 3) := by decide +kernel
theorem dX6_told_125 : decode cX6_told 125 = .ok (.iconst 2, 1) := by decide +kernel
theorem dX6_told_126 : decode cX6_told 126 = .ok (.iaload, 1) := by decide +kernel
theorem dX6_told_127 : decode cX6_told 127 = .ok (.ireturn, 1) := by decide +kernel
theorem dX6_told_128 : decode cX6_told 128 = .ok (.aload_n 0, 1) := by decide +kernel
theorem dX6_told_129 : decode cX6_told 129 = .ok (.getfield 19, 3) := by decide +kernel
theorem dX6_told_132 : decode cX6_told 132 = .ok (.iconst 3, 1) := by decide +kernel
theorem dX6_told_133 : decode cX6_told 133 = .ok (.iaload, 1) := by decide +kernel
theorem dX6_told_134 : decode cX6_told 134 = .ok (.ireturn, 1) := by decide +kernel
theorem dX6_told_135 : decode cX6_told 135 = .ok (.aload_n 0, 1) := by decide +kernel
theorem dX6_told_136 : decode cX6_told 136 = .ok (.getfield 19, 3) := by decide +kernel
theorem dX6_told_139 : decode cX6_told 139 = .ok (.iconst 4, 1) := by decide +kernel
theorem dX6_told_140 : decode cX6_told 140 = .ok (.iaload, 1) := by decide +kernel
theorem dX6_told_141 : decode cX6_told 141 = .ok (.ireturn, 1) := by decide +kernel
theorem dX6_told_142 : decode cX6_told 142 = .ok (.aload_n 0, 1) := by decide +kernel
theorem dX6_told_143 : decode cX6_told 143 = .ok (.getfield 19, 3) := by decide +kernel
theorem dX6_told_146 : decode cX6_told 146 = .ok (.iconst 5, 1) := by decide +kernel
theorem dX6_told_147 : decode cX6_told 147 = .ok (.iaload, 1) := by decide +kernel
theorem dX6_told_148 : decode cX6_told 148 = .ok (.ireturn, 1) := by decide +kernel
theorem dX6_told_149 : decode cX6_told 149 = .ok (.aload_n 0, 1) := by decide +kernel
theorem dX6_told_150 : decode cX6_told 150 = .ok (.invokevirtual 181, 3) := by decide +kernel
theorem dX6_told_153 : decode cX6_told 153 = .ok (.ireturn, 1) := by decide +kernel
theorem dX6_told_154 : decode cX6_told 154 = .ok (.aload_n 0, 1) := by decide +kernel
theorem dX6_told_155 : decode cX6_told 155 = .ok (.getfield 19, 3) := by decide +kernel
theorem dX6_told_158 : decode cX6_told 158 = .ok (.bipush 21, 2) := by decide +kernel
theorem dX6_told_160 : decode cX6_told 160 = .ok (.iaload, 1) := by decide +kernel
theorem dX6_told_161 : decode cX6_told 161 = .ok (.ireturn, 1) := by decide +kernel
theorem dX6_told_162 : decode cX6_told 162 = .ok (.aload_n 0, 1) := by decide +kernel
theorem dX6_told_163 : decode cX6_told 163 = .ok (.getfield 154, 3) := by decide +kernel
theorem dX6_told_166 : decode cX6_told 166 = .ok (.ireturn, 1) := by decide +kernel
theorem dX6_told_167 : decode cX6_told 167 = .ok (.aload_n 0, 1) := by decide +kernel
theorem dX6_told_168 : decode cX6_told 168 = .ok (.invokevirtual 184, 3) := by decide +kernel
theorem dX6_told_171 : decode cX6_told 171 = .ok (.ireturn, 1) := by decide +kernel
theorem dX6_told_172 : decode cX6_told 172 = .ok (.aload_n 0, 1) := by decide +kernel
theorem dX6_told_173 : decode cX6_told 173 = .ok (.getfield 157, 3) := by decide +kernel
theorem dX6_told_176 : decode cX6_told 176 = .ok (.ireturn, 1) := by decide +kernel
theorem dX6_told_177 : decode cX6_told 177 = .ok (.ldc 84, 2) := by decide +kernel
theorem dX6_told_179 : decode cX6_told 179 = .ok (.ireturn, 1) := by decide +kernel
set_option maxRecDepth 20000 in
theorem ggX6_sitter_X6_isSitter : GoodIn wsX6_sitter wsX6_isSitter := goodIn_r _ [9, 10, 11, 12, 8, 13, 18, 19, 20, 21, 22, 23, 24, 25, 26, 27, 28, 29, 30, 31, 32, 33, 34, 35, 36, 37, 38, 39, 40, 41, 42, 43, 44, 45, 46, 47, 48, 49, 50] (by decide +kernel) (by decide +kernel)
set_option maxRecDepth 20000 in
theorem gX6_sitter_X6_isSitter : GoodIn wsX6_sitter (wsV RX6 187 RX6 yX6_isSitter wsX6_isSitter) := goodIn_app (goodIn_of _ (by decide +kernel)) ggX6_sitter_X6_isSitter
set_option maxRecDepth 20000 in
theorem ggX6_sitter_X6_often : GoodIn wsX6_sitter wsX6_often := goodIn_r _ [17, 3, 18, 19, 20, 21, 22, 23, 24, 25, 26, 27, 28, 29, 30, 31, 32, 33, 34, 35, 36, 37, 38, 39, 40, 41, 42, 43, 44, 45, 46, 47, 48, 49, 50] (by decide +kernel) (by decide +kernel)
set_option maxRecDepth 20000 in
theorem gX6_sitter_X6_often : GoodIn wsX6_sitter (wsV RX6 191 RX6 yX6_often wsX6_often) := goodIn_app (goodIn_of _ (by decide +kernel)) ggX6_sitter_X6_often
theorem dX6_sitter_0 : decode cX6_sitter 0 = .ok (.aload_n 0, 1) := by decide +kernel
theorem dX6_sitter_1 : decode cX6_sitter 1 = .ok (.iload_n 1, 1) := by decide +kernel
theorem dX6_sitter_2 : decode cX6_sitter 2 = .ok (.invokevirtual 187, 3) := by decide +kernel
theorem dX6_sitter_5 : decode cX6_sitter 5 = .ok (.ifCond .ne 6, 3) := by decide +kernel
theorem dX6_sitter_8 : decode cX6_sitter 8 = .ok (.ldc 190, 2) := by decide +kernel
theorem dX6_sitter_10 : decode cX6_sitter 10 = .ok (.ireturn, 1) := by decide +kernel
theorem dX6_sitter_11 : decode cX6_sitter 11 = .ok (.iload_n 2, 1) := by decide +kernel
theorem dX6_sitter_12 : decode cX6_sitter 12 = .ok (.ifCond .ne 12, 3) := by decide +kernel
theorem dX6_sitter_15 : decode cX6_sitter 15 = .ok (.aload_n 0, 1) := by decide +kernel
theorem dX6_sitter_16 : decode cX6_sitter 16 = .ok (.getfield 7, 3) := by decide +kernel
theorem dX6_sitter_19 : decode cX6_sitter 19 = .ok (.iload_n 1, 1) := by decide +kernel
theorem dX6_sitter_20 : decode cX6_sitter 20 = .ok (.iaload, 1) := by decide +kernel
theorem dX6_sitter_21 : decode cX6_sitter 21 = .ok (.goto 35, 3) := by decide +kernel
theorem dX6_sitter_24 : decode cX6_sitter 24 = .ok (.iload_n 2, 1) := by decide +kernel
theorem dX6_sitter_25 : decode cX6_sitter 25 = .ok (.iconst 1, 1) := by decide +kernel
theorem dX6_sitter_26 : decode cX6_sitter 26 = .ok (.if_icmp .ne 15, 3) := by decide +kernel
theorem dX6_sitter_29 : decode cX6_sitter 29 = .ok (.aload_n 0, 1) := by decide +kernel
theorem dX6_sitter_30 : decode cX6_sitter 30 = .ok (.getfield 19, 3) := by decide +kernel
theorem dX6_sitter_33 : decode cX6_sitter 33 = .ok (.bipush 6, 2) := by decide +kernel
theorem dX6_sitter_35 : decode cX6_sitter 35 = .ok (.iload_n 1, 1) := by decide +kernel
theorem dX6_sitter_36 : decode cX6_sitter 36 = .ok (.iadd, 1) := by decide +kernel
theorem dX6_sitter_37 : decode cX6_sitter 37 = .ok (.iaload, 1) := by decide +kernel
theorem dX6_sitter_38 : decode cX6_sitter 38 = .ok (.goto 18, 3) := by decide +kernel
theorem dX6_sitter_41 : decode cX6_sitter 41 = .ok (.iload_n 2, 1) := by decide +kernel
theorem dX6_sitter_42 : decode cX6_sitter 42 = .ok (.iconst 2, 1) := by decide +kernel
theorem dX6_sitter_43 : decode cX6_sitter 43 = .ok (.if_icmp .ne 11, 3) := by decide +kernel
theorem dX6_sitter_46 : decode cX6_sitter 46 = .ok (.aload_n 0, 1) := by decide +kernel
theorem dX6_sitter_47 : decode cX6_sitter 47 = .ok (.iload_n 1, 1) := by decide +kernel
theorem dX6_sitter_48 : decode cX6_sitter 48 = .ok (.invokevirtual 191, 3) := by decide +kernel
theorem dX6_sitter_51 : decode cX6_sitter 51 = .ok (.goto 5, 3) := by decide +kernel
theorem dX6_sitter_54 : decode cX6_sitter 54 = .ok (.ldc 84, 2) := by decide +kernel
theorem dX6_sitter_56 : decode cX6_sitter 56 = .ok (.ireturn, 1) := by decide +kernel
set_option maxRecDepth 20000 in
theorem ggX6_window_X6_isWindow : GoodIn wsX6_window wsX6_isWindow := goodIn_r _ [9, 10, 11, 12, 8, 13, 43, 44, 45, 46, 47, 48, 49, 50, 51, 52, 53, 54, 55, 56, 57, 58, 59, 60, 61, 62, 63, 64, 65, 66, 67, 68, 69, 70, 71, 72, 73, 74, 75] (by decide +kernel) (by decide +kernel)
set_option maxRecDepth 20000 in
theorem gX6_window_X6_isWindow : GoodIn wsX6_window (wsV RX6 194 RX6 yX6_isWindow wsX6_isWindow) := goodIn_app (goodIn_of _ (by decide +kernel)) ggX6_window_X6_isWindow
set_option maxRecDepth 20000 in
theorem ggX6_window_X6_whoIsAt : GoodIn wsX6_window wsX6_whoIsAt := goodIn_r _ [17, 18, 2, 43, 44, 45, 46, 47, 48, 49, 50, 51, 52, 53, 54, 55, 56, 57, 58, 59, 60, 61, 62, 63, 64, 65, 66, 67, 68, 69, 70, 71, 72, 73, 74, 75] (by decide +kernel) (by decide +kernel)
set_option maxRecDepth 20000 in
theorem gX6_window_X6_whoIsAt : GoodIn wsX6_window (wsV RX6 169 RX6 yX6_whoIsAt wsX6_whoIsAt) := goodIn_app (goodIn_of _ (by decide +kernel)) ggX6_window_X6_whoIsAt
set_option maxRecDepth 20000 in
theorem ggX6_window_X6_drawnAt : GoodIn wsX6_window wsX6_drawnAt := goodIn_r _ [22, 2, 14, 15, 16, 8, 17, 18, 23, 24, 25, 26, 27, 28, 29, 30, 31, 32, 33, 34, 35, 11, 12, 13, 43, 44, 45, 46, 47, 48, 49, 50, 51, 52, 53, 54, 55, 56, 57, 58, 59, 60, 61, 62, 63, 64, 65, 66, 67, 68, 69, 70, 71, 72, 73, 74, 75] (by decide +kernel) (by decide +kernel)
set_option maxRecDepth 20000 in
theorem gX6_window_X6_drawnAt : GoodIn wsX6_window (wsV RX6 175 RX6 yX6_drawnAt wsX6_drawnAt) := goodIn_app (goodIn_of _ (by decide +kernel)) ggX6_window_X6_drawnAt
set_option maxRecDepth 20000 in
theorem ggX6_window_X6_mostLike : GoodIn wsX6_window wsX6_mostLike := goodIn_r _ [39, 18, 30, 40, 41, 8, 42, 43, 44, 45, 46, 47, 48, 49, 50, 51, 52, 53, 54, 55, 56, 57, 58, 59, 60, 61, 62, 63, 64, 65, 66, 67, 68, 69, 70, 71, 72, 73, 74, 75] (by decide +kernel) (by decide +kernel)
set_option maxRecDepth 20000 in
theorem gX6_window_X6_mostLike : GoodIn wsX6_window (wsV RX6 198 RX6 yX6_mostLike wsX6_mostLike) := goodIn_app (goodIn_of _ (by decide +kernel)) ggX6_window_X6_mostLike
theorem dX6_window_0 : decode cX6_window 0 = .ok (.aload_n 0, 1) := by decide +kernel
theorem dX6_window_1 : decode cX6_window 1 = .ok (.iload_n 1, 1) := by decide +kernel
theorem dX6_window_2 : decode cX6_window 2 = .ok (.invokevirtual 194, 3) := by decide +kernel
theorem dX6_window_5 : decode cX6_window 5 = .ok (.ifCond .ne 6, 3) := by decide +kernel
theorem dX6_window_8 : decode cX6_window 8 = .ok (.ldc 190, 2) := by decide +kernel
theorem dX6_window_10 : decode cX6_window 10 = .ok (.ireturn, 1) := by decide +kernel
theorem dX6_window_11 : decode cX6_window 11 = .ok (.iload_n 2, 1) := by decide +kernel
theorem dX6_window_12 : decode cX6_window 12 = .ok (.tableswitch 78 0 3 #[32, 42, 48, 54], 32) := by decide +kernel
theorem dX6_window_44 : decode cX6_window 44 = .ok (.aload_n 0, 1) := by decide +kernel
theorem dX6_window_45 : decode cX6_window 45 = .ok (.getfield 19, 3) := by decide +kernel
theorem dX6_window_48 : decode cX6_window 48 = .ok (.bipush 12, 2) := by decide +kernel
theorem dX6_window_50 : decode cX6_window 50 = .ok (.iload_n 1, 1) := by decide +kernel
theorem dX6_window_51 : decode cX6_window 51 = .ok (.iadd, 1) := by decide +kernel
theorem dX6_window_52 : decode cX6_window 52 = .ok (.iaload, 1) := by decide +kernel
theorem dX6_window_53 : decode cX6_window 53 = .ok (.ireturn, 1) := by decide +kernel
theorem dX6_window_54 : decode cX6_window 54 = .ok (.aload_n 0, 1) := by decide +kernel
theorem dX6_window_55 : decode cX6_window 55 = .ok (.iload_n 1, 1) := by decide +kernel
theorem dX6_window_56 : decode cX6_window 56 = .ok (.invokevirtual 169, 3) := by decide +kernel
theorem dX6_window_59 : decode cX6_window 59 = .ok (.ireturn, 1) := by decide +kernel
theorem dX6_window_60 : decode cX6_window 60 = .ok (.aload_n 0, 1) := by decide +kernel
theorem dX6_window_61 : decode cX6_window 61 = .ok (.iload_n 1, 1) := by decide +kernel
theorem dX6_window_62 : decode cX6_window 62 = .ok (.invokevirtual 175, 3) := by decide +kernel
theorem dX6_window_65 : decode cX6_window 65 = .ok (.ireturn, 1) := by decide +kernel
theorem dX6_window_66 : decode cX6_window 66 = .ok (.aload_n 0, 1) := by decide +kernel
theorem dX6_window_67 : decode cX6_window 67 = .ok (.iload_n 1, 1) := by decide +kernel
theorem dX6_window_68 : decode cX6_window 68 = .ok (.invokevirtual 175, 3) := by decide +kernel
theorem dX6_window_71 : decode cX6_window 71 = .ok (.ifCond .ne 7, 3) := by decide +kernel
theorem dX6_window_74 : decode cX6_window 74 = .ok (.iconst (-1), 1) := by decide +kernel
theorem dX6_window_75 : decode cX6_window 75 = .ok (.goto 14, 3) := by decide +kernel
theorem dX6_window_78 : decode cX6_window 78 = .ok (.aload_n 0, 1) := by decide +kernel
theorem dX6_window_79 : decode cX6_window 79 = .ok (.aload_n 0, 1) := by decide +kernel
theorem dX6_window_80 : decode cX6_window 80 = .ok (.iload_n 1, 1) := by decide +kernel
theorem dX6_window_81 : decode cX6_window 81 = .ok (.invokevirtual 175, 3) := by decide +kernel
theorem dX6_window_84 : decode cX6_window 84 = .ok (.ldc 197, 2) := by decide +kernel
theorem dX6_window_86 : decode cX6_window 86 = .ok (.invokevirtual 198, 3) := by decide +kernel
theorem dX6_window_89 : decode cX6_window 89 = .ok (.ireturn, 1) := by decide +kernel
theorem dX6_window_90 : decode cX6_window 90 = .ok (.ldc 84, 2) := by decide +kernel
theorem dX6_window_92 : decode cX6_window 92 = .ok (.ireturn, 1) := by decide +kernel
set_option maxRecDepth 20000 in
theorem ggX6_album_X6_in : GoodIn wsX6_album wsX6_in := goodIn_r _ [7] (by decide +kernel) (by decide +kernel)
set_option maxRecDepth 20000 in
theorem gX6_album_X6_in : GoodIn wsX6_album (va_wsS RX6 75 yX6_in wsX6_in) := goodIn_app (goodIn_of _ (by decide +kernel)) ggX6_album_X6_in
theorem dX6_album_0 : decode cX6_album 0 = .ok (.iload_n 2, 1) := by decide +kernel
theorem dX6_album_1 : decode cX6_album 1 = .ok (.i2l, 1) := by decide +kernel
theorem dX6_album_2 : decode cX6_album 2 = .ok (.lconst 0, 1) := by decide +kernel
theorem dX6_album_3 : decode cX6_album 3 = .ok (.ldc2_w 201, 3) := by decide +kernel
theorem dX6_album_6 : decode cX6_album 6 = .ok (.invokestatic 75, 3) := by decide +kernel
theorem dX6_album_9 : decode cX6_album 9 = .ok (.ifCond .ne 6, 3) := by decide +kernel
theorem dX6_album_12 : decode cX6_album 12 = .ok (.ldc 84, 2) := by decide +kernel
theorem dX6_album_14 : decode cX6_album 14 = .ok (.ireturn, 1) := by decide +kernel
theorem dX6_album_15 : decode cX6_album 15 = .ok (.iload_n 1, 1) := by decide +kernel
theorem dX6_album_16 : decode cX6_album 16 = .ok (.i2l, 1) := by decide +kernel
theorem dX6_album_17 : decode cX6_album 17 = .ok (.lconst 0, 1) := by decide +kernel
theorem dX6_album_18 : decode cX6_album 18 = .ok (.aload_n 0, 1) := by decide +kernel
theorem dX6_album_19 : decode cX6_album 19 = .ok (.getfield 19, 3) := by decide +kernel
theorem dX6_album_22 : decode cX6_album 22 = .ok (.bipush 21, 2) := by decide +kernel
theorem dX6_album_24 : decode cX6_album 24 = .ok (.iaload, 1) := by decide +kernel
theorem dX6_album_25 : decode cX6_album 25 = .ok (.iconst 1, 1) := by decide +kernel
theorem dX6_album_26 : decode cX6_album 26 = .ok (.isub, 1) := by decide +kernel
theorem dX6_album_27 : decode cX6_album 27 = .ok (.i2l, 1) := by decide +kernel
theorem dX6_album_28 : decode cX6_album 28 = .ok (.invokestatic 75, 3) := by decide +kernel
theorem dX6_album_31 : decode cX6_album 31 = .ok (.ifCond .eq 29, 3) := by decide +kernel
theorem dX6_album_34 : decode cX6_album 34 = .ok (.aload_n 0, 1) := by decide +kernel
theorem dX6_album_35 : decode cX6_album 35 = .ok (.getfield 19, 3) := by decide +kernel
theorem dX6_album_38 : decode cX6_album 38 = .ok (.bipush 22, 2) := by decide +kernel
theorem dX6_album_40 : decode cX6_album 40 = .ok (.iconst 3, 1) := by decide +kernel
theorem dX6_album_41 : decode cX6_album 41 = .ok (.aload_n 0, 1) := by decide +kernel
theorem dX6_album_42 : decode cX6_album 42 = .ok (.getfield 19, 3) := by decide +kernel
theorem dX6_album_45 : decode cX6_album 45 = .ok (.bipush 21, 2) := by decide +kernel
theorem dX6_album_47 : decode cX6_album 47 = .ok (.iaload, 1) := by decide +kernel
theorem dX6_album_48 : decode cX6_album 48 = .ok (.iconst 1, 1) := by decide +kernel
theorem dX6_album_49 : decode cX6_album 49 = .ok (.isub, 1) := by decide +kernel
theorem dX6_album_50 : decode cX6_album 50 = .ok (.iload_n 1, 1) := by decide +kernel
theorem dX6_album_51 : decode cX6_album 51 = .ok (.isub, 1) := by decide +kernel
theorem dX6_album_52 : decode cX6_album 52 = .ok (.imul, 1) := by decide +kernel
theorem dX6_album_53 : decode cX6_album 53 = .ok (.iadd, 1) := by decide +kernel
theorem dX6_album_54 : decode cX6_album 54 = .ok (.iload_n 2, 1) := by decide +kernel
theorem dX6_album_55 : decode cX6_album 55 = .ok (.iadd, 1) := by decide +kernel
theorem dX6_album_56 : decode cX6_album 56 = .ok (.iaload, 1) := by decide +kernel
theorem dX6_album_57 : decode cX6_album 57 = .ok (.goto 4, 3) := by decide +kernel
theorem dX6_album_60 : decode cX6_album 60 = .ok (.iconst (-1), 1) := by decide +kernel
theorem dX6_album_61 : decode cX6_album 61 = .ok (.ireturn, 1) := by decide +kernel
set_option maxRecDepth 20000 in
theorem ggX6_glass_X6_in : GoodIn wsX6_glass wsX6_in := goodIn_r _ [7] (by decide +kernel) (by decide +kernel)
set_option maxRecDepth 20000 in
theorem gX6_glass_X6_in : GoodIn wsX6_glass (va_wsS RX6 75 yX6_in wsX6_in) := goodIn_app (goodIn_of _ (by decide +kernel)) ggX6_glass_X6_in
theorem dX6_glass_0 : decode cX6_glass 0 = .ok (.iload_n 1, 1) := by decide +kernel
theorem dX6_glass_1 : decode cX6_glass 1 = .ok (.i2l, 1) := by decide +kernel
theorem dX6_glass_2 : decode cX6_glass 2 = .ok (.lconst 0, 1) := by decide +kernel
theorem dX6_glass_3 : decode cX6_glass 3 = .ok (.ldc2_w 203, 3) := by decide +kernel
theorem dX6_glass_6 : decode cX6_glass 6 = .ok (.invokestatic 75, 3) := by decide +kernel
theorem dX6_glass_9 : decode cX6_glass 9 = .ok (.ifCond .eq 15, 3) := by decide +kernel
theorem dX6_glass_12 : decode cX6_glass 12 = .ok (.aload_n 0, 1) := by decide +kernel
theorem dX6_glass_13 : decode cX6_glass 13 = .ok (.getfield 19, 3) := by decide +kernel
theorem dX6_glass_16 : decode cX6_glass 16 = .ok (.bipush 17, 2) := by decide +kernel
theorem dX6_glass_18 : decode cX6_glass 18 = .ok (.iload_n 1, 1) := by decide +kernel
theorem dX6_glass_19 : decode cX6_glass 19 = .ok (.iadd, 1) := by decide +kernel
theorem dX6_glass_20 : decode cX6_glass 20 = .ok (.iaload, 1) := by decide +kernel
theorem dX6_glass_21 : decode cX6_glass 21 = .ok (.goto 5, 3) := by decide +kernel
theorem dX6_glass_24 : decode cX6_glass 24 = .ok (.ldc 190, 2) := by decide +kernel
theorem dX6_glass_26 : decode cX6_glass 26 = .ok (.ireturn, 1) := by decide +kernel
theorem dX6_remember_0 : decode cX6_remember 0 = .ok (.aload_n 0, 1) := by decide +kernel
theorem dX6_remember_1 : decode cX6_remember 1 = .ok (.getfield 157, 3) := by decide +kernel
theorem dX6_remember_4 : decode cX6_remember 4 = .ok (.bipush 16, 2) := by decide +kernel
theorem dX6_remember_6 : decode cX6_remember 6 = .ok (.if_icmp .ne 44, 3) := by decide +kernel
theorem dX6_remember_9 : decode cX6_remember 9 = .ok (.bipush 82, 2) := by decide +kernel
theorem dX6_remember_11 : decode cX6_remember 11 = .ok (.istore_n 1, 1) := by decide +kernel
theorem dX6_remember_12 : decode cX6_remember 12 = .ok (.iload_n 1, 1) := by decide +kernel
theorem dX6_remember_13 : decode cX6_remember 13 = .ok (.sipush 1312, 3) := by decide +kernel
theorem dX6_remember_16 : decode cX6_remember 16 = .ok (.if_icmp .ge 24, 3) := by decide +kernel
theorem dX6_remember_19 : decode cX6_remember 19 = .ok (.aload_n 0, 1) := by decide +kernel
theorem dX6_remember_20 : decode cX6_remember 20 = .ok (.getfield 38, 3) := by decide +kernel
theorem dX6_remember_23 : decode cX6_remember 23 = .ok (.iload_n 1, 1) := by decide +kernel
theorem dX6_remember_24 : decode cX6_remember 24 = .ok (.bipush 82, 2) := by decide +kernel
theorem dX6_remember_26 : decode cX6_remember 26 = .ok (.isub, 1) := by decide +kernel
theorem dX6_remember_27 : decode cX6_remember 27 = .ok (.aload_n 0, 1) := by decide +kernel
theorem dX6_remember_28 : decode cX6_remember 28 = .ok (.getfield 38, 3) := by decide +kernel
theorem dX6_remember_31 : decode cX6_remember 31 = .ok (.iload_n 1, 1) := by decide +kernel
theorem dX6_remember_32 : decode cX6_remember 32 = .ok (.iaload, 1) := by decide +kernel
theorem dX6_remember_33 : decode cX6_remember 33 = .ok (.iastore, 1) := by decide +kernel
theorem dX6_remember_34 : decode cX6_remember 34 = .ok (.iinc 1 1, 3) := by decide +kernel
theorem dX6_remember_37 : decode cX6_remember 37 = .ok (.goto (-25), 3) := by decide +kernel
theorem dX6_remember_40 : decode cX6_remember 40 = .ok (.aload_n 0, 1) := by decide +kernel
theorem dX6_remember_41 : decode cX6_remember 41 = .ok (.dup, 1) := by decide +kernel
theorem dX6_remember_42 : decode cX6_remember 42 = .ok (.getfield 157, 3) := by decide +kernel
theorem dX6_remember_45 : decode cX6_remember 45 = .ok (.iconst 1, 1) := by decide +kernel
theorem dX6_remember_46 : decode cX6_remember 46 = .ok (.isub, 1) := by decide +kernel
theorem dX6_remember_47 : decode cX6_remember 47 = .ok (.putfield 157, 3) := by decide +kernel
theorem dX6_remember_50 : decode cX6_remember 50 = .ok (.iconst 0, 1) := by decide +kernel
theorem dX6_remember_51 : decode cX6_remember 51 = .ok (.istore_n 1, 1) := by decide +kernel
theorem dX6_remember_52 : decode cX6_remember 52 = .ok (.iload_n 1, 1) := by decide +kernel
theorem dX6_remember_53 : decode cX6_remember 53 = .ok (.bipush 82, 2) := by decide +kernel
theorem dX6_remember_55 : decode cX6_remember 55 = .ok (.if_icmp .ge 29, 3) := by decide +kernel
theorem dX6_remember_58 : decode cX6_remember 58 = .ok (.aload_n 0, 1) := by decide +kernel
theorem dX6_remember_59 : decode cX6_remember 59 = .ok (.getfield 38, 3) := by decide +kernel
theorem dX6_remember_62 : decode cX6_remember 62 = .ok (.bipush 82, 2) := by decide +kernel
theorem dX6_remember_64 : decode cX6_remember 64 = .ok (.aload_n 0, 1) := by decide +kernel
theorem dX6_remember_65 : decode cX6_remember 65 = .ok (.getfield 157, 3) := by decide +kernel
theorem dX6_remember_68 : decode cX6_remember 68 = .ok (.imul, 1) := by decide +kernel
theorem dX6_remember_69 : decode cX6_remember 69 = .ok (.iload_n 1, 1) := by decide +kernel
theorem dX6_remember_70 : decode cX6_remember 70 = .ok (.iadd, 1) := by decide +kernel
theorem dX6_remember_71 : decode cX6_remember 71 = .ok (.aload_n 0, 1) := by decide +kernel
theorem dX6_remember_72 : decode cX6_remember 72 = .ok (.getfield 19, 3) := by decide +kernel
theorem dX6_remember_75 : decode cX6_remember 75 = .ok (.iload_n 1, 1) := by decide +kernel
theorem dX6_remember_76 : decode cX6_remember 76 = .ok (.iaload, 1) := by decide +kernel
theorem dX6_remember_77 : decode cX6_remember 77 = .ok (.iastore, 1) := by decide +kernel
theorem dX6_remember_78 : decode cX6_remember 78 = .ok (.iinc 1 1, 3) := by decide +kernel
theorem dX6_remember_81 : decode cX6_remember 81 = .ok (.goto (-29), 3) := by decide +kernel
theorem dX6_remember_84 : decode cX6_remember 84 = .ok (.aload_n 0, 1) := by decide +kernel
theorem dX6_remember_85 : decode cX6_remember 85 = .ok (.dup, 1) := by decide +kernel
theorem dX6_remember_86 : decode cX6_remember 86 = .ok (.getfield 157, 3) := by decide +kernel
theorem dX6_remember_89 : decode cX6_remember 89 = .ok (.iconst 1, 1) := by decide +kernel
theorem dX6_remember_90 : decode cX6_remember 90 = .ok (.iadd, 1) := by decide +kernel
theorem dX6_remember_91 : decode cX6_remember 91 = .ok (.putfield 157, 3) := by decide +kernel
theorem dX6_remember_94 : decode cX6_remember 94 = .ok (.return_, 1) := by decide +kernel
set_option maxRecDepth 20000 in
theorem ggX6_stand_X6_isSitter : GoodIn wsX6_stand wsX6_isSitter := goodIn_r _ [8, 9, 10, 11, 7, 12, 28, 29, 30, 31, 32, 33, 34, 35, 36, 37, 38, 39, 40, 41, 42, 43, 44, 45, 46, 47, 48, 49, 50, 51, 52, 53, 54, 55, 56, 57, 58, 59, 60] (by decide +kernel) (by decide +kernel)
set_option maxRecDepth 20000 in
theorem gX6_stand_X6_isSitter : GoodIn wsX6_stand (wsV RX6 187 RX6 yX6_isSitter wsX6_isSitter) := goodIn_app (goodIn_of _ (by decide +kernel)) ggX6_stand_X6_isSitter
set_option maxRecDepth 20000 in
theorem ggX6_stand_X6_isWindow : GoodIn wsX6_stand wsX6_isWindow := goodIn_r _ [16, 17, 10, 11, 7, 12, 28, 29, 30, 31, 32, 33, 34, 35, 36, 37, 38, 39, 40, 41, 42, 43, 44, 45, 46, 47, 48, 49, 50, 51, 52, 53, 54, 55, 56, 57, 58, 59, 60] (by decide +kernel) (by decide +kernel)
set_option maxRecDepth 20000 in
theorem gX6_stand_X6_isWindow : GoodIn wsX6_stand (wsV RX6 194 RX6 yX6_isWindow wsX6_isWindow) := goodIn_app (goodIn_of _ (by decide +kernel)) ggX6_stand_X6_isWindow
set_option maxRecDepth 20000 in
theorem ggX6_stand_X6_whoIsAt : GoodIn wsX6_stand wsX6_whoIsAt := goodIn_r _ [21, 9, 3, 28, 29, 30, 31, 32, 33, 34, 35, 36, 37, 38, 39, 40, 41, 42, 43, 44, 45, 46, 47, 48, 49, 50, 51, 52, 53, 54, 55, 56, 57, 58, 59, 60] (by decide +kernel) (by decide +kernel)
set_option maxRecDepth 20000 in
theorem gX6_stand_X6_whoIsAt : GoodIn wsX6_stand (wsV RX6 169 RX6 yX6_whoIsAt wsX6_whoIsAt) := goodIn_app (goodIn_of _ (by decide +kernel)) ggX6_stand_X6_whoIsAt
set_option maxRecDepth 20000 in
theorem ggX6_stand_X6_remember : GoodIn wsX6_stand wsX6_remember := goodIn_r _ [25, 26, 27, 3, 28, 29, 30, 31, 32, 33, 34, 35, 36, 37, 38, 39, 40, 41, 42, 43, 44, 45, 46, 47, 48, 49, 50, 51, 52, 53, 54, 55, 56, 57, 58, 59, 60] (by decide +kernel) (by decide +kernel)
set_option maxRecDepth 20000 in
theorem gX6_stand_X6_remember : GoodIn wsX6_stand (wsV RX6 206 RX6 yX6_remember wsX6_remember) := goodIn_app (goodIn_of _ (by decide +kernel)) ggX6_stand_X6_remember
theorem dX6_stand_0 : decode cX6_stand 0 = .ok (.aload_n 0, 1) := by decide +kernel
theorem dX6_stand_1 : decode cX6_stand 1 = .ok (.iload_n 1, 1) := by decide +kernel
theorem dX6_stand_2 : decode cX6_stand 2 = .ok (.invokevirtual 187, 3) := by decide +kernel
theorem dX6_stand_5 : decode cX6_stand 5 = .ok (.ifCond .eq 11, 3) := by decide +kernel
theorem dX6_stand_8 : decode cX6_stand 8 = .ok (.aload_n 0, 1) := by decide +kernel
theorem dX6_stand_9 : decode cX6_stand 9 = .ok (.iload_n 2, 1) := by decide +kernel
theorem dX6_stand_10 : decode cX6_stand 10 = .ok (.invokevirtual 194, 3) := by decide +kernel
theorem dX6_stand_13 : decode cX6_stand 13 = .ok (.ifCond .ne 6, 3) := by decide +kernel
theorem dX6_stand_16 : decode cX6_stand 16 = .ok (.ldc 190, 2) := by decide +kernel
theorem dX6_stand_18 : decode cX6_stand 18 = .ok (.ireturn, 1) := by decide +kernel
theorem dX6_stand_19 : decode cX6_stand 19 = .ok (.aload_n 0, 1) := by decide +kernel
theorem dX6_stand_20 : decode cX6_stand 20 = .ok (.iload_n 2, 1) := by decide +kernel
theorem dX6_stand_21 : decode cX6_stand 21 = .ok (.invokevirtual 169, 3) := by decide +kernel
theorem dX6_stand_24 : decode cX6_stand 24 = .ok (.iconst (-1), 1) := by decide +kernel
theorem dX6_stand_25 : decode cX6_stand 25 = .ok (.if_icmp .eq 6, 3) := by decide +kernel
theorem dX6_stand_28 : decode cX6_stand 28 = .ok (.ldc 205, 2) := by decide +kernel
theorem dX6_stand_30 : decode cX6_stand 30 = .ok (.ireturn, 1) := by decide +kernel
theorem dX6_stand_31 : decode cX6_stand 31 = .ok (.aload_n 0, 1) := by decide +kernel
theorem dX6_stand_32 : decode cX6_stand 32 = .ok (.invokevirtual 206, 3) := by decide +kernel
theorem dX6_stand_35 : decode cX6_stand 35 = .ok (.aload_n 0, 1) := by decide +kernel
theorem dX6_stand_36 : decode cX6_stand 36 = .ok (.getfield 19, 3) := by decide +kernel
theorem dX6_stand_39 : decode cX6_stand 39 = .ok (.bipush 6, 2) := by decide +kernel
theorem dX6_stand_41 : decode cX6_stand 41 = .ok (.iload_n 1, 1) := by decide +kernel
theorem dX6_stand_42 : decode cX6_stand 42 = .ok (.iadd, 1) := by decide +kernel
theorem dX6_stand_43 : decode cX6_stand 43 = .ok (.iaload, 1) := by decide +kernel
theorem dX6_stand_44 : decode cX6_stand 44 = .ok (.istore_n 3, 1) := by decide +kernel
theorem dX6_stand_45 : decode cX6_stand 45 = .ok (.aload_n 0, 1) := by decide +kernel
theorem dX6_stand_46 : decode cX6_stand 46 = .ok (.getfield 19, 3) := by decide +kernel
theorem dX6_stand_49 : decode cX6_stand 49 = .ok (.bipush 6, 2) := by decide +kernel
theorem dX6_stand_51 : decode cX6_stand 51 = .ok (.iload_n 1, 1) := by decide +kernel
theorem dX6_stand_52 : decode cX6_stand 52 = .ok (.iadd, 1) := by decide +kernel
theorem dX6_stand_53 : decode cX6_stand 53 = .ok (.iload_n 2, 1) := by decide +kernel
theorem dX6_stand_54 : decode cX6_stand 54 = .ok (.iastore, 1) := by decide +kernel
theorem dX6_stand_55 : decode cX6_stand 55 = .ok (.iload_n 3, 1) := by decide +kernel
theorem dX6_stand_56 : decode cX6_stand 56 = .ok (.ireturn, 1) := by decide +kernel
set_option maxRecDepth 20000 in
theorem ggX6_go_X6_isSitter : GoodIn wsX6_go wsX6_isSitter := goodIn_r _ [8, 9, 10, 11, 7, 12, 19, 20, 21, 22, 23, 24, 25, 26, 27, 28, 29, 30, 31, 32, 33, 34, 35, 36, 37, 38, 39, 40, 41, 42, 43, 44, 45, 46, 47, 48, 49, 50, 51] (by decide +kernel) (by decide +kernel)
set_option maxRecDepth 20000 in
theorem gX6_go_X6_isSitter : GoodIn wsX6_go (wsV RX6 187 RX6 yX6_isSitter wsX6_isSitter) := goodIn_app (goodIn_of _ (by decide +kernel)) ggX6_go_X6_isSitter
set_option maxRecDepth 20000 in
theorem ggX6_go_X6_remember : GoodIn wsX6_go wsX6_remember := goodIn_r _ [16, 17, 18, 2, 19, 20, 21, 22, 23, 24, 25, 26, 27, 28, 29, 30, 31, 32, 33, 34, 35, 36, 37, 38, 39, 40, 41, 42, 43, 44, 45, 46, 47, 48, 49, 50, 51] (by decide +kernel) (by decide +kernel)
set_option maxRecDepth 20000 in
theorem gX6_go_X6_remember : GoodIn wsX6_go (wsV RX6 206 RX6 yX6_remember wsX6_remember) := goodIn_app (goodIn_of _ (by decide +kernel)) ggX6_go_X6_remember
theorem dX6_go_0 : decode cX6_go 0 = .ok (.aload_n 0, 1) := by decide +kernel
theorem dX6_go_1 : decode cX6_go 1 = .ok (.iload_n 1, 1) := by decide +kernel
theorem dX6_go_2 : decode cX6_go 2 = .ok (.invokevirtual 187, 3) := by decide +kernel
theorem dX6_go_5 : decode cX6_go 5 = .ok (.ifCond .ne 6, 3) := by decide +kernel
theorem dX6_go_8 : decode cX6_go 8 = .ok (.ldc 190, 2) := by decide +kernel
theorem dX6_go_10 : decode cX6_go 10 = .ok (.ireturn, 1) := by decide +kernel
theorem dX6_go_11 : decode cX6_go 11 = .ok (.aload_n 0, 1) := by decide +kernel
theorem dX6_go_12 : decode cX6_go 12 = .ok (.getfield 19, 3) := by decide +kernel
theorem dX6_go_15 : decode cX6_go 15 = .ok (.bipush 6, 2) := by decide +kernel
theorem dX6_go_17 : decode cX6_go 17 = .ok (.iload_n 1, 1) := by decide +kernel
theorem dX6_go_18 : decode cX6_go 18 = .ok (.iadd, 1) := by decide +kernel
theorem dX6_go_19 : decode cX6_go 19 = .ok (.iaload, 1) := by decide +kernel
theorem dX6_go_20 : decode cX6_go 20 = .ok (.istore_n 2, 1) := by decide +kernel
theorem dX6_go_21 : decode cX6_go 21 = .ok (.iload_n 2, 1) := by decide +kernel
theorem dX6_go_22 : decode cX6_go 22 = .ok (.iconst (-1), 1) := by decide +kernel
theorem dX6_go_23 : decode cX6_go 23 = .ok (.if_icmp .ne 6, 3) := by decide +kernel
theorem dX6_go_26 : decode cX6_go 26 = .ok (.ldc 205, 2) := by decide +kernel
theorem dX6_go_28 : decode cX6_go 28 = .ok (.ireturn, 1) := by decide +kernel
theorem dX6_go_29 : decode cX6_go 29 = .ok (.aload_n 0, 1) := by decide +kernel
theorem dX6_go_30 : decode cX6_go 30 = .ok (.invokevirtual 206, 3) := by decide +kernel
theorem dX6_go_33 : decode cX6_go 33 = .ok (.aload_n 0, 1) := by decide +kernel
theorem dX6_go_34 : decode cX6_go 34 = .ok (.getfield 19, 3) := by decide +kernel
theorem dX6_go_37 : decode cX6_go 37 = .ok (.bipush 6, 2) := by decide +kernel
theorem dX6_go_39 : decode cX6_go 39 = .ok (.iload_n 1, 1) := by decide +kernel
theorem dX6_go_40 : decode cX6_go 40 = .ok (.iadd, 1) := by decide +kernel
theorem dX6_go_41 : decode cX6_go 41 = .ok (.iconst (-1), 1) := by decide +kernel
theorem dX6_go_42 : decode cX6_go 42 = .ok (.iastore, 1) := by decide +kernel
theorem dX6_go_43 : decode cX6_go 43 = .ok (.iload_n 2, 1) := by decide +kernel
theorem dX6_go_44 : decode cX6_go 44 = .ok (.ireturn, 1) := by decide +kernel
set_option maxRecDepth 20000 in
theorem ggX6_lamp_X6_isWindow : GoodIn wsX6_lamp wsX6_isWindow := goodIn_r _ [9, 10, 11, 12, 8, 13, 20, 21, 22, 23, 24, 25, 26, 27, 28, 29, 30, 31, 32, 33, 34, 35, 36, 37, 38, 39, 40, 41, 42, 43, 44, 45, 46, 47, 48, 49, 50, 51, 52] (by decide +kernel) (by decide +kernel)
set_option maxRecDepth 20000 in
theorem gX6_lamp_X6_isWindow : GoodIn wsX6_lamp (wsV RX6 194 RX6 yX6_isWindow wsX6_isWindow) := goodIn_app (goodIn_of _ (by decide +kernel)) ggX6_lamp_X6_isWindow
set_option maxRecDepth 20000 in
theorem ggX6_lamp_X6_in : GoodIn wsX6_lamp wsX6_in := goodIn_r _ [13] (by decide +kernel) (by decide +kernel)
set_option maxRecDepth 20000 in
theorem gX6_lamp_X6_in : GoodIn wsX6_lamp (va_wsS RX6 75 yX6_in wsX6_in) := goodIn_app (goodIn_of _ (by decide +kernel)) ggX6_lamp_X6_in
set_option maxRecDepth 20000 in
theorem ggX6_lamp_X6_remember : GoodIn wsX6_lamp wsX6_remember := goodIn_r _ [17, 18, 19, 4, 20, 21, 22, 23, 24, 25, 26, 27, 28, 29, 30, 31, 32, 33, 34, 35, 36, 37, 38, 39, 40, 41, 42, 43, 44, 45, 46, 47, 48, 49, 50, 51, 52] (by decide +kernel) (by decide +kernel)
set_option maxRecDepth 20000 in
theorem gX6_lamp_X6_remember : GoodIn wsX6_lamp (wsV RX6 206 RX6 yX6_remember wsX6_remember) := goodIn_app (goodIn_of _ (by decide +kernel)) ggX6_lamp_X6_remember
theorem dX6_lamp_0 : decode cX6_lamp 0 = .ok (.aload_n 0, 1) := by decide +kernel
theorem dX6_lamp_1 : decode cX6_lamp 1 = .ok (.iload_n 1, 1) := by decide +kernel
theorem dX6_lamp_2 : decode cX6_lamp 2 = .ok (.invokevirtual 194, 3) := by decide +kernel
theorem dX6_lamp_5 : decode cX6_lamp 5 = .ok (.ifCond .ne 6, 3) := by decide +kernel
theorem dX6_lamp_8 : decode cX6_lamp 8 = .ok (.ldc 190, 2) := by decide +kernel
theorem dX6_lamp_10 : decode cX6_lamp 10 = .ok (.ireturn, 1) := by decide +kernel
theorem dX6_lamp_11 : decode cX6_lamp 11 = .ok (.iload_n 2, 1) := by decide +kernel
theorem dX6_lamp_12 : decode cX6_lamp 12 = .ok (.i2l, 1) := by decide +kernel
theorem dX6_lamp_13 : decode cX6_lamp 13 = .ok (.lconst 0, 1) := by decide +kernel
theorem dX6_lamp_14 : decode cX6_lamp 14 = .ok (.ldc2_w 164, 3) := by decide +kernel
theorem dX6_lamp_17 : decode cX6_lamp 17 = .ok (.invokestatic 75, 3) := by decide +kernel
theorem dX6_lamp_20 : decode cX6_lamp 20 = .ok (.ifCond .ne 6, 3) := by decide +kernel
theorem dX6_lamp_23 : decode cX6_lamp 23 = .ok (.ldc 84, 2) := by decide +kernel
theorem dX6_lamp_25 : decode cX6_lamp 25 = .ok (.ireturn, 1) := by decide +kernel
theorem dX6_lamp_26 : decode cX6_lamp 26 = .ok (.aload_n 0, 1) := by decide +kernel
theorem dX6_lamp_27 : decode cX6_lamp 27 = .ok (.invokevirtual 206, 3) := by decide +kernel
theorem dX6_lamp_30 : decode cX6_lamp 30 = .ok (.aload_n 0, 1) := by decide +kernel
theorem dX6_lamp_31 : decode cX6_lamp 31 = .ok (.getfield 19, 3) := by decide +kernel
theorem dX6_lamp_34 : decode cX6_lamp 34 = .ok (.bipush 12, 2) := by decide +kernel
theorem dX6_lamp_36 : decode cX6_lamp 36 = .ok (.iload_n 1, 1) := by decide +kernel
theorem dX6_lamp_37 : decode cX6_lamp 37 = .ok (.iadd, 1) := by decide +kernel
theorem dX6_lamp_38 : decode cX6_lamp 38 = .ok (.iaload, 1) := by decide +kernel
theorem dX6_lamp_39 : decode cX6_lamp 39 = .ok (.istore_n 3, 1) := by decide +kernel
theorem dX6_lamp_40 : decode cX6_lamp 40 = .ok (.aload_n 0, 1) := by decide +kernel
theorem dX6_lamp_41 : decode cX6_lamp 41 = .ok (.getfield 19, 3) := by decide +kernel
theorem dX6_lamp_44 : decode cX6_lamp 44 = .ok (.bipush 12, 2) := by decide +kernel
theorem dX6_lamp_46 : decode cX6_lamp 46 = .ok (.iload_n 1, 1) := by decide +kernel
theorem dX6_lamp_47 : decode cX6_lamp 47 = .ok (.iadd, 1) := by decide +kernel
theorem dX6_lamp_48 : decode cX6_lamp 48 = .ok (.iload_n 2, 1) := by decide +kernel
theorem dX6_lamp_49 : decode cX6_lamp 49 = .ok (.iastore, 1) := by decide +kernel
theorem dX6_lamp_50 : decode cX6_lamp 50 = .ok (.iload_n 3, 1) := by decide +kernel
theorem dX6_lamp_51 : decode cX6_lamp 51 = .ok (.ireturn, 1) := by decide +kernel
set_option maxRecDepth 20000 in
theorem ggX6_wind_X6_in : GoodIn wsX6_wind wsX6_in := goodIn_r _ [9] (by decide +kernel) (by decide +kernel)
set_option maxRecDepth 20000 in
theorem gX6_wind_X6_in : GoodIn wsX6_wind (va_wsS RX6 75 yX6_in wsX6_in) := goodIn_app (goodIn_of _ (by decide +kernel)) ggX6_wind_X6_in
set_option maxRecDepth 20000 in
theorem ggX6_wind_X6_isCapital : GoodIn wsX6_wind wsX6_isCapital := goodIn_r _ [13, 14, 21, 22, 23, 24, 25, 26, 27, 28, 29, 30, 31, 32, 33, 34, 35, 36, 37, 38, 39, 40, 41, 42, 43, 44, 45, 46, 47, 48, 49, 50, 51, 52, 53] (by decide +kernel) (by decide +kernel)
set_option maxRecDepth 20000 in
theorem gX6_wind_X6_isCapital : GoodIn wsX6_wind (wsV RX6 211 RX6 yX6_isCapital wsX6_isCapital) := goodIn_app (goodIn_of _ (by decide +kernel)) ggX6_wind_X6_isCapital
set_option maxRecDepth 20000 in
theorem ggX6_wind_X6_remember : GoodIn wsX6_wind wsX6_remember := goodIn_r _ [18, 19, 20, 5, 21, 22, 23, 24, 25, 26, 27, 28, 29, 30, 31, 32, 33, 34, 35, 36, 37, 38, 39, 40, 41, 42, 43, 44, 45, 46, 47, 48, 49, 50, 51, 52, 53] (by decide +kernel) (by decide +kernel)
set_option maxRecDepth 20000 in
theorem gX6_wind_X6_remember : GoodIn wsX6_wind (wsV RX6 206 RX6 yX6_remember wsX6_remember) := goodIn_app (goodIn_of _ (by decide +kernel)) ggX6_wind_X6_remember
theorem dX6_wind_0 : decode cX6_wind 0 = .ok (.iload_n 1, 1) := by decide +kernel
theorem dX6_wind_1 : decode cX6_wind 1 = .ok (.i2l, 1) := by decide +kernel
theorem dX6_wind_2 : decode cX6_wind 2 = .ok (.ldc2_w 209, 3) := by decide +kernel
theorem dX6_wind_5 : decode cX6_wind 5 = .ok (.ldc2_w 203, 3) := by decide +kernel
theorem dX6_wind_8 : decode cX6_wind 8 = .ok (.invokestatic 75, 3) := by decide +kernel
theorem dX6_wind_11 : decode cX6_wind 11 = .ok (.ifCond .ne 6, 3) := by decide +kernel
theorem dX6_wind_14 : decode cX6_wind 14 = .ok (.ldc 84, 2) := by decide +kernel
theorem dX6_wind_16 : decode cX6_wind 16 = .ok (.ireturn, 1) := by decide +kernel
theorem dX6_wind_17 : decode cX6_wind 17 = .ok (.aload_n 0, 1) := by decide +kernel
theorem dX6_wind_18 : decode cX6_wind 18 = .ok (.invokevirtual 211, 3) := by decide +kernel
theorem dX6_wind_21 : decode cX6_wind 21 = .ok (.ifCond .ne 6, 3) := by decide +kernel
theorem dX6_wind_24 : decode cX6_wind 24 = .ok (.ldc 205, 2) := by decide +kernel
theorem dX6_wind_26 : decode cX6_wind 26 = .ok (.ireturn, 1) := by decide +kernel
theorem dX6_wind_27 : decode cX6_wind 27 = .ok (.aload_n 0, 1) := by decide +kernel
theorem dX6_wind_28 : decode cX6_wind 28 = .ok (.invokevirtual 206, 3) := by decide +kernel
theorem dX6_wind_31 : decode cX6_wind 31 = .ok (.aload_n 0, 1) := by decide +kernel
theorem dX6_wind_32 : decode cX6_wind 32 = .ok (.getfield 19, 3) := by decide +kernel
theorem dX6_wind_35 : decode cX6_wind 35 = .ok (.iconst 1, 1) := by decide +kernel
theorem dX6_wind_36 : decode cX6_wind 36 = .ok (.iaload, 1) := by decide +kernel
theorem dX6_wind_37 : decode cX6_wind 37 = .ok (.istore_n 2, 1) := by decide +kernel
theorem dX6_wind_38 : decode cX6_wind 38 = .ok (.aload_n 0, 1) := by decide +kernel
theorem dX6_wind_39 : decode cX6_wind 39 = .ok (.getfield 19, 3) := by decide +kernel
theorem dX6_wind_42 : decode cX6_wind 42 = .ok (.iconst 1, 1) := by decide +kernel
theorem dX6_wind_43 : decode cX6_wind 43 = .ok (.iload_n 1, 1) := by decide +kernel
theorem dX6_wind_44 : decode cX6_wind 44 = .ok (.iastore, 1) := by decide +kernel
theorem dX6_wind_45 : decode cX6_wind 45 = .ok (.iload_n 2, 1) := by decide +kernel
theorem dX6_wind_46 : decode cX6_wind 46 = .ok (.iconst 3, 1) := by decide +kernel
theorem dX6_wind_47 : decode cX6_wind 47 = .ok (.iadd, 1) := by decide +kernel
theorem dX6_wind_48 : decode cX6_wind 48 = .ok (.ireturn, 1) := by decide +kernel
set_option maxRecDepth 20000 in
theorem ggX6_bats_X6_in : GoodIn wsX6_bats wsX6_in := goodIn_r _ [8] (by decide +kernel) (by decide +kernel)
set_option maxRecDepth 20000 in
theorem gX6_bats_X6_in : GoodIn wsX6_bats (va_wsS RX6 75 yX6_in wsX6_in) := goodIn_app (goodIn_of _ (by decide +kernel)) ggX6_bats_X6_in
set_option maxRecDepth 20000 in
theorem ggX6_bats_X6_isCapital : GoodIn wsX6_bats wsX6_isCapital := goodIn_r _ [12, 13, 20, 21, 22, 23, 24, 25, 26, 27, 28, 29, 30, 31, 32, 33, 34, 35, 36, 37, 38, 39, 40, 41, 42, 43, 44, 45, 46, 47, 48, 49, 50, 51, 52] (by decide +kernel) (by decide +kernel)
set_option maxRecDepth 20000 in
theorem gX6_bats_X6_isCapital : GoodIn wsX6_bats (wsV RX6 211 RX6 yX6_isCapital wsX6_isCapital) := goodIn_app (goodIn_of _ (by decide +kernel)) ggX6_bats_X6_isCapital
set_option maxRecDepth 20000 in
theorem ggX6_bats_X6_remember : GoodIn wsX6_bats wsX6_remember := goodIn_r _ [17, 18, 19, 4, 20, 21, 22, 23, 24, 25, 26, 27, 28, 29, 30, 31, 32, 33, 34, 35, 36, 37, 38, 39, 40, 41, 42, 43, 44, 45, 46, 47, 48, 49, 50, 51, 52] (by decide +kernel) (by decide +kernel)
set_option maxRecDepth 20000 in
theorem gX6_bats_X6_remember : GoodIn wsX6_bats (wsV RX6 206 RX6 yX6_remember wsX6_remember) := goodIn_app (goodIn_of _ (by decide +kernel)) ggX6_bats_X6_remember
theorem dX6_bats_0 : decode cX6_bats 0 = .ok (.iload_n 1, 1) := by decide +kernel
theorem dX6_bats_1 : decode cX6_bats 1 = .ok (.i2l, 1) := by decide +kernel
theorem dX6_bats_2 : decode cX6_bats 2 = .ok (.lconst 0, 1) := by decide +kernel
theorem dX6_bats_3 : decode cX6_bats 3 = .ok (.ldc2_w 215, 3) := by decide +kernel
theorem dX6_bats_6 : decode cX6_bats 6 = .ok (.invokestatic 75, 3) := by decide +kernel
theorem dX6_bats_9 : decode cX6_bats 9 = .ok (.ifCond .ne 6, 3) := by decide +kernel
theorem dX6_bats_12 : decode cX6_bats 12 = .ok (.ldc 84, 2) := by decide +kernel
theorem dX6_bats_14 : decode cX6_bats 14 = .ok (.ireturn, 1) := by decide +kernel
theorem dX6_bats_15 : decode cX6_bats 15 = .ok (.aload_n 0, 1) := by decide +kernel
theorem dX6_bats_16 : decode cX6_bats 16 = .ok (.invokevirtual 211, 3) := by decide +kernel
theorem dX6_bats_19 : decode cX6_bats 19 = .ok (.ifCond .ne 6, 3) := by decide +kernel
theorem dX6_bats_22 : decode cX6_bats 22 = .ok (.ldc 205, 2) := by decide +kernel
theorem dX6_bats_24 : decode cX6_bats 24 = .ok (.ireturn, 1) := by decide +kernel
theorem dX6_bats_25 : decode cX6_bats 25 = .ok (.aload_n 0, 1) := by decide +kernel
theorem dX6_bats_26 : decode cX6_bats 26 = .ok (.invokevirtual 206, 3) := by decide +kernel
theorem dX6_bats_29 : decode cX6_bats 29 = .ok (.aload_n 0, 1) := by decide +kernel
theorem dX6_bats_30 : decode cX6_bats 30 = .ok (.getfield 19, 3) := by decide +kernel
theorem dX6_bats_33 : decode cX6_bats 33 = .ok (.iconst 2, 1) := by decide +kernel
theorem dX6_bats_34 : decode cX6_bats 34 = .ok (.iaload, 1) := by decide +kernel
theorem dX6_bats_35 : decode cX6_bats 35 = .ok (.istore_n 2, 1) := by decide +kernel
theorem dX6_bats_36 : decode cX6_bats 36 = .ok (.aload_n 0, 1) := by decide +kernel
theorem dX6_bats_37 : decode cX6_bats 37 = .ok (.getfield 19, 3) := by decide +kernel
theorem dX6_bats_40 : decode cX6_bats 40 = .ok (.iconst 2, 1) := by decide +kernel
theorem dX6_bats_41 : decode cX6_bats 41 = .ok (.iload_n 1, 1) := by decide +kernel
theorem dX6_bats_42 : decode cX6_bats 42 = .ok (.iastore, 1) := by decide +kernel
theorem dX6_bats_43 : decode cX6_bats 43 = .ok (.iload_n 2, 1) := by decide +kernel
theorem dX6_bats_44 : decode cX6_bats 44 = .ok (.ireturn, 1) := by decide +kernel
set_option maxRecDepth 20000 in
theorem ggX6_eye_X6_in : GoodIn wsX6_eye wsX6_in := goodIn_r _ [8] (by decide +kernel) (by decide +kernel)
set_option maxRecDepth 20000 in
theorem gX6_eye_X6_in : GoodIn wsX6_eye (va_wsS RX6 75 yX6_in wsX6_in) := goodIn_app (goodIn_of _ (by decide +kernel)) ggX6_eye_X6_in
set_option maxRecDepth 20000 in
theorem ggX6_eye_X6_isCapital : GoodIn wsX6_eye wsX6_isCapital := goodIn_r _ [12, 13, 20, 21, 22, 23, 24, 25, 26, 27, 28, 29, 30, 31, 32, 33, 34, 35, 36, 37, 38, 39, 40, 41, 42, 43, 44, 45, 46, 47, 48, 49, 50, 51, 52] (by decide +kernel) (by decide +kernel)
set_option maxRecDepth 20000 in
theorem gX6_eye_X6_isCapital : GoodIn wsX6_eye (wsV RX6 211 RX6 yX6_isCapital wsX6_isCapital) := goodIn_app (goodIn_of _ (by decide +kernel)) ggX6_eye_X6_isCapital
set_option maxRecDepth 20000 in
theorem ggX6_eye_X6_remember : GoodIn wsX6_eye wsX6_remember := goodIn_r _ [17, 18, 19, 4, 20, 21, 22, 23, 24, 25, 26, 27, 28, 29, 30, 31, 32, 33, 34, 35, 36, 37, 38, 39, 40, 41, 42, 43, 44, 45, 46, 47, 48, 49, 50, 51, 52] (by decide +kernel) (by decide +kernel)
set_option maxRecDepth 20000 in
theorem gX6_eye_X6_remember : GoodIn wsX6_eye (wsV RX6 206 RX6 yX6_remember wsX6_remember) := goodIn_app (goodIn_of _ (by decide +kernel)) ggX6_eye_X6_remember
theorem dX6_eye_0 : decode cX6_eye 0 = .ok (.iload_n 1, 1) := by decide +kernel
theorem dX6_eye_1 : decode cX6_eye 1 = .ok (.i2l, 1) := by decide +kernel
theorem dX6_eye_2 : decode cX6_eye 2 = .ok (.lconst 0, 1) := by decide +kernel
theorem dX6_eye_3 : decode cX6_eye 3 = .ok (.ldc2_w 217, 3) := by decide +kernel
theorem dX6_eye_6 : decode cX6_eye 6 = .ok (.invokestatic 75, 3) := by decide +kernel
theorem dX6_eye_9 : decode cX6_eye 9 = .ok (.ifCond .ne 6, 3) := by decide +kernel
theorem dX6_eye_12 : decode cX6_eye 12 = .ok (.ldc 84, 2) := by decide +kernel
theorem dX6_eye_14 : decode cX6_eye 14 = .ok (.ireturn, 1) := by decide +kernel
theorem dX6_eye_15 : decode cX6_eye 15 = .ok (.aload_n 0, 1) := by decide +kernel
theorem dX6_eye_16 : decode cX6_eye 16 = .ok (.invokevirtual 211, 3) := by decide +kernel
theorem dX6_eye_19 : decode cX6_eye 19 = .ok (.ifCond .ne 6, 3) := by decide +kernel
theorem dX6_eye_22 : decode cX6_eye 22 = .ok (.ldc 205, 2) := by decide +kernel
theorem dX6_eye_24 : decode cX6_eye 24 = .ok (.ireturn, 1) := by decide +kernel
theorem dX6_eye_25 : decode cX6_eye 25 = .ok (.aload_n 0, 1) := by decide +kernel
theorem dX6_eye_26 : decode cX6_eye 26 = .ok (.invokevirtual 206, 3) := by decide +kernel
theorem dX6_eye_29 : decode cX6_eye 29 = .ok (.aload_n 0, 1) := by decide +kernel
theorem dX6_eye_30 : decode cX6_eye 30 = .ok (.getfield 19, 3) := by decide +kernel
theorem dX6_eye_33 : decode cX6_eye 33 = .ok (.iconst 3, 1) := by decide +kernel
theorem dX6_eye_34 : decode cX6_eye 34 = .ok (.dup2, 1) := by decide +kernel
theorem dX6_eye_35 : decode cX6_eye 35 = .ok (.iaload, 1) := by decide +kernel
theorem dX6_eye_36 : decode cX6_eye 36 = .ok (.iconst 1, 1) := by decide +kernel
theorem dX6_eye_37 : decode cX6_eye 37 = .ok (.iload_n 1, 1) := by decide +kernel
theorem dX6_eye_38 : decode cX6_eye 38 = .ok (.ishl, 1) := by decide +kernel
theorem dX6_eye_39 : decode cX6_eye 39 = .ok (.ior, 1) := by decide +kernel
theorem dX6_eye_40 : decode cX6_eye 40 = .ok (.iastore, 1) := by decide +kernel
theorem dX6_eye_41 : decode cX6_eye 41 = .ok (.aload_n 0, 1) := by decide +kernel
theorem dX6_eye_42 : decode cX6_eye 42 = .ok (.getfield 19, 3) := by decide +kernel
theorem dX6_eye_45 : decode cX6_eye 45 = .ok (.iconst 3, 1) := by decide +kernel
theorem dX6_eye_46 : decode cX6_eye 46 = .ok (.iaload, 1) := by decide +kernel
theorem dX6_eye_47 : decode cX6_eye 47 = .ok (.ireturn, 1) := by decide +kernel
set_option maxRecDepth 20000 in
theorem ggX6_rain_X6_isCapital : GoodIn wsX6_rain wsX6_isCapital := goodIn_r _ [7, 8, 15, 16, 17, 18, 19, 20, 21, 22, 23, 24, 25, 26, 27, 28, 29, 30, 31, 32, 33, 34, 35, 36, 37, 38, 39, 40, 41, 42, 43, 44, 45, 46, 47] (by decide +kernel) (by decide +kernel)
set_option maxRecDepth 20000 in
theorem gX6_rain_X6_isCapital : GoodIn wsX6_rain (wsV RX6 211 RX6 yX6_isCapital wsX6_isCapital) := goodIn_app (goodIn_of _ (by decide +kernel)) ggX6_rain_X6_isCapital
set_option maxRecDepth 20000 in
theorem ggX6_rain_X6_remember : GoodIn wsX6_rain wsX6_remember := goodIn_r _ [12, 13, 14, 2, 15, 16, 17, 18, 19, 20, 21, 22, 23, 24, 25, 26, 27, 28, 29, 30, 31, 32, 33, 34, 35, 36, 37, 38, 39, 40, 41, 42, 43, 44, 45, 46, 47] (by decide +kernel) (by decide +kernel)
set_option maxRecDepth 20000 in
theorem gX6_rain_X6_remember : GoodIn wsX6_rain (wsV RX6 206 RX6 yX6_remember wsX6_remember) := goodIn_app (goodIn_of _ (by decide +kernel)) ggX6_rain_X6_remember
theorem dX6_rain_0 : decode cX6_rain 0 = .ok (.aload_n 0, 1) := by decide +kernel
theorem dX6_rain_1 : decode cX6_rain 1 = .ok (.invokevirtual 211, 3) := by decide +kernel
theorem dX6_rain_4 : decode cX6_rain 4 = .ok (.ifCond .ne 6, 3) := by decide +kernel
theorem dX6_rain_7 : decode cX6_rain 7 = .ok (.ldc 205, 2) := by decide +kernel
theorem dX6_rain_9 : decode cX6_rain 9 = .ok (.ireturn, 1) := by decide +kernel
theorem dX6_rain_10 : decode cX6_rain 10 = .ok (.aload_n 0, 1) := by decide +kernel
theorem dX6_rain_11 : decode cX6_rain 11 = .ok (.invokevirtual 206, 3) := by decide +kernel
theorem dX6_rain_14 : decode cX6_rain 14 = .ok (.aload_n 0, 1) := by decide +kernel
theorem dX6_rain_15 : decode cX6_rain 15 = .ok (.getfield 19, 3) := by decide +kernel
theorem dX6_rain_18 : decode cX6_rain 18 = .ok (.iconst 4, 1) := by decide +kernel
theorem dX6_rain_19 : decode cX6_rain 19 = .ok (.iaload, 1) := by decide +kernel
theorem dX6_rain_20 : decode cX6_rain 20 = .ok (.istore_n 2, 1) := by decide +kernel
theorem dX6_rain_21 : decode cX6_rain 21 = .ok (.aload_n 0, 1) := by decide +kernel
theorem dX6_rain_22 : decode cX6_rain 22 = .ok (.getfield 19, 3) := by decide +kernel
theorem dX6_rain_25 : decode cX6_rain 25 = .ok (.iconst 4, 1) := by decide +kernel
theorem dX6_rain_26 : decode cX6_rain 26 = .ok (.iload_n 1, 1) := by decide +kernel
theorem dX6_rain_27 : decode cX6_rain 27 = .ok (.ifCond .eq 7, 3) := by decide +kernel
theorem dX6_rain_30 : decode cX6_rain 30 = .ok (.iconst 1, 1) := by decide +kernel
theorem dX6_rain_31 : decode cX6_rain 31 = .ok (.goto 4, 3) := by decide +kernel
theorem dX6_rain_34 : decode cX6_rain 34 = .ok (.iconst 0, 1) := by decide +kernel
theorem dX6_rain_35 : decode cX6_rain 35 = .ok (.iastore, 1) := by decide +kernel
theorem dX6_rain_36 : decode cX6_rain 36 = .ok (.iload_n 2, 1) := by decide +kernel
theorem dX6_rain_37 : decode cX6_rain 37 = .ok (.ireturn, 1) := by decide +kernel
set_option maxRecDepth 20000 in
theorem ggX6_smoke_X6_isWindow : GoodIn wsX6_smoke wsX6_isWindow := goodIn_r _ [7, 8, 9, 10, 6, 11, 18, 19, 20, 21, 22, 23, 24, 25, 26, 27, 28, 29, 30, 31, 32, 33, 34, 35, 36, 37, 38, 39, 40, 41, 42, 43, 44, 45, 46, 47, 48, 49, 50] (by decide +kernel) (by decide +kernel)
set_option maxRecDepth 20000 in
theorem gX6_smoke_X6_isWindow : GoodIn wsX6_smoke (wsV RX6 194 RX6 yX6_isWindow wsX6_isWindow) := goodIn_app (goodIn_of _ (by decide +kernel)) ggX6_smoke_X6_isWindow
set_option maxRecDepth 20000 in
theorem ggX6_smoke_X6_remember : GoodIn wsX6_smoke wsX6_remember := goodIn_r _ [15, 16, 17, 2, 18, 19, 20, 21, 22, 23, 24, 25, 26, 27, 28, 29, 30, 31, 32, 33, 34, 35, 36, 37, 38, 39, 40, 41, 42, 43, 44, 45, 46, 47, 48, 49, 50] (by decide +kernel) (by decide +kernel)
set_option maxRecDepth 20000 in
theorem gX6_smoke_X6_remember : GoodIn wsX6_smoke (wsV RX6 206 RX6 yX6_remember wsX6_remember) := goodIn_app (goodIn_of _ (by decide +kernel)) ggX6_smoke_X6_remember
theorem dX6_smoke_0 : decode cX6_smoke 0 = .ok (.aload_n 0, 1) := by decide +kernel
theorem dX6_smoke_1 : decode cX6_smoke 1 = .ok (.iload_n 1, 1) := by decide +kernel
theorem dX6_smoke_2 : decode cX6_smoke 2 = .ok (.invokevirtual 194, 3) := by decide +kernel
theorem dX6_smoke_5 : decode cX6_smoke 5 = .ok (.ifCond .ne 6, 3) := by decide +kernel
theorem dX6_smoke_8 : decode cX6_smoke 8 = .ok (.ldc 190, 2) := by decide +kernel
theorem dX6_smoke_10 : decode cX6_smoke 10 = .ok (.ireturn, 1) := by decide +kernel
theorem dX6_smoke_11 : decode cX6_smoke 11 = .ok (.aload_n 0, 1) := by decide +kernel
theorem dX6_smoke_12 : decode cX6_smoke 12 = .ok (.invokevirtual 206, 3) := by decide +kernel
theorem dX6_smoke_15 : decode cX6_smoke 15 = .ok (.aload_n 0, 1) := by decide +kernel
theorem dX6_smoke_16 : decode cX6_smoke 16 = .ok (.getfield 19, 3) := by decide +kernel
theorem dX6_smoke_19 : decode cX6_smoke 19 = .ok (.iconst 5, 1) := by decide +kernel
theorem dX6_smoke_20 : decode cX6_smoke 20 = .ok (.iaload, 1) := by decide +kernel
theorem dX6_smoke_21 : decode cX6_smoke 21 = .ok (.iload_n 1, 1) := by decide +kernel
theorem dX6_smoke_22 : decode cX6_smoke 22 = .ok (.ishr, 1) := by decide +kernel
theorem dX6_smoke_23 : decode cX6_smoke 23 = .ok (.iconst 1, 1) := by decide +kernel
theorem dX6_smoke_24 : decode cX6_smoke 24 = .ok (.iand, 1) := by decide +kernel
theorem dX6_smoke_25 : decode cX6_smoke 25 = .ok (.istore_n 3, 1) := by decide +kernel
theorem dX6_smoke_26 : decode cX6_smoke 26 = .ok (.aload_n 0, 1) := by decide +kernel
theorem dX6_smoke_27 : decode cX6_smoke 27 = .ok (.getfield 19, 3) := by decide +kernel
theorem dX6_smoke_30 : decode cX6_smoke 30 = .ok (.iconst 5, 1) := by decide +kernel
theorem dX6_smoke_31 : decode cX6_smoke 31 = .ok (.iload_n 2, 1) := by decide +kernel
theorem dX6_smoke_32 : decode cX6_smoke 32 = .ok (.ifCond .eq 16, 3) := by decide +kernel
theorem dX6_smoke_35 : decode cX6_smoke 35 = .ok (.aload_n 0, 1) := by decide +kernel
theorem dX6_smoke_36 : decode cX6_smoke 36 = .ok (.getfield 19, 3) := by decide +kernel
theorem dX6_smoke_39 : decode cX6_smoke 39 = .ok (.iconst 5, 1) := by decide +kernel
theorem dX6_smoke_40 : decode cX6_smoke 40 = .ok (.iaload, 1) := by decide +kernel
theorem dX6_smoke_41 : decode cX6_smoke 41 = .ok (.iconst 1, 1) := by decide +kernel
theorem dX6_smoke_42 : decode cX6_smoke 42 = .ok (.iload_n 1, 1) := by decide +kernel
theorem dX6_smoke_43 : decode cX6_smoke 43 = .ok (.ishl, 1) := by decide +kernel
theorem dX6_smoke_44 : decode cX6_smoke 44 = .ok (.ior, 1) := by decide +kernel
theorem dX6_smoke_45 : decode cX6_smoke 45 = .ok (.goto 15, 3) := by decide +kernel
theorem dX6_smoke_48 : decode cX6_smoke 48 = .ok (.aload_n 0, 1) := by decide +kernel
theorem dX6_smoke_49 : decode cX6_smoke 49 = .ok (.getfield 19, 3) := by decide +kernel
theorem dX6_smoke_52 : decode cX6_smoke 52 = .ok (.iconst 5, 1) := by decide +kernel
theorem dX6_smoke_53 : decode cX6_smoke 53 = .ok (.iaload, 1) := by decide +kernel
theorem dX6_smoke_54 : decode cX6_smoke 54 = .ok (.iconst 1, 1) := by decide +kernel
theorem dX6_smoke_55 : decode cX6_smoke 55 = .ok (.iload_n 1, 1) := by decide +kernel
theorem dX6_smoke_56 : decode cX6_smoke 56 = .ok (.ishl, 1) := by decide +kernel
theorem dX6_smoke_57 : decode cX6_smoke 57 = .ok (.iconst (-1), 1) := by decide +kernel
theorem dX6_smoke_58 : decode cX6_smoke 58 = .ok (.ixor, 1) := by decide +kernel
theorem dX6_smoke_59 : decode cX6_smoke 59 = .ok (.iand, 1) := by decide +kernel
theorem dX6_smoke_60 : decode cX6_smoke 60 = .ok (.iastore, 1) := by decide +kernel
theorem dX6_smoke_61 : decode cX6_smoke 61 = .ok (.iload_n 3, 1) := by decide +kernel
theorem dX6_smoke_62 : decode cX6_smoke 62 = .ok (.ireturn, 1) := by decide +kernel
set_option maxRecDepth 20000 in
theorem ggX6_press_X6_in : GoodIn wsX6_press wsX6_in := goodIn_r _ [7] (by decide +kernel) (by decide +kernel)
set_option maxRecDepth 20000 in
theorem gX6_press_X6_in : GoodIn wsX6_press (va_wsS RX6 75 yX6_in wsX6_in) := goodIn_app (goodIn_of _ (by decide +kernel)) ggX6_press_X6_in
set_option maxRecDepth 20000 in
theorem ggX6_press_X6_isWindow : GoodIn wsX6_press wsX6_isWindow := goodIn_r _ [11, 12, 4, 5, 6, 7, 41, 42, 43, 44, 45, 46, 47, 48, 49, 50, 51, 52, 53, 54, 55, 56, 57, 58, 59, 60, 61, 62, 63, 64, 65, 66, 67, 68, 69, 70, 71, 72, 73] (by decide +kernel) (by decide +kernel)
set_option maxRecDepth 20000 in
theorem gX6_press_X6_isWindow : GoodIn wsX6_press (wsV RX6 194 RX6 yX6_isWindow wsX6_isWindow) := goodIn_app (goodIn_of _ (by decide +kernel)) ggX6_press_X6_isWindow
set_option maxRecDepth 20000 in
theorem ggX6_press_X6_remember : GoodIn wsX6_press wsX6_remember := goodIn_r _ [16, 17, 18, 3, 41, 42, 43, 44, 45, 46, 47, 48, 49, 50, 51, 52, 53, 54, 55, 56, 57, 58, 59, 60, 61, 62, 63, 64, 65, 66, 67, 68, 69, 70, 71, 72, 73] (by decide +kernel) (by decide +kernel)
set_option maxRecDepth 20000 in
theorem gX6_press_X6_remember : GoodIn wsX6_press (wsV RX6 206 RX6 yX6_remember wsX6_remember) := goodIn_app (goodIn_of _ (by decide +kernel)) ggX6_press_X6_remember
set_option maxRecDepth 20000 in
theorem ggX6_press_X6_drawnAt : GoodIn wsX6_press wsX6_drawnAt := goodIn_r _ [22, 3, 23, 24, 25, 6, 26, 27, 28, 29, 30, 31, 32, 33, 34, 35, 36, 37, 38, 39, 40, 4, 5, 7, 41, 42, 43, 44, 45, 46, 47, 48, 49, 50, 51, 52, 53, 54, 55, 56, 57, 58, 59, 60, 61, 62, 63, 64, 65, 66, 67, 68, 69, 70, 71, 72, 73] (by decide +kernel) (by decide +kernel)
set_option maxRecDepth 20000 in
theorem gX6_press_X6_drawnAt : GoodIn wsX6_press (wsV RX6 175 RX6 yX6_drawnAt wsX6_drawnAt) := goodIn_app (goodIn_of _ (by decide +kernel)) ggX6_press_X6_drawnAt
theorem dX6_press_0 : decode cX6_press 0 = .ok (.iload_n 1, 1) := by decide +kernel
theorem dX6_press_1 : decode cX6_press 1 = .ok (.i2l, 1) := by decide +kernel
theorem dX6_press_2 : decode cX6_press 2 = .ok (.lconst 0, 1) := by decide +kernel
theorem dX6_press_3 : decode cX6_press 3 = .ok (.ldc2_w 203, 3) := by decide +kernel
theorem dX6_press_6 : decode cX6_press 6 = .ok (.invokestatic 75, 3) := by decide +kernel
theorem dX6_press_9 : decode cX6_press 9 = .ok (.ifCond .eq 11, 3) := by decide +kernel
theorem dX6_press_12 : decode cX6_press 12 = .ok (.aload_n 0, 1) := by decide +kernel
theorem dX6_press_13 : decode cX6_press 13 = .ok (.iload_n 2, 1) := by decide +kernel
theorem dX6_press_14 : decode cX6_press 14 = .ok (.invokevirtual 194, 3) := by decide +kernel
theorem dX6_press_17 : decode cX6_press 17 = .ok (.ifCond .ne 6, 3) := by decide +kernel
theorem dX6_press_20 : decode cX6_press 20 = .ok (.ldc 190, 2) := by decide +kernel
theorem dX6_press_22 : decode cX6_press 22 = .ok (.ireturn, 1) := by decide +kernel
theorem dX6_press_23 : decode cX6_press 23 = .ok (.aload_n 0, 1) := by decide +kernel
theorem dX6_press_24 : decode cX6_press 24 = .ok (.invokevirtual 206, 3) := by decide +kernel
theorem dX6_press_27 : decode cX6_press 27 = .ok (.aload_n 0, 1) := by decide +kernel
theorem dX6_press_28 : decode cX6_press 28 = .ok (.getfield 19, 3) := by decide +kernel
theorem dX6_press_31 : decode cX6_press 31 = .ok (.bipush 17, 2) := by decide +kernel
theorem dX6_press_33 : decode cX6_press 33 = .ok (.iload_n 1, 1) := by decide +kernel
theorem dX6_press_34 : decode cX6_press 34 = .ok (.iadd, 1) := by decide +kernel
theorem dX6_press_35 : decode cX6_press 35 = .ok (.iaload, 1) := by decide +kernel
theorem dX6_press_36 : decode cX6_press 36 = .ok (.istore_n 3, 1) := by decide +kernel
theorem dX6_press_37 : decode cX6_press 37 = .ok (.aload_n 0, 1) := by decide +kernel
theorem dX6_press_38 : decode cX6_press 38 = .ok (.getfield 19, 3) := by decide +kernel
theorem dX6_press_41 : decode cX6_press 41 = .ok (.bipush 17, 2) := by decide +kernel
theorem dX6_press_43 : decode cX6_press 43 = .ok (.iload_n 1, 1) := by decide +kernel
theorem dX6_press_44 : decode cX6_press 44 = .ok (.iadd, 1) := by decide +kernel
theorem dX6_press_45 : decode cX6_press 45 = .ok (.aload_n 0, 1) := by decide +kernel
theorem dX6_press_46 : decode cX6_press 46 = .ok (.iload_n 2, 1) := by decide +kernel
theorem dX6_press_47 : decode cX6_press 47 = .ok (.invokevirtual 175, 3) := by decide +kernel
theorem dX6_press_50 : decode cX6_press 50 = .ok (.iastore, 1) := by decide +kernel
theorem dX6_press_51 : decode cX6_press 51 = .ok (.iload_n 3, 1) := by decide +kernel
theorem dX6_press_52 : decode cX6_press 52 = .ok (.ireturn, 1) := by decide +kernel
theorem dX6_keepsOne_0 : decode cX6_keepsOne 0 = .ok (.aload_n 0, 1) := by decide +kernel
theorem dX6_keepsOne_1 : decode cX6_keepsOne 1 = .ok (.getfield 19, 3) := by decide +kernel
theorem dX6_keepsOne_4 : decode cX6_keepsOne 4 = .ok (.bipush 21, 2) := by decide +kernel
theorem dX6_keepsOne_6 : decode cX6_keepsOne 6 = .ok (.iaload, 1) := by decide +kernel
theorem dX6_keepsOne_7 : decode cX6_keepsOne 7 = .ok (.bipush 20, 2) := by decide +kernel
theorem dX6_keepsOne_9 : decode cX6_keepsOne 9 = .ok (.if_icmp .ne 52, 3) := by decide +kernel
theorem dX6_keepsOne_12 : decode cX6_keepsOne 12 = .ok (.iconst 0, 1) := by decide +kernel
theorem dX6_keepsOne_13 : decode cX6_keepsOne 13 = .ok (.istore 4, 2) := by decide +kernel
theorem dX6_keepsOne_15 : decode cX6_keepsOne 15 = .ok (.iload 4, 2) := by decide +kernel
theorem dX6_keepsOne_17 : decode cX6_keepsOne 17 = .ok (.bipush 57, 2) := by decide +kernel
theorem dX6_keepsOne_19 : decode cX6_keepsOne 19 = .ok (.if_icmp .ge 31, 3) := by decide +kernel
theorem dX6_keepsOne_22 : decode cX6_keepsOne 22 = .ok (.aload_n 0, 1) := by decide +kernel
theorem dX6_keepsOne_23 : decode cX6_keepsOne 23 = .ok (.getfield 19, 3) := by decide +kernel
theorem dX6_keepsOne_26 : decode cX6_keepsOne 26 = .ok (.bipush 22, 2) := by decide +kernel
theorem dX6_keepsOne_28 : decode cX6_keepsOne 28 = .ok (.iload 4, 2) := by decide +kernel
theorem dX6_keepsOne_30 : decode cX6_keepsOne 30 = .ok (.iadd, 1) := by decide +kernel
theorem dX6_keepsOne_31 : decode cX6_keepsOne 31 = .ok (.aload_n 0, 1) := by decide +kernel
theorem dX6_keepsOne_32 : decode cX6_keepsOne 32 = .ok (.getfield 19, 3) := by decide +kernel
theorem dX6_keepsOne_35 : decode cX6_keepsOne 35 = .ok (.bipush 22, 2) := by decide +kernel
theorem dX6_keepsOne_37 : decode cX6_keepsOne 37 = .ok (.iload 4, 2) := by decide +kernel
theorem dX6_keepsOne_39 : decode cX6_keepsOne 39 = .ok (.iadd, 1) := by decide +kernel
theorem dX6_keepsOne_40 : decode cX6_keepsOne 40 = .ok (.iconst 3, 1) := by decide +kernel
theorem dX6_keepsOne_41 : decode cX6_keepsOne 41 = .ok (.iadd, 1) := by decide +kernel
theorem dX6_keepsOne_42 : decode cX6_keepsOne 42 = .ok (.iaload, 1) := by decide +kernel
theorem dX6_keepsOne_43 : decode cX6_keepsOne 43 = .ok (.iastore, 1) := by decide +kernel
theorem dX6_keepsOne_44 : decode cX6_keepsOne 44 = .ok (.iinc 4 1, 3) := by decide +kernel
theorem dX6_keepsOne_47 : decode cX6_keepsOne 47 = .ok (.goto (-32), 3) := by decide +kernel
theorem dX6_keepsOne_50 : decode cX6_keepsOne 50 = .ok (.aload_n 0, 1) := by decide +kernel
theorem dX6_keepsOne_51 : decode cX6_keepsOne 51 = .ok (.getfield 19, 3) := by decide +kernel
theorem dX6_keepsOne_54 : decode cX6_keepsOne 54 = .ok (.bipush 21, 2) := by decide +kernel
theorem dX6_keepsOne_56 : decode cX6_keepsOne 56 = .ok (.dup2, 1) := by decide +kernel
theorem dX6_keepsOne_57 : decode cX6_keepsOne 57 = .ok (.iaload, 1) := by decide +kernel
theorem dX6_keepsOne_58 : decode cX6_keepsOne 58 = .ok (.iconst 1, 1) := by decide +kernel
theorem dX6_keepsOne_59 : decode cX6_keepsOne 59 = .ok (.isub, 1) := by decide +kernel
theorem dX6_keepsOne_60 : decode cX6_keepsOne 60 = .ok (.iastore, 1) := by decide +kernel
theorem dX6_keepsOne_61 : decode cX6_keepsOne 61 = .ok (.bipush 22, 2) := by decide +kernel
theorem dX6_keepsOne_63 : decode cX6_keepsOne 63 = .ok (.iconst 3, 1) := by decide +kernel
theorem dX6_keepsOne_64 : decode cX6_keepsOne 64 = .ok (.aload_n 0, 1) := by decide +kernel
theorem dX6_keepsOne_65 : decode cX6_keepsOne 65 = .ok (.getfield 19, 3) := by decide +kernel
theorem dX6_keepsOne_68 : decode cX6_keepsOne 68 = .ok (.bipush 21, 2) := by decide +kernel
theorem dX6_keepsOne_70 : decode cX6_keepsOne 70 = .ok (.iaload, 1) := by decide +kernel
theorem dX6_keepsOne_71 : decode cX6_keepsOne 71 = .ok (.imul, 1) := by decide +kernel
theorem dX6_keepsOne_72 : decode cX6_keepsOne 72 = .ok (.iadd, 1) := by decide +kernel
theorem dX6_keepsOne_73 : decode cX6_keepsOne 73 = .ok (.istore 4, 2) := by decide +kernel
theorem dX6_keepsOne_75 : decode cX6_keepsOne 75 = .ok (.aload_n 0, 1) := by decide +kernel
theorem dX6_keepsOne_76 : decode cX6_keepsOne 76 = .ok (.getfield 19, 3) := by decide +kernel
theorem dX6_keepsOne_79 : decode cX6_keepsOne 79 = .ok (.iload 4, 2) := by decide +kernel
theorem dX6_keepsOne_81 : decode cX6_keepsOne 81 = .ok (.iload_n 1, 1) := by decide +kernel
theorem dX6_keepsOne_82 : decode cX6_keepsOne 82 = .ok (.iastore, 1) := by decide +kernel
theorem dX6_keepsOne_83 : decode cX6_keepsOne 83 = .ok (.aload_n 0, 1) := by decide +kernel
theorem dX6_keepsOne_84 : decode cX6_keepsOne 84 = .ok (.getfield 19, 3) := by decide +kernel
theorem dX6_keepsOne_87 : decode cX6_keepsOne 87 = .ok (.iload 4, 2) := by decide +kernel
theorem dX6_keepsOne_89 : decode cX6_keepsOne 89 = .ok (.iconst 1, 1) := by decide +kernel
theorem dX6_keepsOne_90 : decode cX6_keepsOne 90 = .ok (.iadd, 1) := by decide +kernel
theorem dX6_keepsOne_91 : decode cX6_keepsOne 91 = .ok (.iload_n 2, 1) := by decide +kernel
theorem dX6_keepsOne_92 : decode cX6_keepsOne 92 = .ok (.iastore, 1) := by decide +kernel
theorem dX6_keepsOne_93 : decode cX6_keepsOne 93 = .ok (.aload_n 0, 1) := by decide +kernel
theorem dX6_keepsOne_94 : decode cX6_keepsOne 94 = .ok (.getfield 19, 3) := by decide +kernel
theorem dX6_keepsOne_97 : decode cX6_keepsOne 97 = .ok (.iload 4, 2) := by decide +kernel
theorem dX6_keepsOne_99 : decode cX6_keepsOne 99 = .ok (.iconst 2, 1) := by decide +kernel
theorem dX6_keepsOne_100 : decode cX6_keepsOne 100 = .ok (.iadd, 1) := by decide +kernel
theorem dX6_keepsOne_101 : decode cX6_keepsOne 101 = .ok (.iload_n 3, 1) := by decide +kernel
theorem dX6_keepsOne_102 : decode cX6_keepsOne 102 = .ok (.iastore, 1) := by decide +kernel
theorem dX6_keepsOne_103 : decode cX6_keepsOne 103 = .ok (.aload_n 0, 1) := by decide +kernel
theorem dX6_keepsOne_104 : decode cX6_keepsOne 104 = .ok (.getfield 19, 3) := by decide +kernel
theorem dX6_keepsOne_107 : decode cX6_keepsOne 107 = .ok (.bipush 21, 2) := by decide +kernel
theorem dX6_keepsOne_109 : decode cX6_keepsOne 109 = .ok (.dup2, 1) := by decide +kernel
theorem dX6_keepsOne_110 : decode cX6_keepsOne 110 = .ok (.iaload, 1) := by decide +kernel
theorem dX6_keepsOne_111 : decode cX6_keepsOne 111 = .ok (.iconst 1, 1) := by decide +kernel
theorem dX6_keepsOne_112 : decode cX6_keepsOne 112 = .ok (.iadd, 1) := by decide +kernel
theorem dX6_keepsOne_113 : decode cX6_keepsOne 113 = .ok (.iastore, 1) := by decide +kernel
theorem dX6_keepsOne_114 : decode cX6_keepsOne 114 = .ok (.return_, 1) := by decide +kernel
set_option maxRecDepth 20000 in
theorem ggX6_passes_X6_drawnAt : GoodIn wsX6_passes wsX6_drawnAt := goodIn_r _ [7, 2, 8, 9, 10, 6, 11, 12, 13, 14, 15, 16, 17, 18, 19, 20, 21, 22, 23, 24, 25, 26, 27, 28, 33, 34, 35, 36, 37, 38, 39, 40, 41, 42, 43, 44, 45, 46, 47, 48, 49, 50, 51, 52, 53, 54, 55, 56, 57, 58, 59, 60, 61, 62, 63, 64, 65] (by decide +kernel) (by decide +kernel)
set_option maxRecDepth 20000 in
theorem gX6_passes_X6_drawnAt : GoodIn wsX6_passes (wsV RX6 175 RX6 yX6_drawnAt wsX6_drawnAt) := goodIn_app (goodIn_of _ (by decide +kernel)) ggX6_passes_X6_drawnAt
set_option maxRecDepth 20000 in
theorem ggX6_passes_X6_whoIsAt : GoodIn wsX6_passes wsX6_whoIsAt := goodIn_r _ [11, 12, 2, 33, 34, 35, 36, 37, 38, 39, 40, 41, 42, 43, 44, 45, 46, 47, 48, 49, 50, 51, 52, 53, 54, 55, 56, 57, 58, 59, 60, 61, 62, 63, 64, 65] (by decide +kernel) (by decide +kernel)
set_option maxRecDepth 20000 in
theorem gX6_passes_X6_whoIsAt : GoodIn wsX6_passes (wsV RX6 169 RX6 yX6_whoIsAt wsX6_whoIsAt) := goodIn_app (goodIn_of _ (by decide +kernel)) ggX6_passes_X6_whoIsAt
set_option maxRecDepth 20000 in
theorem ggX6_passes_X6_keepsOne : GoodIn wsX6_passes wsX6_keepsOne := goodIn_r _ [32, 2, 33, 34, 35, 36, 37, 38, 39, 40, 41, 42, 43, 44, 45, 46, 47, 48, 49, 50, 51, 52, 53, 54, 55, 56, 57, 58, 59, 60, 61, 62, 63, 64, 65] (by decide +kernel) (by decide +kernel)
set_option maxRecDepth 20000 in
theorem gX6_passes_X6_keepsOne : GoodIn wsX6_passes (wsV RX6 219 RX6 yX6_keepsOne wsX6_keepsOne) := goodIn_app (goodIn_of _ (by decide +kernel)) ggX6_passes_X6_keepsOne
theorem dX6_passes_0 : decode cX6_passes 0 = .ok (.iconst 0, 1) := by decide +kernel
theorem dX6_passes_1 : decode cX6_passes 1 = .ok (.istore_n 1, 1) := by decide +kernel
theorem dX6_passes_2 : decode cX6_passes 2 = .ok (.iload_n 1, 1) := by decide +kernel
theorem dX6_passes_3 : decode cX6_passes 3 = .ok (.aload_n 0, 1) := by decide +kernel
theorem dX6_passes_4 : decode cX6_passes 4 = .ok (.getfield 79, 3) := by decide +kernel
theorem dX6_passes_7 : decode cX6_passes 7 = .ok (.if_icmp .ge 30, 3) := by decide +kernel
theorem dX6_passes_10 : decode cX6_passes 10 = .ok (.aload_n 0, 1) := by decide +kernel
theorem dX6_passes_11 : decode cX6_passes 11 = .ok (.iload_n 1, 1) := by decide +kernel
theorem dX6_passes_12 : decode cX6_passes 12 = .ok (.invokevirtual 175, 3) := by decide +kernel
theorem dX6_passes_15 : decode cX6_passes 15 = .ok (.istore_n 2, 1) := by decide +kernel
theorem dX6_passes_16 : decode cX6_passes 16 = .ok (.iload_n 2, 1) := by decide +kernel
theorem dX6_passes_17 : decode cX6_passes 17 = .ok (.ifCond .eq 14, 3) := by decide +kernel
theorem dX6_passes_20 : decode cX6_passes 20 = .ok (.aload_n 0, 1) := by decide +kernel
theorem dX6_passes_21 : decode cX6_passes 21 = .ok (.iload_n 1, 1) := by decide +kernel
theorem dX6_passes_22 : decode cX6_passes 22 = .ok (.aload_n 0, 1) := by decide +kernel
theorem dX6_passes_23 : decode cX6_passes 23 = .ok (.iload_n 1, 1) := by decide +kernel
theorem dX6_passes_24 : decode cX6_passes 24 = .ok (.invokevirtual 169, 3) := by decide +kernel
theorem dX6_passes_27 : decode cX6_passes 27 = .ok (.iload_n 2, 1) := by decide +kernel
theorem dX6_passes_28 : decode cX6_passes 28 = .ok (.invokevirtual 219, 3) := by decide +kernel
theorem dX6_passes_31 : decode cX6_passes 31 = .ok (.iinc 1 1, 3) := by decide +kernel
theorem dX6_passes_34 : decode cX6_passes 34 = .ok (.goto (-32), 3) := by decide +kernel
theorem dX6_passes_37 : decode cX6_passes 37 = .ok (.aload_n 0, 1) := by decide +kernel
theorem dX6_passes_38 : decode cX6_passes 38 = .ok (.getfield 19, 3) := by decide +kernel
theorem dX6_passes_41 : decode cX6_passes 41 = .ok (.iconst 1, 1) := by decide +kernel
theorem dX6_passes_42 : decode cX6_passes 42 = .ok (.dup2, 1) := by decide +kernel
theorem dX6_passes_43 : decode cX6_passes 43 = .ok (.iaload, 1) := by decide +kernel
theorem dX6_passes_44 : decode cX6_passes 44 = .ok (.aload_n 0, 1) := by decide +kernel
theorem dX6_passes_45 : decode cX6_passes 45 = .ok (.getfield 19, 3) := by decide +kernel
theorem dX6_passes_48 : decode cX6_passes 48 = .ok (.iconst 1, 1) := by decide +kernel
theorem dX6_passes_49 : decode cX6_passes 49 = .ok (.iaload, 1) := by decide +kernel
theorem dX6_passes_50 : decode cX6_passes 50 = .ok (.ifCond .le 7, 3) := by decide +kernel
theorem dX6_passes_53 : decode cX6_passes 53 = .ok (.iconst (-1), 1) := by decide +kernel
theorem dX6_passes_54 : decode cX6_passes 54 = .ok (.goto 17, 3) := by decide +kernel
theorem dX6_passes_57 : decode cX6_passes 57 = .ok (.aload_n 0, 1) := by decide +kernel
theorem dX6_passes_58 : decode cX6_passes 58 = .ok (.getfield 19, 3) := by decide +kernel
theorem dX6_passes_61 : decode cX6_passes 61 = .ok (.iconst 1, 1) := by decide +kernel
theorem dX6_passes_62 : decode cX6_passes 62 = .ok (.iaload, 1) := by decide +kernel
theorem dX6_passes_63 : decode cX6_passes 63 = .ok (.ifCond .ge 7, 3) := by decide +kernel
theorem dX6_passes_66 : decode cX6_passes 66 = .ok (.iconst 1, 1) := by decide +kernel
theorem dX6_passes_67 : decode cX6_passes 67 = .ok (.goto 4, 3) := by decide +kernel
theorem dX6_passes_70 : decode cX6_passes 70 = .ok (.iconst 0, 1) := by decide +kernel
theorem dX6_passes_71 : decode cX6_passes 71 = .ok (.iadd, 1) := by decide +kernel
theorem dX6_passes_72 : decode cX6_passes 72 = .ok (.iastore, 1) := by decide +kernel
theorem dX6_passes_73 : decode cX6_passes 73 = .ok (.aload_n 0, 1) := by decide +kernel
theorem dX6_passes_74 : decode cX6_passes 74 = .ok (.getfield 19, 3) := by decide +kernel
theorem dX6_passes_77 : decode cX6_passes 77 = .ok (.iconst 2, 1) := by decide +kernel
theorem dX6_passes_78 : decode cX6_passes 78 = .ok (.iconst 0, 1) := by decide +kernel
theorem dX6_passes_79 : decode cX6_passes 79 = .ok (.iastore, 1) := by decide +kernel
theorem dX6_passes_80 : decode cX6_passes 80 = .ok (.aload_n 0, 1) := by decide +kernel
theorem dX6_passes_81 : decode cX6_passes 81 = .ok (.getfield 19, 3) := by decide +kernel
theorem dX6_passes_84 : decode cX6_passes 84 = .ok (.iconst 4, 1) := by decide +kernel
theorem dX6_passes_85 : decode cX6_passes 85 = .ok (.iconst 0, 1) := by decide +kernel
theorem dX6_passes_86 : decode cX6_passes 86 = .ok (.iastore, 1) := by decide +kernel
theorem dX6_passes_87 : decode cX6_passes 87 = .ok (.aload_n 0, 1) := by decide +kernel
theorem dX6_passes_88 : decode cX6_passes 88 = .ok (.getfield 19, 3) := by decide +kernel
theorem dX6_passes_91 : decode cX6_passes 91 = .ok (.iconst 5, 1) := by decide +kernel
theorem dX6_passes_92 : decode cX6_passes 92 = .ok (.iconst 0, 1) := by decide +kernel
theorem dX6_passes_93 : decode cX6_passes 93 = .ok (.iastore, 1) := by decide +kernel
theorem dX6_passes_94 : decode cX6_passes 94 = .ok (.aload_n 0, 1) := by decide +kernel
theorem dX6_passes_95 : decode cX6_passes 95 = .ok (.getfield 19, 3) := by decide +kernel
theorem dX6_passes_98 : decode cX6_passes 98 = .ok (.iconst 3, 1) := by decide +kernel
theorem dX6_passes_99 : decode cX6_passes 99 = .ok (.aload_n 0, 1) := by decide +kernel
theorem dX6_passes_100 : decode cX6_passes 100 = .ok (.getfield 19, 3) := by decide +kernel
theorem dX6_passes_103 : decode cX6_passes 103 = .ok (.iconst 0, 1) := by decide +kernel
theorem dX6_passes_104 : decode cX6_passes 104 = .ok (.iaload, 1) := by decide +kernel
theorem dX6_passes_105 : decode cX6_passes 105 = .ok (.iconst 3, 1) := by decide +kernel
theorem dX6_passes_106 : decode cX6_passes 106 = .ok (.irem, 1) := by decide +kernel
theorem dX6_passes_107 : decode cX6_passes 107 = .ok (.iconst 2, 1) := by decide +kernel
theorem dX6_passes_108 : decode cX6_passes 108 = .ok (.if_icmp .ne 7, 3) := by decide +kernel
theorem dX6_passes_111 : decode cX6_passes 111 = .ok (.iconst 0, 1) := by decide +kernel
theorem dX6_passes_112 : decode cX6_passes 112 = .ok (.goto 9, 3) := by decide +kernel
theorem dX6_passes_115 : decode cX6_passes 115 = .ok (.aload_n 0, 1) := by decide +kernel
theorem dX6_passes_116 : decode cX6_passes 116 = .ok (.getfield 19, 3) := by decide +kernel
theorem dX6_passes_119 : decode cX6_passes 119 = .ok (.iconst 3, 1) := by decide +kernel
theorem dX6_passes_120 : decode cX6_passes 120 = .ok (.iaload, 1) := by decide +kernel
theorem dX6_passes_121 : decode cX6_passes 121 = .ok (.iastore, 1) := by decide +kernel
theorem dX6_passes_122 : decode cX6_passes 122 = .ok (.aload_n 0, 1) := by decide +kernel
theorem dX6_passes_123 : decode cX6_passes 123 = .ok (.getfield 19, 3) := by decide +kernel
theorem dX6_passes_126 : decode cX6_passes 126 = .ok (.iconst 0, 1) := by decide +kernel
theorem dX6_passes_127 : decode cX6_passes 127 = .ok (.dup2, 1) := by decide +kernel
theorem dX6_passes_128 : decode cX6_passes 128 = .ok (.iaload, 1) := by decide +kernel
theorem dX6_passes_129 : decode cX6_passes 129 = .ok (.iconst 1, 1) := by decide +kernel
theorem dX6_passes_130 : decode cX6_passes 130 = .ok (.iadd, 1) := by decide +kernel
theorem dX6_passes_131 : decode cX6_passes 131 = .ok (.iastore, 1) := by decide +kernel
theorem dX6_passes_132 : decode cX6_passes 132 = .ok (.return_, 1) := by decide +kernel
set_option maxRecDepth 20000 in
theorem ggX6_dusksRefused_X6_in : GoodIn wsX6_dusksRefused wsX6_in := goodIn_r _ [9] (by decide +kernel) (by decide +kernel)
set_option maxRecDepth 20000 in
theorem gX6_dusksRefused_X6_in : GoodIn wsX6_dusksRefused (va_wsS RX6 75 yX6_in wsX6_in) := goodIn_app (goodIn_of _ (by decide +kernel)) ggX6_dusksRefused_X6_in
set_option maxRecDepth 20000 in
theorem ggX6_dusksRefused_X6_isCapital : GoodIn wsX6_dusksRefused wsX6_isCapital := goodIn_r _ [13, 14, 15, 16, 17, 18, 19, 20, 21, 22, 23, 24, 25, 26, 27, 28, 29, 30, 31, 32, 33, 34, 35, 36, 37, 38, 39, 40, 41, 42, 43, 44, 45, 46, 47] (by decide +kernel) (by decide +kernel)
set_option maxRecDepth 20000 in
theorem gX6_dusksRefused_X6_isCapital : GoodIn wsX6_dusksRefused (wsV RX6 211 RX6 yX6_isCapital wsX6_isCapital) := goodIn_app (goodIn_of _ (by decide +kernel)) ggX6_dusksRefused_X6_isCapital
theorem dX6_dusksRefused_0 : decode cX6_dusksRefused 0 = .ok (.iload_n 1, 1) := by decide +kernel
theorem dX6_dusksRefused_1 : decode cX6_dusksRefused 1 = .ok (.i2l, 1) := by decide +kernel
theorem dX6_dusksRefused_2 : decode cX6_dusksRefused 2 = .ok (.lconst 1, 1) := by decide +kernel
theorem dX6_dusksRefused_3 : decode cX6_dusksRefused 3 = .ok (.ldc2_w 223, 3) := by decide +kernel
theorem dX6_dusksRefused_6 : decode cX6_dusksRefused 6 = .ok (.invokestatic 75, 3) := by decide +kernel
theorem dX6_dusksRefused_9 : decode cX6_dusksRefused 9 = .ok (.ifCond .ne 6, 3) := by decide +kernel
theorem dX6_dusksRefused_12 : decode cX6_dusksRefused 12 = .ok (.ldc 84, 2) := by decide +kernel
theorem dX6_dusksRefused_14 : decode cX6_dusksRefused 14 = .ok (.ireturn, 1) := by decide +kernel
theorem dX6_dusksRefused_15 : decode cX6_dusksRefused 15 = .ok (.aload_n 0, 1) := by decide +kernel
theorem dX6_dusksRefused_16 : decode cX6_dusksRefused 16 = .ok (.invokevirtual 211, 3) := by decide +kernel
theorem dX6_dusksRefused_19 : decode cX6_dusksRefused 19 = .ok (.ifCond .ne 8, 3) := by decide +kernel
theorem dX6_dusksRefused_22 : decode cX6_dusksRefused 22 = .ok (.ldc 205, 2) := by decide +kernel
theorem dX6_dusksRefused_24 : decode cX6_dusksRefused 24 = .ok (.goto 21, 3) := by decide +kernel
theorem dX6_dusksRefused_27 : decode cX6_dusksRefused 27 = .ok (.aload_n 0, 1) := by decide +kernel
theorem dX6_dusksRefused_28 : decode cX6_dusksRefused 28 = .ok (.getfield 19, 3) := by decide +kernel
theorem dX6_dusksRefused_31 : decode cX6_dusksRefused 31 = .ok (.iconst 0, 1) := by decide +kernel
theorem dX6_dusksRefused_32 : decode cX6_dusksRefused 32 = .ok (.iaload, 1) := by decide +kernel
theorem dX6_dusksRefused_33 : decode cX6_dusksRefused 33 = .ok (.sipush 9000, 3) := by decide +kernel
theorem dX6_dusksRefused_36 : decode cX6_dusksRefused 36 = .ok (.if_icmp .le 8, 3) := by decide +kernel
theorem dX6_dusksRefused_39 : decode cX6_dusksRefused 39 = .ok (.ldc 88, 2) := by decide +kernel
theorem dX6_dusksRefused_41 : decode cX6_dusksRefused 41 = .ok (.goto 4, 3) := by decide +kernel
theorem dX6_dusksRefused_44 : decode cX6_dusksRefused 44 = .ok (.iconst 0, 1) := by decide +kernel
theorem dX6_dusksRefused_45 : decode cX6_dusksRefused 45 = .ok (.ireturn, 1) := by decide +kernel
set_option maxRecDepth 20000 in
theorem ggX6_dusk_X6_dusksRefused : GoodIn wsX6_dusk wsX6_dusksRefused := goodIn_r _ [6, 7, 8, 9, 1, 10, 11, 12, 5, 13, 14, 15, 16, 17, 18, 55, 56, 57, 58, 59, 60, 61, 62, 63, 64, 65, 66, 67, 68, 69, 70, 71, 72, 73, 74, 75, 76, 77, 78, 79, 80, 81, 82, 83, 84, 85, 86, 87] (by decide +kernel) (by decide +kernel)
set_option maxRecDepth 20000 in
theorem gX6_dusk_X6_dusksRefused : GoodIn wsX6_dusk (wsV RX6 225 RX6 yX6_dusksRefused wsX6_dusksRefused) := goodIn_app (goodIn_of _ (by decide +kernel)) ggX6_dusk_X6_dusksRefused
set_option maxRecDepth 20000 in
theorem ggX6_dusk_X6_remember : GoodIn wsX6_dusk wsX6_remember := goodIn_r _ [22, 23, 24, 1, 55, 56, 57, 58, 59, 60, 61, 62, 63, 64, 65, 66, 67, 68, 69, 70, 71, 72, 73, 74, 75, 76, 77, 78, 79, 80, 81, 82, 83, 84, 85, 86, 87] (by decide +kernel) (by decide +kernel)
set_option maxRecDepth 20000 in
theorem gX6_dusk_X6_remember : GoodIn wsX6_dusk (wsV RX6 206 RX6 yX6_remember wsX6_remember) := goodIn_app (goodIn_of _ (by decide +kernel)) ggX6_dusk_X6_remember
set_option maxRecDepth 20000 in
theorem ggX6_dusk_X6_passes : GoodIn wsX6_dusk wsX6_passes := goodIn_r _ [28, 29, 1, 30, 31, 32, 5, 33, 34, 35, 36, 37, 38, 39, 40, 41, 42, 43, 44, 45, 46, 18, 47, 48, 49, 50, 11, 12, 13, 51, 52, 53, 54, 55, 56, 57, 58, 59, 60, 61, 62, 63, 64, 65, 66, 67, 68, 69, 70, 71, 72, 73, 74, 75, 76, 77, 78, 79, 80, 81, 82, 83, 84, 85, 86, 87] (by decide +kernel) (by decide +kernel)
set_option maxRecDepth 20000 in
theorem gX6_dusk_X6_passes : GoodIn wsX6_dusk (wsV RX6 228 RX6 yX6_passes wsX6_passes) := goodIn_app (goodIn_of _ (by decide +kernel)) ggX6_dusk_X6_passes
theorem dX6_dusk_0 : decode cX6_dusk 0 = .ok (.aload_n 0, 1) := by decide +kernel
theorem dX6_dusk_1 : decode cX6_dusk 1 = .ok (.iload_n 1, 1) := by decide +kernel
theorem dX6_dusk_2 : decode cX6_dusk 2 = .ok (.invokevirtual 225, 3) := by decide +kernel
theorem dX6_dusk_5 : decode cX6_dusk 5 = .ok (.istore_n 2, 1) := by decide +kernel
theorem dX6_dusk_6 : decode cX6_dusk 6 = .ok (.iload_n 2, 1) := by decide +kernel
theorem dX6_dusk_7 : decode cX6_dusk 7 = .ok (.ifCond .eq 5, 3) := by decide +kernel
theorem dX6_dusk_10 : decode cX6_dusk 10 = .ok (.iload_n 2, 1) := by decide +kernel
theorem dX6_dusk_11 : decode cX6_dusk 11 = .ok (.ireturn, 1) := by decide +kernel
theorem dX6_dusk_12 : decode cX6_dusk 12 = .ok (.aload_n 0, 1) := by decide +kernel
theorem dX6_dusk_13 : decode cX6_dusk 13 = .ok (.invokevirtual 206, 3) := by decide +kernel
theorem dX6_dusk_16 : decode cX6_dusk 16 = .ok (.iconst 0, 1) := by decide +kernel
theorem dX6_dusk_17 : decode cX6_dusk 17 = .ok (.istore_n 3, 1) := by decide +kernel
theorem dX6_dusk_18 : decode cX6_dusk 18 = .ok (.iload_n 3, 1) := by decide +kernel
theorem dX6_dusk_19 : decode cX6_dusk 19 = .ok (.iload_n 1, 1) := by decide +kernel
theorem dX6_dusk_20 : decode cX6_dusk 20 = .ok (.if_icmp .ge 13, 3) := by decide +kernel
theorem dX6_dusk_23 : decode cX6_dusk 23 = .ok (.aload_n 0, 1) := by decide +kernel
theorem dX6_dusk_24 : decode cX6_dusk 24 = .ok (.invokevirtual 228, 3) := by decide +kernel
theorem dX6_dusk_27 : decode cX6_dusk 27 = .ok (.iinc 3 1, 3) := by decide +kernel
theorem dX6_dusk_30 : decode cX6_dusk 30 = .ok (.goto (-12), 3) := by decide +kernel
theorem dX6_dusk_33 : decode cX6_dusk 33 = .ok (.aload_n 0, 1) := by decide +kernel
theorem dX6_dusk_34 : decode cX6_dusk 34 = .ok (.getfield 19, 3) := by decide +kernel
theorem dX6_dusk_37 : decode cX6_dusk 37 = .ok (.bipush 21, 2) := by decide +kernel
theorem dX6_dusk_39 : decode cX6_dusk 39 = .ok (.iaload, 1) := by decide +kernel
theorem dX6_dusk_40 : decode cX6_dusk 40 = .ok (.ireturn, 1) := by decide +kernel
theorem dX6_draw_0 : decode cX6_draw 0 = .ok (.aload_n 0, 1) := by decide +kernel
theorem dX6_draw_1 : decode cX6_draw 1 = .ok (.aload_n 0, 1) := by decide +kernel
theorem dX6_draw_2 : decode cX6_draw 2 = .ok (.getfield 231, 3) := by decide +kernel
theorem dX6_draw_5 : decode cX6_draw 5 = .ok (.i2l, 1) := by decide +kernel
theorem dX6_draw_6 : decode cX6_draw 6 = .ok (.ldc2_w 234, 3) := by decide +kernel
theorem dX6_draw_9 : decode cX6_draw 9 = .ok (.lmul, 1) := by decide +kernel
theorem dX6_draw_10 : decode cX6_draw 10 = .ok (.ldc2_w 236, 3) := by decide +kernel
theorem dX6_draw_13 : decode cX6_draw 13 = .ok (.ladd, 1) := by decide +kernel
theorem dX6_draw_14 : decode cX6_draw 14 = .ok (.ldc2_w 238, 3) := by decide +kernel
theorem dX6_draw_17 : decode cX6_draw 17 = .ok (.lrem, 1) := by decide +kernel
theorem dX6_draw_18 : decode cX6_draw 18 = .ok (.l2i, 1) := by decide +kernel
theorem dX6_draw_19 : decode cX6_draw 19 = .ok (.putfield 231, 3) := by decide +kernel
theorem dX6_draw_22 : decode cX6_draw 22 = .ok (.aload_n 0, 1) := by decide +kernel
theorem dX6_draw_23 : decode cX6_draw 23 = .ok (.getfield 231, 3) := by decide +kernel
theorem dX6_draw_26 : decode cX6_draw 26 = .ok (.ldc 240, 2) := by decide +kernel
theorem dX6_draw_28 : decode cX6_draw 28 = .ok (.idiv, 1) := by decide +kernel
theorem dX6_draw_29 : decode cX6_draw 29 = .ok (.iload_n 1, 1) := by decide +kernel
theorem dX6_draw_30 : decode cX6_draw 30 = .ok (.irem, 1) := by decide +kernel
theorem dX6_draw_31 : decode cX6_draw 31 = .ok (.ireturn, 1) := by decide +kernel
set_option maxRecDepth 20000 in
theorem ggX6_chance_X6_draw : GoodIn wsX6_chance wsX6_draw := goodIn_r _ [8, 9, 10, 11, 12, 13, 18, 19, 20, 21, 22, 23, 24, 25, 26, 27, 28, 29, 30, 31, 32, 33, 34, 35, 36, 37, 38, 39, 40, 41, 42, 43, 44, 45, 46, 47, 48, 49, 50] (by decide +kernel) (by decide +kernel)
set_option maxRecDepth 20000 in
theorem gX6_chance_X6_draw : GoodIn wsX6_chance (wsV RX6 241 RX6 yX6_draw wsX6_draw) := goodIn_app (goodIn_of _ (by decide +kernel)) ggX6_chance_X6_draw
set_option maxRecDepth 20000 in
theorem ggX6_chance_X6_whoIsAt : GoodIn wsX6_chance wsX6_whoIsAt := goodIn_r _ [17, 2, 1, 18, 19, 20, 21, 22, 23, 24, 25, 26, 27, 28, 29, 30, 31, 32, 33, 34, 35, 36, 37, 38, 39, 40, 41, 42, 43, 44, 45, 46, 47, 48, 49, 50] (by decide +kernel) (by decide +kernel)
set_option maxRecDepth 20000 in
theorem gX6_chance_X6_whoIsAt : GoodIn wsX6_chance (wsV RX6 169 RX6 yX6_whoIsAt wsX6_whoIsAt) := goodIn_app (goodIn_of _ (by decide +kernel)) ggX6_chance_X6_whoIsAt
theorem dX6_chance_0 : decode cX6_chance 0 = .ok (.aload_n 0, 1) := by decide +kernel
theorem dX6_chance_1 : decode cX6_chance 1 = .ok (.bipush 6, 2) := by decide +kernel
theorem dX6_chance_3 : decode cX6_chance 3 = .ok (.invokevirtual 241, 3) := by decide +kernel
theorem dX6_chance_6 : decode cX6_chance 6 = .ok (.istore_n 1, 1) := by decide +kernel
theorem dX6_chance_7 : decode cX6_chance 7 = .ok (.iload_n 1, 1) := by decide +kernel
theorem dX6_chance_8 : decode cX6_chance 8 = .ok (.ifCond .ne 20, 3) := by decide +kernel
theorem dX6_chance_11 : decode cX6_chance 11 = .ok (.aload_n 0, 1) := by decide +kernel
theorem dX6_chance_12 : decode cX6_chance 12 = .ok (.getfield 19, 3) := by decide +kernel
theorem dX6_chance_15 : decode cX6_chance 15 = .ok (.iconst 1, 1) := by decide +kernel
theorem dX6_chance_16 : decode cX6_chance 16 = .ok (.aload_n 0, 1) := by decide +kernel
theorem dX6_chance_17 : decode cX6_chance 17 = .ok (.bipush 7, 2) := by decide +kernel
theorem dX6_chance_19 : decode cX6_chance 19 = .ok (.invokevirtual 241, 3) := by decide +kernel
theorem dX6_chance_22 : decode cX6_chance 22 = .ok (.iconst 3, 1) := by decide +kernel
theorem dX6_chance_23 : decode cX6_chance 23 = .ok (.isub, 1) := by decide +kernel
theorem dX6_chance_24 : decode cX6_chance 24 = .ok (.iastore, 1) := by decide +kernel
theorem dX6_chance_25 : decode cX6_chance 25 = .ok (.goto 131, 3) := by decide +kernel
theorem dX6_chance_28 : decode cX6_chance 28 = .ok (.iload_n 1, 1) := by decide +kernel
theorem dX6_chance_29 : decode cX6_chance 29 = .ok (.iconst 1, 1) := by decide +kernel
theorem dX6_chance_30 : decode cX6_chance 30 = .ok (.if_icmp .ne 18, 3) := by decide +kernel
theorem dX6_chance_33 : decode cX6_chance 33 = .ok (.aload_n 0, 1) := by decide +kernel
theorem dX6_chance_34 : decode cX6_chance 34 = .ok (.getfield 19, 3) := by decide +kernel
theorem dX6_chance_37 : decode cX6_chance 37 = .ok (.iconst 2, 1) := by decide +kernel
theorem dX6_chance_38 : decode cX6_chance 38 = .ok (.aload_n 0, 1) := by decide +kernel
theorem dX6_chance_39 : decode cX6_chance 39 = .ok (.bipush 64, 2) := by decide +kernel
theorem dX6_chance_41 : decode cX6_chance 41 = .ok (.invokevirtual 241, 3) := by decide +kernel
theorem dX6_chance_44 : decode cX6_chance 44 = .ok (.iastore, 1) := by decide +kernel
theorem dX6_chance_45 : decode cX6_chance 45 = .ok (.goto 111, 3) := by decide +kernel
theorem dX6_chance_48 : decode cX6_chance 48 = .ok (.iload_n 1, 1) := by decide +kernel
theorem dX6_chance_49 : decode cX6_chance 49 = .ok (.iconst 2, 1) := by decide +kernel
theorem dX6_chance_50 : decode cX6_chance 50 = .ok (.if_icmp .ne 23, 3) := by decide +kernel
theorem dX6_chance_53 : decode cX6_chance 53 = .ok (.aload_n 0, 1) := by decide +kernel
theorem dX6_chance_54 : decode cX6_chance 54 = .ok (.getfield 19, 3) := by decide +kernel
theorem dX6_chance_57 : decode cX6_chance 57 = .ok (.iconst 3, 1) := by decide +kernel
theorem dX6_chance_58 : decode cX6_chance 58 = .ok (.dup2, 1) := by decide +kernel
theorem dX6_chance_59 : decode cX6_chance 59 = .ok (.iaload, 1) := by decide +kernel
theorem dX6_chance_60 : decode cX6_chance 60 = .ok (.iconst 1, 1) := by decide +kernel
theorem dX6_chance_61 : decode cX6_chance 61 = .ok (.aload_n 0, 1) := by decide +kernel
theorem dX6_chance_62 : decode cX6_chance 62 = .ok (.bipush 30, 2) := by decide +kernel
theorem dX6_chance_64 : decode cX6_chance 64 = .ok (.invokevirtual 241, 3) := by decide +kernel
theorem dX6_chance_67 : decode cX6_chance 67 = .ok (.ishl, 1) := by decide +kernel
theorem dX6_chance_68 : decode cX6_chance 68 = .ok (.ior, 1) := by decide +kernel
theorem dX6_chance_69 : decode cX6_chance 69 = .ok (.iastore, 1) := by decide +kernel
theorem dX6_chance_70 : decode cX6_chance 70 = .ok (.goto 86, 3) := by decide +kernel
theorem dX6_chance_73 : decode cX6_chance 73 = .ok (.iload_n 1, 1) := by decide +kernel
theorem dX6_chance_74 : decode cX6_chance 74 = .ok (.iconst 3, 1) := by decide +kernel
theorem dX6_chance_75 : decode cX6_chance 75 = .ok (.if_icmp .ne 13, 3) := by decide +kernel
theorem dX6_chance_78 : decode cX6_chance 78 = .ok (.aload_n 0, 1) := by decide +kernel
theorem dX6_chance_79 : decode cX6_chance 79 = .ok (.getfield 19, 3) := by decide +kernel
theorem dX6_chance_82 : decode cX6_chance 82 = .ok (.iconst 4, 1) := by decide +kernel
theorem dX6_chance_83 : decode cX6_chance 83 = .ok (.iconst 1, 1) := by decide +kernel
theorem dX6_chance_84 : decode cX6_chance 84 = .ok (.iastore, 1) := by decide +kernel
theorem dX6_chance_85 : decode cX6_chance 85 = .ok (.goto 71, 3) := by decide +kernel
theorem dX6_chance_88 : decode cX6_chance 88 = .ok (.iload_n 1, 1) := by decide +kernel
theorem dX6_chance_89 : decode cX6_chance 89 = .ok (.iconst 4, 1) := by decide +kernel
theorem dX6_chance_90 : decode cX6_chance 90 = .ok (.if_icmp .ne 66, 3) := by decide +kernel
theorem dX6_chance_93 : decode cX6_chance 93 = .ok (.aload_n 0, 1) := by decide +kernel
theorem dX6_chance_94 : decode cX6_chance 94 = .ok (.getfield 72, 3) := by decide +kernel
theorem dX6_chance_97 : decode cX6_chance 97 = .ok (.ifCond .le 59, 3) := by decide +kernel
theorem dX6_chance_100 : decode cX6_chance 100 = .ok (.aload_n 0, 1) := by decide +kernel
theorem dX6_chance_101 : decode cX6_chance 101 = .ok (.getfield 79, 3) := by decide +kernel
theorem dX6_chance_104 : decode cX6_chance 104 = .ok (.ifCond .le 52, 3) := by decide +kernel
theorem dX6_chance_107 : decode cX6_chance 107 = .ok (.aload_n 0, 1) := by decide +kernel
theorem dX6_chance_108 : decode cX6_chance 108 = .ok (.aload_n 0, 1) := by decide +kernel
theorem dX6_chance_109 : decode cX6_chance 109 = .ok (.getfield 72, 3) := by decide +kernel
theorem dX6_chance_112 : decode cX6_chance 112 = .ok (.invokevirtual 241, 3) := by decide +kernel
theorem dX6_chance_115 : decode cX6_chance 115 = .ok (.istore_n 2, 1) := by decide +kernel
theorem dX6_chance_116 : decode cX6_chance 116 = .ok (.aload_n 0, 1) := by decide +kernel
theorem dX6_chance_117 : decode cX6_chance 117 = .ok (.aload_n 0, 1) := by decide +kernel
theorem dX6_chance_118 : decode cX6_chance 118 = .ok (.getfield 79, 3) := by decide +kernel
theorem dX6_chance_121 : decode cX6_chance 121 = .ok (.invokevirtual 241, 3) := by decide +kernel
theorem dX6_chance_124 : decode cX6_chance 124 = .ok (.istore_n 3, 1) := by decide +kernel
theorem dX6_chance_125 : decode cX6_chance 125 = .ok (.aload_n 0, 1) := by decide +kernel
theorem dX6_chance_126 : decode cX6_chance 126 = .ok (.getfield 19, 3) := by decide +kernel
theorem dX6_chance_129 : decode cX6_chance 129 = .ok (.bipush 6, 2) := by decide +kernel
theorem dX6_chance_131 : decode cX6_chance 131 = .ok (.iload_n 2, 1) := by decide +kernel
theorem dX6_chance_132 : decode cX6_chance 132 = .ok (.iadd, 1) := by decide +kernel
theorem dX6_chance_133 : decode cX6_chance 133 = .ok (.aload_n 0, 1) := by decide +kernel
theorem dX6_chance_134 : decode cX6_chance 134 = .ok (.iload_n 3, 1) := by decide +kernel
theorem dX6_chance_135 : decode cX6_chance 135 = .ok (.invokevirtual 169, 3) := by decide +kernel
theorem dX6_chance_138 : decode cX6_chance 138 = .ok (.iconst (-1), 1) := by decide +kernel
theorem dX6_chance_139 : decode cX6_chance 139 = .ok (.if_icmp .ne 7, 3) := by decide +kernel
theorem dX6_chance_142 : decode cX6_chance 142 = .ok (.iload_n 3, 1) := by decide +kernel
theorem dX6_chance_143 : decode cX6_chance 143 = .ok (.goto 12, 3) := by decide +kernel
theorem dX6_chance_146 : decode cX6_chance 146 = .ok (.aload_n 0, 1) := by decide +kernel
theorem dX6_chance_147 : decode cX6_chance 147 = .ok (.getfield 19, 3) := by decide +kernel
theorem dX6_chance_150 : decode cX6_chance 150 = .ok (.bipush 6, 2) := by decide +kernel
theorem dX6_chance_152 : decode cX6_chance 152 = .ok (.iload_n 2, 1) := by decide +kernel
theorem dX6_chance_153 : decode cX6_chance 153 = .ok (.iadd, 1) := by decide +kernel
theorem dX6_chance_154 : decode cX6_chance 154 = .ok (.iaload, 1) := by decide +kernel
theorem dX6_chance_155 : decode cX6_chance 155 = .ok (.iastore, 1) := by decide +kernel
theorem dX6_chance_156 : decode cX6_chance 156 = .ok (.return_, 1) := by decide +kernel
set_option maxRecDepth 20000 in
theorem ggX6_drift_X6_dusksRefused : GoodIn wsX6_drift wsX6_dusksRefused := goodIn_r _ [6, 7, 8, 9, 1, 10, 11, 12, 5, 13, 14, 15, 16, 17, 18, 68, 69, 70, 71, 72, 73, 74, 75, 76, 77, 78, 79, 80, 81, 82, 83, 84, 85, 86, 87, 88, 89, 90, 91, 92, 93, 94, 95, 96, 97, 98, 99, 100] (by decide +kernel) (by decide +kernel)
set_option maxRecDepth 20000 in
theorem gX6_drift_X6_dusksRefused : GoodIn wsX6_drift (wsV RX6 225 RX6 yX6_dusksRefused wsX6_dusksRefused) := goodIn_app (goodIn_of _ (by decide +kernel)) ggX6_drift_X6_dusksRefused
set_option maxRecDepth 20000 in
theorem ggX6_drift_X6_remember : GoodIn wsX6_drift wsX6_remember := goodIn_r _ [22, 23, 24, 1, 68, 69, 70, 71, 72, 73, 74, 75, 76, 77, 78, 79, 80, 81, 82, 83, 84, 85, 86, 87, 88, 89, 90, 91, 92, 93, 94, 95, 96, 97, 98, 99, 100] (by decide +kernel) (by decide +kernel)
set_option maxRecDepth 20000 in
theorem gX6_drift_X6_remember : GoodIn wsX6_drift (wsV RX6 206 RX6 yX6_remember wsX6_remember) := goodIn_app (goodIn_of _ (by decide +kernel)) ggX6_drift_X6_remember
set_option maxRecDepth 20000 in
theorem ggX6_drift_X6_chance : GoodIn wsX6_drift wsX6_chance := goodIn_r _ [28, 1, 29, 30, 31, 32, 33, 5, 34, 35, 36, 37, 38, 39, 40, 41, 42, 43, 68, 69, 70, 71, 72, 73, 74, 75, 76, 77, 78, 79, 80, 81, 82, 83, 84, 85, 86, 87, 88, 89, 90, 91, 92, 93, 94, 95, 96, 97, 98, 99, 100] (by decide +kernel) (by decide +kernel)
set_option maxRecDepth 20000 in
theorem gX6_drift_X6_chance : GoodIn wsX6_drift (wsV RX6 244 RX6 yX6_chance wsX6_chance) := goodIn_app (goodIn_of _ (by decide +kernel)) ggX6_drift_X6_chance
set_option maxRecDepth 20000 in
theorem ggX6_drift_X6_passes : GoodIn wsX6_drift wsX6_passes := goodIn_r _ [47, 30, 1, 48, 49, 50, 5, 51, 40, 41, 42, 43, 29, 52, 53, 54, 55, 56, 57, 58, 59, 18, 60, 61, 62, 63, 11, 12, 13, 64, 65, 66, 67, 68, 69, 70, 71, 72, 73, 74, 75, 76, 77, 78, 79, 80, 81, 82, 83, 84, 85, 86, 87, 88, 89, 90, 91, 92, 93, 94, 95, 96, 97, 98, 99, 100] (by decide +kernel) (by decide +kernel)
set_option maxRecDepth 20000 in
theorem gX6_drift_X6_passes : GoodIn wsX6_drift (wsV RX6 228 RX6 yX6_passes wsX6_passes) := goodIn_app (goodIn_of _ (by decide +kernel)) ggX6_drift_X6_passes
theorem dX6_drift_0 : decode cX6_drift 0 = .ok (.aload_n 0, 1) := by decide +kernel
theorem dX6_drift_1 : decode cX6_drift 1 = .ok (.iload_n 1, 1) := by decide +kernel
theorem dX6_drift_2 : decode cX6_drift 2 = .ok (.invokevirtual 225, 3) := by decide +kernel
theorem dX6_drift_5 : decode cX6_drift 5 = .ok (.istore_n 2, 1) := by decide +kernel
theorem dX6_drift_6 : decode cX6_drift 6 = .ok (.iload_n 2, 1) := by decide +kernel
theorem dX6_drift_7 : decode cX6_drift 7 = .ok (.ifCond .eq 5, 3) := by decide +kernel
theorem dX6_drift_10 : decode cX6_drift 10 = .ok (.iload_n 2, 1) := by decide +kernel
theorem dX6_drift_11 : decode cX6_drift 11 = .ok (.ireturn, 1) := by decide +kernel
theorem dX6_drift_12 : decode cX6_drift 12 = .ok (.aload_n 0, 1) := by decide +kernel
theorem dX6_drift_13 : decode cX6_drift 13 = .ok (.invokevirtual 206, 3) := by decide +kernel
theorem dX6_drift_16 : decode cX6_drift 16 = .ok (.iconst 0, 1) := by decide +kernel
theorem dX6_drift_17 : decode cX6_drift 17 = .ok (.istore_n 3, 1) := by decide +kernel
theorem dX6_drift_18 : decode cX6_drift 18 = .ok (.iload_n 3, 1) := by decide +kernel
theorem dX6_drift_19 : decode cX6_drift 19 = .ok (.iload_n 1, 1) := by decide +kernel
theorem dX6_drift_20 : decode cX6_drift 20 = .ok (.if_icmp .ge 17, 3) := by decide +kernel
theorem dX6_drift_23 : decode cX6_drift 23 = .ok (.aload_n 0, 1) := by decide +kernel
theorem dX6_drift_24 : decode cX6_drift 24 = .ok (.invokevirtual 244, 3) := by decide +kernel
theorem dX6_drift_27 : decode cX6_drift 27 = .ok (.aload_n 0, 1) := by decide +kernel
theorem dX6_drift_28 : decode cX6_drift 28 = .ok (.invokevirtual 228, 3) := by decide +kernel
theorem dX6_drift_31 : decode cX6_drift 31 = .ok (.iinc 3 1, 3) := by decide +kernel
theorem dX6_drift_34 : decode cX6_drift 34 = .ok (.goto (-16), 3) := by decide +kernel
theorem dX6_drift_37 : decode cX6_drift 37 = .ok (.aload_n 0, 1) := by decide +kernel
theorem dX6_drift_38 : decode cX6_drift 38 = .ok (.getfield 19, 3) := by decide +kernel
theorem dX6_drift_41 : decode cX6_drift 41 = .ok (.bipush 21, 2) := by decide +kernel
theorem dX6_drift_43 : decode cX6_drift 43 = .ok (.iaload, 1) := by decide +kernel
theorem dX6_drift_44 : decode cX6_drift 44 = .ok (.ireturn, 1) := by decide +kernel
theorem dX6_undo_0 : decode cX6_undo 0 = .ok (.aload_n 0, 1) := by decide +kernel
theorem dX6_undo_1 : decode cX6_undo 1 = .ok (.getfield 157, 3) := by decide +kernel
theorem dX6_undo_4 : decode cX6_undo 4 = .ok (.ifCond .ne 6, 3) := by decide +kernel
theorem dX6_undo_7 : decode cX6_undo 7 = .ok (.ldc 205, 2) := by decide +kernel
theorem dX6_undo_9 : decode cX6_undo 9 = .ok (.ireturn, 1) := by decide +kernel
theorem dX6_undo_10 : decode cX6_undo 10 = .ok (.aload_n 0, 1) := by decide +kernel
theorem dX6_undo_11 : decode cX6_undo 11 = .ok (.dup, 1) := by decide +kernel
theorem dX6_undo_12 : decode cX6_undo 12 = .ok (.getfield 157, 3) := by decide +kernel
theorem dX6_undo_15 : decode cX6_undo 15 = .ok (.iconst 1, 1) := by decide +kernel
theorem dX6_undo_16 : decode cX6_undo 16 = .ok (.isub, 1) := by decide +kernel
theorem dX6_undo_17 : decode cX6_undo 17 = .ok (.putfield 157, 3) := by decide +kernel
theorem dX6_undo_20 : decode cX6_undo 20 = .ok (.iconst 0, 1) := by decide +kernel
theorem dX6_undo_21 : decode cX6_undo 21 = .ok (.istore_n 1, 1) := by decide +kernel
theorem dX6_undo_22 : decode cX6_undo 22 = .ok (.iload_n 1, 1) := by decide +kernel
theorem dX6_undo_23 : decode cX6_undo 23 = .ok (.bipush 82, 2) := by decide +kernel
theorem dX6_undo_25 : decode cX6_undo 25 = .ok (.if_icmp .ge 29, 3) := by decide +kernel
theorem dX6_undo_28 : decode cX6_undo 28 = .ok (.aload_n 0, 1) := by decide +kernel
theorem dX6_undo_29 : decode cX6_undo 29 = .ok (.getfield 19, 3) := by decide +kernel
theorem dX6_undo_32 : decode cX6_undo 32 = .ok (.iload_n 1, 1) := by decide +kernel
theorem dX6_undo_33 : decode cX6_undo 33 = .ok (.aload_n 0, 1) := by decide +kernel
theorem dX6_undo_34 : decode cX6_undo 34 = .ok (.getfield 38, 3) := by decide +kernel
theorem dX6_undo_37 : decode cX6_undo 37 = .ok (.bipush 82, 2) := by decide +kernel
theorem dX6_undo_39 : decode cX6_undo 39 = .ok (.aload_n 0, 1) := by decide +kernel
theorem dX6_undo_40 : decode cX6_undo 40 = .ok (.getfield 157, 3) := by decide +kernel
theorem dX6_undo_43 : decode cX6_undo 43 = .ok (.imul, 1) := by decide +kernel
theorem dX6_undo_44 : decode cX6_undo 44 = .ok (.iload_n 1, 1) := by decide +kernel
theorem dX6_undo_45 : decode cX6_undo 45 = .ok (.iadd, 1) := by decide +kernel
theorem dX6_undo_46 : decode cX6_undo 46 = .ok (.iaload, 1) := by decide +kernel
theorem dX6_undo_47 : decode cX6_undo 47 = .ok (.iastore, 1) := by decide +kernel
theorem dX6_undo_48 : decode cX6_undo 48 = .ok (.iinc 1 1, 3) := by decide +kernel
theorem dX6_undo_51 : decode cX6_undo 51 = .ok (.goto (-29), 3) := by decide +kernel
theorem dX6_undo_54 : decode cX6_undo 54 = .ok (.aload_n 0, 1) := by decide +kernel
theorem dX6_undo_55 : decode cX6_undo 55 = .ok (.getfield 157, 3) := by decide +kernel
theorem dX6_undo_58 : decode cX6_undo 58 = .ok (.ireturn, 1) := by decide +kernel
set_option maxRecDepth 20000 in
theorem ggX6_like_X6_isSitter : GoodIn wsX6_like wsX6_isSitter := goodIn_r _ [8, 9, 10, 11, 7, 12, 21, 22, 23, 24, 25, 26, 27, 28, 29, 30, 31, 32, 33, 34, 35, 36, 37, 38, 39, 40, 41, 42, 43, 44, 45, 46, 47, 48, 49, 50, 51, 52, 53] (by decide +kernel) (by decide +kernel)
set_option maxRecDepth 20000 in
theorem gX6_like_X6_isSitter : GoodIn wsX6_like (wsV RX6 187 RX6 yX6_isSitter wsX6_isSitter) := goodIn_app (goodIn_of _ (by decide +kernel)) ggX6_like_X6_isSitter
set_option maxRecDepth 20000 in
theorem ggX6_like_X6_in : GoodIn wsX6_like wsX6_in := goodIn_r _ [12] (by decide +kernel) (by decide +kernel)
set_option maxRecDepth 20000 in
theorem gX6_like_X6_in : GoodIn wsX6_like (va_wsS RX6 75 yX6_in wsX6_in) := goodIn_app (goodIn_of _ (by decide +kernel)) ggX6_like_X6_in
set_option maxRecDepth 20000 in
theorem ggX6_like_X6_likeBy : GoodIn wsX6_like wsX6_likeBy := goodIn_r _ [16, 17, 18, 19, 7, 20, 21, 22, 23, 24, 25, 26, 27, 28, 29, 30, 31, 32, 33, 34, 35, 36, 37, 38, 39, 40, 41, 42, 43, 44, 45, 46, 47, 48, 49, 50, 51, 52, 53] (by decide +kernel) (by decide +kernel)
set_option maxRecDepth 20000 in
theorem gX6_like_X6_likeBy : GoodIn wsX6_like (wsV RX6 249 RX6 yX6_likeBy wsX6_likeBy) := goodIn_app (goodIn_of _ (by decide +kernel)) ggX6_like_X6_likeBy
theorem dX6_like_0 : decode cX6_like 0 = .ok (.aload_n 0, 1) := by decide +kernel
theorem dX6_like_1 : decode cX6_like 1 = .ok (.iload_n 1, 1) := by decide +kernel
theorem dX6_like_2 : decode cX6_like 2 = .ok (.invokevirtual 187, 3) := by decide +kernel
theorem dX6_like_5 : decode cX6_like 5 = .ok (.ifCond .ne 6, 3) := by decide +kernel
theorem dX6_like_8 : decode cX6_like 8 = .ok (.ldc 190, 2) := by decide +kernel
theorem dX6_like_10 : decode cX6_like 10 = .ok (.ireturn, 1) := by decide +kernel
theorem dX6_like_11 : decode cX6_like 11 = .ok (.iload_n 2, 1) := by decide +kernel
theorem dX6_like_12 : decode cX6_like 12 = .ok (.i2l, 1) := by decide +kernel
theorem dX6_like_13 : decode cX6_like 13 = .ok (.lconst 0, 1) := by decide +kernel
theorem dX6_like_14 : decode cX6_like 14 = .ok (.ldc2_w 247, 3) := by decide +kernel
theorem dX6_like_17 : decode cX6_like 17 = .ok (.invokestatic 75, 3) := by decide +kernel
theorem dX6_like_20 : decode cX6_like 20 = .ok (.ifCond .eq 12, 3) := by decide +kernel
theorem dX6_like_23 : decode cX6_like 23 = .ok (.aload_n 0, 1) := by decide +kernel
theorem dX6_like_24 : decode cX6_like 24 = .ok (.iload_n 1, 1) := by decide +kernel
theorem dX6_like_25 : decode cX6_like 25 = .ok (.iload_n 2, 1) := by decide +kernel
theorem dX6_like_26 : decode cX6_like 26 = .ok (.invokevirtual 249, 3) := by decide +kernel
theorem dX6_like_29 : decode cX6_like 29 = .ok (.goto 5, 3) := by decide +kernel
theorem dX6_like_32 : decode cX6_like 32 = .ok (.ldc 84, 2) := by decide +kernel
theorem dX6_like_34 : decode cX6_like 34 = .ok (.ireturn, 1) := by decide +kernel
set_option maxRecDepth 20000 in
theorem ggX6_seenAs_X6_in : GoodIn wsX6_seenAs wsX6_in := goodIn_r _ [7] (by decide +kernel) (by decide +kernel)
set_option maxRecDepth 20000 in
theorem gX6_seenAs_X6_in : GoodIn wsX6_seenAs (va_wsS RX6 75 yX6_in wsX6_in) := goodIn_app (goodIn_of _ (by decide +kernel)) ggX6_seenAs_X6_in
set_option maxRecDepth 20000 in
theorem ggX6_seenAs_X6_mostLike : GoodIn wsX6_seenAs wsX6_mostLike := goodIn_r _ [11, 12, 13, 14, 15, 6, 16, 17, 18, 19, 20, 21, 22, 23, 24, 25, 26, 27, 28, 29, 30, 31, 32, 33, 34, 35, 36, 37, 38, 39, 40, 41, 42, 43, 44, 45, 46, 47, 48, 49] (by decide +kernel) (by decide +kernel)
set_option maxRecDepth 20000 in
theorem gX6_seenAs_X6_mostLike : GoodIn wsX6_seenAs (wsV RX6 198 RX6 yX6_mostLike wsX6_mostLike) := goodIn_app (goodIn_of _ (by decide +kernel)) ggX6_seenAs_X6_mostLike
theorem dX6_seenAs_0 : decode cX6_seenAs 0 = .ok (.iload_n 1, 1) := by decide +kernel
theorem dX6_seenAs_1 : decode cX6_seenAs 1 = .ok (.i2l, 1) := by decide +kernel
theorem dX6_seenAs_2 : decode cX6_seenAs 2 = .ok (.lconst 0, 1) := by decide +kernel
theorem dX6_seenAs_3 : decode cX6_seenAs 3 = .ok (.ldc2_w 247, 3) := by decide +kernel
theorem dX6_seenAs_6 : decode cX6_seenAs 6 = .ok (.invokestatic 75, 3) := by decide +kernel
theorem dX6_seenAs_9 : decode cX6_seenAs 9 = .ok (.ifCond .eq 13, 3) := by decide +kernel
theorem dX6_seenAs_12 : decode cX6_seenAs 12 = .ok (.aload_n 0, 1) := by decide +kernel
theorem dX6_seenAs_13 : decode cX6_seenAs 13 = .ok (.iload_n 1, 1) := by decide +kernel
theorem dX6_seenAs_14 : decode cX6_seenAs 14 = .ok (.ldc 197, 2) := by decide +kernel
theorem dX6_seenAs_16 : decode cX6_seenAs 16 = .ok (.invokevirtual 198, 3) := by decide +kernel
theorem dX6_seenAs_19 : decode cX6_seenAs 19 = .ok (.goto 5, 3) := by decide +kernel
theorem dX6_seenAs_22 : decode cX6_seenAs 22 = .ok (.ldc 84, 2) := by decide +kernel
theorem dX6_seenAs_24 : decode cX6_seenAs 24 = .ok (.ireturn, 1) := by decide +kernel
set_option maxRecDepth 20000 in
theorem ggX6_bestLamp_X6_isWindow : GoodIn wsX6_bestLamp wsX6_isWindow := goodIn_r _ [8, 9, 10, 11, 7, 12, 38, 39, 40, 41, 42, 43, 44, 45, 46, 47, 48, 49, 50, 51, 52, 53, 54, 55, 56, 57, 58, 59, 60, 61, 62, 63, 64, 65, 66, 67, 68, 69, 70] (by decide +kernel) (by decide +kernel)
set_option maxRecDepth 20000 in
theorem gX6_bestLamp_X6_isWindow : GoodIn wsX6_bestLamp (wsV RX6 194 RX6 yX6_isWindow wsX6_isWindow) := goodIn_app (goodIn_of _ (by decide +kernel)) ggX6_bestLamp_X6_isWindow
set_option maxRecDepth 20000 in
theorem ggX6_bestLamp_X6_isSitter : GoodIn wsX6_bestLamp wsX6_isSitter := goodIn_r _ [16, 17, 10, 11, 7, 12, 38, 39, 40, 41, 42, 43, 44, 45, 46, 47, 48, 49, 50, 51, 52, 53, 54, 55, 56, 57, 58, 59, 60, 61, 62, 63, 64, 65, 66, 67, 68, 69, 70] (by decide +kernel) (by decide +kernel)
set_option maxRecDepth 20000 in
theorem gX6_bestLamp_X6_isSitter : GoodIn wsX6_bestLamp (wsV RX6 187 RX6 yX6_isSitter wsX6_isSitter) := goodIn_app (goodIn_of _ (by decide +kernel)) ggX6_bestLamp_X6_isSitter
set_option maxRecDepth 20000 in
theorem ggX6_bestLamp_X6_in : GoodIn wsX6_bestLamp wsX6_in := goodIn_r _ [12] (by decide +kernel) (by decide +kernel)
set_option maxRecDepth 20000 in
theorem gX6_bestLamp_X6_in : GoodIn wsX6_bestLamp (va_wsS RX6 75 yX6_in wsX6_in) := goodIn_app (goodIn_of _ (by decide +kernel)) ggX6_bestLamp_X6_in
set_option maxRecDepth 20000 in
theorem ggX6_bestLamp_X6_drawnBy : GoodIn wsX6_bestLamp wsX6_drawnBy := goodIn_r _ [21, 22, 3, 23, 24, 25, 7, 26, 27, 28, 29, 30, 10, 11, 12, 38, 39, 40, 41, 42, 43, 44, 45, 46, 47, 48, 49, 50, 51, 52, 53, 54, 55, 56, 57, 58, 59, 60, 61, 62, 63, 64, 65, 66, 67, 68, 69, 70] (by decide +kernel) (by decide +kernel)
set_option maxRecDepth 20000 in
theorem gX6_bestLamp_X6_drawnBy : GoodIn wsX6_bestLamp (wsV RX6 172 RX6 yX6_drawnBy wsX6_drawnBy) := goodIn_app (goodIn_of _ (by decide +kernel)) ggX6_bestLamp_X6_drawnBy
set_option maxRecDepth 20000 in
theorem ggX6_bestLamp_X6_likeBy : GoodIn wsX6_bestLamp wsX6_likeBy := goodIn_r _ [34, 22, 35, 36, 7, 37, 38, 39, 40, 41, 42, 43, 44, 45, 46, 47, 48, 49, 50, 51, 52, 53, 54, 55, 56, 57, 58, 59, 60, 61, 62, 63, 64, 65, 66, 67, 68, 69, 70] (by decide +kernel) (by decide +kernel)
set_option maxRecDepth 20000 in
theorem gX6_bestLamp_X6_likeBy : GoodIn wsX6_bestLamp (wsV RX6 249 RX6 yX6_likeBy wsX6_likeBy) := goodIn_app (goodIn_of _ (by decide +kernel)) ggX6_bestLamp_X6_likeBy
theorem dX6_bestLamp_0 : decode cX6_bestLamp 0 = .ok (.aload_n 0, 1) := by decide +kernel
theorem dX6_bestLamp_1 : decode cX6_bestLamp 1 = .ok (.iload_n 1, 1) := by decide +kernel
theorem dX6_bestLamp_2 : decode cX6_bestLamp 2 = .ok (.invokevirtual 194, 3) := by decide +kernel
theorem dX6_bestLamp_5 : decode cX6_bestLamp 5 = .ok (.ifCond .eq 11, 3) := by decide +kernel
theorem dX6_bestLamp_8 : decode cX6_bestLamp 8 = .ok (.aload_n 0, 1) := by decide +kernel
theorem dX6_bestLamp_9 : decode cX6_bestLamp 9 = .ok (.iload_n 2, 1) := by decide +kernel
theorem dX6_bestLamp_10 : decode cX6_bestLamp 10 = .ok (.invokevirtual 187, 3) := by decide +kernel
theorem dX6_bestLamp_13 : decode cX6_bestLamp 13 = .ok (.ifCond .ne 6, 3) := by decide +kernel
theorem dX6_bestLamp_16 : decode cX6_bestLamp 16 = .ok (.ldc 190, 2) := by decide +kernel
theorem dX6_bestLamp_18 : decode cX6_bestLamp 18 = .ok (.ireturn, 1) := by decide +kernel
theorem dX6_bestLamp_19 : decode cX6_bestLamp 19 = .ok (.iload_n 3, 1) := by decide +kernel
theorem dX6_bestLamp_20 : decode cX6_bestLamp 20 = .ok (.i2l, 1) := by decide +kernel
theorem dX6_bestLamp_21 : decode cX6_bestLamp 21 = .ok (.lconst 0, 1) := by decide +kernel
theorem dX6_bestLamp_22 : decode cX6_bestLamp 22 = .ok (.lconst 1, 1) := by decide +kernel
theorem dX6_bestLamp_23 : decode cX6_bestLamp 23 = .ok (.invokestatic 75, 3) := by decide +kernel
theorem dX6_bestLamp_26 : decode cX6_bestLamp 26 = .ok (.ifCond .ne 6, 3) := by decide +kernel
theorem dX6_bestLamp_29 : decode cX6_bestLamp 29 = .ok (.ldc 84, 2) := by decide +kernel
theorem dX6_bestLamp_31 : decode cX6_bestLamp 31 = .ok (.ireturn, 1) := by decide +kernel
theorem dX6_bestLamp_32 : decode cX6_bestLamp 32 = .ok (.iconst 0, 1) := by decide +kernel
theorem dX6_bestLamp_33 : decode cX6_bestLamp 33 = .ok (.istore 4, 2) := by decide +kernel
theorem dX6_bestLamp_35 : decode cX6_bestLamp 35 = .ok (.iconst (-1), 1) := by decide +kernel
theorem dX6_bestLamp_36 : decode cX6_bestLamp 36 = .ok (.istore 5, 2) := by decide +kernel
theorem dX6_bestLamp_38 : decode cX6_bestLamp 38 = .ok (.iconst 0, 1) := by decide +kernel
theorem dX6_bestLamp_39 : decode cX6_bestLamp 39 = .ok (.istore 6, 2) := by decide +kernel
theorem dX6_bestLamp_41 : decode cX6_bestLamp 41 = .ok (.iload 6, 2) := by decide +kernel
theorem dX6_bestLamp_43 : decode cX6_bestLamp 43 = .ok (.bipush 6, 2) := by decide +kernel
theorem dX6_bestLamp_45 : decode cX6_bestLamp 45 = .ok (.if_icmp .ge 62, 3) := by decide +kernel
theorem dX6_bestLamp_48 : decode cX6_bestLamp 48 = .ok (.aload_n 0, 1) := by decide +kernel
theorem dX6_bestLamp_49 : decode cX6_bestLamp 49 = .ok (.iload_n 2, 1) := by decide +kernel
theorem dX6_bestLamp_50 : decode cX6_bestLamp 50 = .ok (.aload_n 0, 1) := by decide +kernel
theorem dX6_bestLamp_51 : decode cX6_bestLamp 51 = .ok (.iload_n 2, 1) := by decide +kernel
theorem dX6_bestLamp_52 : decode cX6_bestLamp 52 = .ok (.iload 6, 2) := by decide +kernel
theorem dX6_bestLamp_54 : decode cX6_bestLamp 54 = .ok (.aload_n 0, 1) := by decide +kernel
theorem dX6_bestLamp_55 : decode cX6_bestLamp 55 = .ok (.getfield 19, 3) := by decide +kernel
theorem dX6_bestLamp_58 : decode cX6_bestLamp 58 = .ok (.iconst 1, 1) := by decide +kernel
theorem dX6_bestLamp_59 : decode cX6_bestLamp 59 = .ok (.iaload, 1) := by decide +kernel
theorem dX6_bestLamp_60 : decode cX6_bestLamp 60 = .ok (.iadd, 1) := by decide +kernel
theorem dX6_bestLamp_61 : decode cX6_bestLamp 61 = .ok (.invokevirtual 172, 3) := by decide +kernel
theorem dX6_bestLamp_64 : decode cX6_bestLamp 64 = .ok (.invokevirtual 249, 3) := by decide +kernel
theorem dX6_bestLamp_67 : decode cX6_bestLamp 67 = .ok (.istore 7, 2) := by decide +kernel
theorem dX6_bestLamp_69 : decode cX6_bestLamp 69 = .ok (.iload 7, 2) := by decide +kernel
theorem dX6_bestLamp_71 : decode cX6_bestLamp 71 = .ok (.iload 5, 2) := by decide +kernel
theorem dX6_bestLamp_73 : decode cX6_bestLamp 73 = .ok (.if_icmp .le 8, 3) := by decide +kernel
theorem dX6_bestLamp_76 : decode cX6_bestLamp 76 = .ok (.iload 6, 2) := by decide +kernel
theorem dX6_bestLamp_78 : decode cX6_bestLamp 78 = .ok (.goto 5, 3) := by decide +kernel
theorem dX6_bestLamp_81 : decode cX6_bestLamp 81 = .ok (.iload 4, 2) := by decide +kernel
theorem dX6_bestLamp_83 : decode cX6_bestLamp 83 = .ok (.istore 4, 2) := by decide +kernel
theorem dX6_bestLamp_85 : decode cX6_bestLamp 85 = .ok (.iload 7, 2) := by decide +kernel
theorem dX6_bestLamp_87 : decode cX6_bestLamp 87 = .ok (.iload 5, 2) := by decide +kernel
theorem dX6_bestLamp_89 : decode cX6_bestLamp 89 = .ok (.if_icmp .le 8, 3) := by decide +kernel
theorem dX6_bestLamp_92 : decode cX6_bestLamp 92 = .ok (.iload 7, 2) := by decide +kernel
theorem dX6_bestLamp_94 : decode cX6_bestLamp 94 = .ok (.goto 5, 3) := by decide +kernel
theorem dX6_bestLamp_97 : decode cX6_bestLamp 97 = .ok (.iload 5, 2) := by decide +kernel
theorem dX6_bestLamp_99 : decode cX6_bestLamp 99 = .ok (.istore 5, 2) := by decide +kernel
theorem dX6_bestLamp_101 : decode cX6_bestLamp 101 = .ok (.iinc 6 1, 3) := by decide +kernel
theorem dX6_bestLamp_104 : decode cX6_bestLamp 104 = .ok (.goto (-63), 3) := by decide +kernel
theorem dX6_bestLamp_107 : decode cX6_bestLamp 107 = .ok (.iload_n 3, 1) := by decide +kernel
theorem dX6_bestLamp_108 : decode cX6_bestLamp 108 = .ok (.ifCond .ne 8, 3) := by decide +kernel
theorem dX6_bestLamp_111 : decode cX6_bestLamp 111 = .ok (.iload 4, 2) := by decide +kernel
theorem dX6_bestLamp_113 : decode cX6_bestLamp 113 = .ok (.goto 5, 3) := by decide +kernel
theorem dX6_bestLamp_116 : decode cX6_bestLamp 116 = .ok (.iload 5, 2) := by decide +kernel
theorem dX6_bestLamp_118 : decode cX6_bestLamp 118 = .ok (.ireturn, 1) := by decide +kernel
set_option maxRecDepth 20000 in
theorem ggX6_who_X6_in : GoodIn wsX6_who wsX6_in := goodIn_r _ [9] (by decide +kernel) (by decide +kernel)
set_option maxRecDepth 20000 in
theorem gX6_who_X6_in : GoodIn wsX6_who (va_wsS RX6 75 yX6_in wsX6_in) := goodIn_app (goodIn_of _ (by decide +kernel)) ggX6_who_X6_in
set_option maxRecDepth 20000 in
theorem ggX6_who_X6_shifted : GoodIn wsX6_who wsX6_shifted := goodIn_r _ [12, 13, 14, 15, 8, 16, 6, 7, 9] (by decide +kernel) (by decide +kernel)
set_option maxRecDepth 20000 in
theorem gX6_who_X6_shifted : GoodIn wsX6_who (va_wsS RX6 166 yX6_shifted wsX6_shifted) := goodIn_app (goodIn_of _ (by decide +kernel)) ggX6_who_X6_shifted
theorem dX6_who_0 : decode cX6_who 0 = .ok (.iload_n 1, 1) := by decide +kernel
theorem dX6_who_1 : decode cX6_who 1 = .ok (.i2l, 1) := by decide +kernel
theorem dX6_who_2 : decode cX6_who 2 = .ok (.lconst 0, 1) := by decide +kernel
theorem dX6_who_3 : decode cX6_who 3 = .ok (.ldc2_w 247, 3) := by decide +kernel
theorem dX6_who_6 : decode cX6_who 6 = .ok (.invokestatic 75, 3) := by decide +kernel
theorem dX6_who_9 : decode cX6_who 9 = .ok (.ifCond .eq 15, 3) := by decide +kernel
theorem dX6_who_12 : decode cX6_who 12 = .ok (.iload_n 2, 1) := by decide +kernel
theorem dX6_who_13 : decode cX6_who 13 = .ok (.i2l, 1) := by decide +kernel
theorem dX6_who_14 : decode cX6_who 14 = .ok (.lconst 0, 1) := by decide +kernel
theorem dX6_who_15 : decode cX6_who 15 = .ok (.ldc2_w 201, 3) := by decide +kernel
theorem dX6_who_18 : decode cX6_who 18 = .ok (.invokestatic 75, 3) := by decide +kernel
theorem dX6_who_21 : decode cX6_who 21 = .ok (.ifCond .ne 6, 3) := by decide +kernel
theorem dX6_who_24 : decode cX6_who 24 = .ok (.ldc 84, 2) := by decide +kernel
theorem dX6_who_26 : decode cX6_who 26 = .ok (.ireturn, 1) := by decide +kernel
theorem dX6_who_27 : decode cX6_who 27 = .ok (.iconst 0, 1) := by decide +kernel
theorem dX6_who_28 : decode cX6_who 28 = .ok (.istore_n 3, 1) := by decide +kernel
theorem dX6_who_29 : decode cX6_who 29 = .ok (.iconst 0, 1) := by decide +kernel
theorem dX6_who_30 : decode cX6_who 30 = .ok (.istore 4, 2) := by decide +kernel
theorem dX6_who_32 : decode cX6_who 32 = .ok (.iconst (-1), 1) := by decide +kernel
theorem dX6_who_33 : decode cX6_who 33 = .ok (.istore 5, 2) := by decide +kernel
theorem dX6_who_35 : decode cX6_who 35 = .ok (.iconst 0, 1) := by decide +kernel
theorem dX6_who_36 : decode cX6_who 36 = .ok (.istore 6, 2) := by decide +kernel
theorem dX6_who_38 : decode cX6_who 38 = .ok (.iload 6, 2) := by decide +kernel
theorem dX6_who_40 : decode cX6_who 40 = .ok (.aload_n 0, 1) := by decide +kernel
theorem dX6_who_41 : decode cX6_who 41 = .ok (.getfield 72, 3) := by decide +kernel
theorem dX6_who_44 : decode cX6_who 44 = .ok (.if_icmp .ge 75, 3) := by decide +kernel
theorem dX6_who_47 : decode cX6_who 47 = .ok (.bipush (-3), 2) := by decide +kernel
theorem dX6_who_49 : decode cX6_who 49 = .ok (.istore 7, 2) := by decide +kernel
theorem dX6_who_51 : decode cX6_who 51 = .ok (.iload 7, 2) := by decide +kernel
theorem dX6_who_53 : decode cX6_who 53 = .ok (.bipush 8, 2) := by decide +kernel
theorem dX6_who_55 : decode cX6_who 55 = .ok (.if_icmp .gt 58, 3) := by decide +kernel
theorem dX6_who_58 : decode cX6_who 58 = .ok (.aload_n 0, 1) := by decide +kernel
theorem dX6_who_59 : decode cX6_who 59 = .ok (.getfield 7, 3) := by decide +kernel
theorem dX6_who_62 : decode cX6_who 62 = .ok (.iload 6, 2) := by decide +kernel
theorem dX6_who_64 : decode cX6_who 64 = .ok (.iaload, 1) := by decide +kernel
theorem dX6_who_65 : decode cX6_who 65 = .ok (.iload 7, 2) := by decide +kernel
theorem dX6_who_67 : decode cX6_who 67 = .ok (.invokestatic 166, 3) := by decide +kernel
theorem dX6_who_70 : decode cX6_who 70 = .ok (.iload_n 1, 1) := by decide +kernel
theorem dX6_who_71 : decode cX6_who 71 = .ok (.if_icmp .ne 36, 3) := by decide +kernel
theorem dX6_who_74 : decode cX6_who 74 = .ok (.iload_n 3, 1) := by decide +kernel
theorem dX6_who_75 : decode cX6_who 75 = .ok (.ifCond .ne 16, 3) := by decide +kernel
theorem dX6_who_78 : decode cX6_who 78 = .ok (.bipush 100, 2) := by decide +kernel
theorem dX6_who_80 : decode cX6_who 80 = .ok (.iload 6, 2) := by decide +kernel
theorem dX6_who_82 : decode cX6_who 82 = .ok (.imul, 1) := by decide +kernel
theorem dX6_who_83 : decode cX6_who 83 = .ok (.iload 7, 2) := by decide +kernel
theorem dX6_who_85 : decode cX6_who 85 = .ok (.iadd, 1) := by decide +kernel
theorem dX6_who_86 : decode cX6_who 86 = .ok (.iconst 3, 1) := by decide +kernel
theorem dX6_who_87 : decode cX6_who 87 = .ok (.iadd, 1) := by decide +kernel
theorem dX6_who_88 : decode cX6_who 88 = .ok (.goto 5, 3) := by decide +kernel
theorem dX6_who_91 : decode cX6_who 91 = .ok (.iload 5, 2) := by decide +kernel
theorem dX6_who_93 : decode cX6_who 93 = .ok (.istore 5, 2) := by decide +kernel
theorem dX6_who_95 : decode cX6_who 95 = .ok (.iload 4, 2) := by decide +kernel
theorem dX6_who_97 : decode cX6_who 97 = .ok (.iconst 1, 1) := by decide +kernel
theorem dX6_who_98 : decode cX6_who 98 = .ok (.iload 6, 2) := by decide +kernel
theorem dX6_who_100 : decode cX6_who 100 = .ok (.ishl, 1) := by decide +kernel
theorem dX6_who_101 : decode cX6_who 101 = .ok (.ior, 1) := by decide +kernel
theorem dX6_who_102 : decode cX6_who 102 = .ok (.istore 4, 2) := by decide +kernel
theorem dX6_who_104 : decode cX6_who 104 = .ok (.iinc 3 1, 3) := by decide +kernel
theorem dX6_who_107 : decode cX6_who 107 = .ok (.iinc 7 1, 3) := by decide +kernel
theorem dX6_who_110 : decode cX6_who 110 = .ok (.goto (-59), 3) := by decide +kernel
theorem dX6_who_113 : decode cX6_who 113 = .ok (.iinc 6 1, 3) := by decide +kernel
theorem dX6_who_116 : decode cX6_who 116 = .ok (.goto (-78), 3) := by decide +kernel
theorem dX6_who_119 : decode cX6_who 119 = .ok (.iload_n 2, 1) := by decide +kernel
theorem dX6_who_120 : decode cX6_who 120 = .ok (.ifCond .ne 7, 3) := by decide +kernel
theorem dX6_who_123 : decode cX6_who 123 = .ok (.iload_n 3, 1) := by decide +kernel
theorem dX6_who_124 : decode cX6_who 124 = .ok (.goto 15, 3) := by decide +kernel
theorem dX6_who_127 : decode cX6_who 127 = .ok (.iload_n 2, 1) := by decide +kernel
theorem dX6_who_128 : decode cX6_who 128 = .ok (.iconst 1, 1) := by decide +kernel
theorem dX6_who_129 : decode cX6_who 129 = .ok (.if_icmp .ne 8, 3) := by decide +kernel
theorem dX6_who_132 : decode cX6_who 132 = .ok (.iload 4, 2) := by decide +kernel
theorem dX6_who_134 : decode cX6_who 134 = .ok (.goto 5, 3) := by decide +kernel
theorem dX6_who_137 : decode cX6_who 137 = .ok (.iload 5, 2) := by decide +kernel
theorem dX6_who_139 : decode cX6_who 139 = .ok (.ireturn, 1) := by decide +kernel
set_option maxRecDepth 20000 in
theorem ggX6_parted_X6_in : GoodIn wsX6_parted wsX6_in := goodIn_r _ [8] (by decide +kernel) (by decide +kernel)
set_option maxRecDepth 20000 in
theorem gX6_parted_X6_in : GoodIn wsX6_parted (va_wsS RX6 75 yX6_in wsX6_in) := goodIn_app (goodIn_of _ (by decide +kernel)) ggX6_parted_X6_in
set_option maxRecDepth 20000 in
theorem ggX6_parted_X6_shifted : GoodIn wsX6_parted wsX6_shifted := goodIn_r _ [11, 12, 13, 14, 7, 15, 5, 6, 8] (by decide +kernel) (by decide +kernel)
set_option maxRecDepth 20000 in
theorem gX6_parted_X6_shifted : GoodIn wsX6_parted (va_wsS RX6 166 yX6_shifted wsX6_shifted) := goodIn_app (goodIn_of _ (by decide +kernel)) ggX6_parted_X6_shifted
theorem dX6_parted_0 : decode cX6_parted 0 = .ok (.iload_n 1, 1) := by decide +kernel
theorem dX6_parted_1 : decode cX6_parted 1 = .ok (.i2l, 1) := by decide +kernel
theorem dX6_parted_2 : decode cX6_parted 2 = .ok (.lconst 0, 1) := by decide +kernel
theorem dX6_parted_3 : decode cX6_parted 3 = .ok (.ldc2_w 247, 3) := by decide +kernel
theorem dX6_parted_6 : decode cX6_parted 6 = .ok (.invokestatic 75, 3) := by decide +kernel
theorem dX6_parted_9 : decode cX6_parted 9 = .ok (.ifCond .eq 13, 3) := by decide +kernel
theorem dX6_parted_12 : decode cX6_parted 12 = .ok (.iload_n 2, 1) := by decide +kernel
theorem dX6_parted_13 : decode cX6_parted 13 = .ok (.i2l, 1) := by decide +kernel
theorem dX6_parted_14 : decode cX6_parted 14 = .ok (.lconst 0, 1) := by decide +kernel
theorem dX6_parted_15 : decode cX6_parted 15 = .ok (.lconst 1, 1) := by decide +kernel
theorem dX6_parted_16 : decode cX6_parted 16 = .ok (.invokestatic 75, 3) := by decide +kernel
theorem dX6_parted_19 : decode cX6_parted 19 = .ok (.ifCond .ne 6, 3) := by decide +kernel
theorem dX6_parted_22 : decode cX6_parted 22 = .ok (.ldc 84, 2) := by decide +kernel
theorem dX6_parted_24 : decode cX6_parted 24 = .ok (.ireturn, 1) := by decide +kernel
theorem dX6_parted_25 : decode cX6_parted 25 = .ok (.iconst 0, 1) := by decide +kernel
theorem dX6_parted_26 : decode cX6_parted 26 = .ok (.istore_n 3, 1) := by decide +kernel
theorem dX6_parted_27 : decode cX6_parted 27 = .ok (.iconst (-1), 1) := by decide +kernel
theorem dX6_parted_28 : decode cX6_parted 28 = .ok (.istore 4, 2) := by decide +kernel
theorem dX6_parted_30 : decode cX6_parted 30 = .ok (.iconst 0, 1) := by decide +kernel
theorem dX6_parted_31 : decode cX6_parted 31 = .ok (.istore 5, 2) := by decide +kernel
theorem dX6_parted_33 : decode cX6_parted 33 = .ok (.iload 5, 2) := by decide +kernel
theorem dX6_parted_35 : decode cX6_parted 35 = .ok (.aload_n 0, 1) := by decide +kernel
theorem dX6_parted_36 : decode cX6_parted 36 = .ok (.getfield 72, 3) := by decide +kernel
theorem dX6_parted_39 : decode cX6_parted 39 = .ok (.if_icmp .ge 122, 3) := by decide +kernel
theorem dX6_parted_42 : decode cX6_parted 42 = .ok (.iload 5, 2) := by decide +kernel
theorem dX6_parted_44 : decode cX6_parted 44 = .ok (.iconst 1, 1) := by decide +kernel
theorem dX6_parted_45 : decode cX6_parted 45 = .ok (.iadd, 1) := by decide +kernel
theorem dX6_parted_46 : decode cX6_parted 46 = .ok (.istore 6, 2) := by decide +kernel
theorem dX6_parted_48 : decode cX6_parted 48 = .ok (.iload 6, 2) := by decide +kernel
theorem dX6_parted_50 : decode cX6_parted 50 = .ok (.aload_n 0, 1) := by decide +kernel
theorem dX6_parted_51 : decode cX6_parted 51 = .ok (.getfield 72, 3) := by decide +kernel
theorem dX6_parted_54 : decode cX6_parted 54 = .ok (.if_icmp .ge 101, 3) := by decide +kernel
theorem dX6_parted_57 : decode cX6_parted 57 = .ok (.iconst 0, 1) := by decide +kernel
theorem dX6_parted_58 : decode cX6_parted 58 = .ok (.istore 7, 2) := by decide +kernel
theorem dX6_parted_60 : decode cX6_parted 60 = .ok (.iload 7, 2) := by decide +kernel
theorem dX6_parted_62 : decode cX6_parted 62 = .ok (.bipush 36, 2) := by decide +kernel
theorem dX6_parted_64 : decode cX6_parted 64 = .ok (.if_icmp .ge 85, 3) := by decide +kernel
theorem dX6_parted_67 : decode cX6_parted 67 = .ok (.aload_n 0, 1) := by decide +kernel
theorem dX6_parted_68 : decode cX6_parted 68 = .ok (.getfield 7, 3) := by decide +kernel
theorem dX6_parted_71 : decode cX6_parted 71 = .ok (.iload 5, 2) := by decide +kernel
theorem dX6_parted_73 : decode cX6_parted 73 = .ok (.iaload, 1) := by decide +kernel
theorem dX6_parted_74 : decode cX6_parted 74 = .ok (.iload 7, 2) := by decide +kernel
theorem dX6_parted_76 : decode cX6_parted 76 = .ok (.bipush 6, 2) := by decide +kernel
theorem dX6_parted_78 : decode cX6_parted 78 = .ok (.idiv, 1) := by decide +kernel
theorem dX6_parted_79 : decode cX6_parted 79 = .ok (.invokestatic 166, 3) := by decide +kernel
theorem dX6_parted_82 : decode cX6_parted 82 = .ok (.aload_n 0, 1) := by decide +kernel
theorem dX6_parted_83 : decode cX6_parted 83 = .ok (.getfield 7, 3) := by decide +kernel
theorem dX6_parted_86 : decode cX6_parted 86 = .ok (.iload 6, 2) := by decide +kernel
theorem dX6_parted_88 : decode cX6_parted 88 = .ok (.iaload, 1) := by decide +kernel
theorem dX6_parted_89 : decode cX6_parted 89 = .ok (.iload 7, 2) := by decide +kernel
theorem dX6_parted_91 : decode cX6_parted 91 = .ok (.bipush 6, 2) := by decide +kernel
theorem dX6_parted_93 : decode cX6_parted 93 = .ok (.irem, 1) := by decide +kernel
theorem dX6_parted_94 : decode cX6_parted 94 = .ok (.invokestatic 166, 3) := by decide +kernel
theorem dX6_parted_97 : decode cX6_parted 97 = .ok (.ior, 1) := by decide +kernel
theorem dX6_parted_98 : decode cX6_parted 98 = .ok (.iload_n 1, 1) := by decide +kernel
theorem dX6_parted_99 : decode cX6_parted 99 = .ok (.if_icmp .ne 44, 3) := by decide +kernel
theorem dX6_parted_102 : decode cX6_parted 102 = .ok (.iload_n 3, 1) := by decide +kernel
theorem dX6_parted_103 : decode cX6_parted 103 = .ok (.ifCond .ne 33, 3) := by decide +kernel
theorem dX6_parted_106 : decode cX6_parted 106 = .ok (.sipush 1000, 3) := by decide +kernel
theorem dX6_parted_109 : decode cX6_parted 109 = .ok (.iload 5, 2) := by decide +kernel
theorem dX6_parted_111 : decode cX6_parted 111 = .ok (.imul, 1) := by decide +kernel
theorem dX6_parted_112 : decode cX6_parted 112 = .ok (.bipush 100, 2) := by decide +kernel
theorem dX6_parted_114 : decode cX6_parted 114 = .ok (.iload 6, 2) := by decide +kernel
theorem dX6_parted_116 : decode cX6_parted 116 = .ok (.imul, 1) := by decide +kernel
theorem dX6_parted_117 : decode cX6_parted 117 = .ok (.iadd, 1) := by decide +kernel
theorem dX6_parted_118 : decode cX6_parted 118 = .ok (.bipush 10, 2) := by decide +kernel
theorem dX6_parted_120 : decode cX6_parted 120 = .ok (.iload 7, 2) := by decide +kernel
theorem dX6_parted_122 : decode cX6_parted 122 = .ok (.bipush 6, 2) := by decide +kernel
theorem dX6_parted_124 : decode cX6_parted 124 = .ok (.idiv, 1) := by decide +kernel
theorem dX6_parted_125 : decode cX6_parted 125 = .ok (.imul, 1) := by decide +kernel
theorem dX6_parted_126 : decode cX6_parted 126 = .ok (.iadd, 1) := by decide +kernel
theorem dX6_parted_127 : decode cX6_parted 127 = .ok (.iload 7, 2) := by decide +kernel
theorem dX6_parted_129 : decode cX6_parted 129 = .ok (.bipush 6, 2) := by decide +kernel
theorem dX6_parted_131 : decode cX6_parted 131 = .ok (.irem, 1) := by decide +kernel
theorem dX6_parted_132 : decode cX6_parted 132 = .ok (.iadd, 1) := by decide +kernel
theorem dX6_parted_133 : decode cX6_parted 133 = .ok (.goto 5, 3) := by decide +kernel
theorem dX6_parted_136 : decode cX6_parted 136 = .ok (.iload 4, 2) := by decide +kernel
theorem dX6_parted_138 : decode cX6_parted 138 = .ok (.istore 4, 2) := by decide +kernel
theorem dX6_parted_140 : decode cX6_parted 140 = .ok (.iinc 3 1, 3) := by decide +kernel
theorem dX6_parted_143 : decode cX6_parted 143 = .ok (.iinc 7 1, 3) := by decide +kernel
theorem dX6_parted_146 : decode cX6_parted 146 = .ok (.goto (-86), 3) := by decide +kernel
theorem dX6_parted_149 : decode cX6_parted 149 = .ok (.iinc 6 1, 3) := by decide +kernel
theorem dX6_parted_152 : decode cX6_parted 152 = .ok (.goto (-104), 3) := by decide +kernel
theorem dX6_parted_155 : decode cX6_parted 155 = .ok (.iinc 5 1, 3) := by decide +kernel
theorem dX6_parted_158 : decode cX6_parted 158 = .ok (.goto (-125), 3) := by decide +kernel
theorem dX6_parted_161 : decode cX6_parted 161 = .ok (.iload_n 2, 1) := by decide +kernel
theorem dX6_parted_162 : decode cX6_parted 162 = .ok (.ifCond .ne 7, 3) := by decide +kernel
theorem dX6_parted_165 : decode cX6_parted 165 = .ok (.iload_n 3, 1) := by decide +kernel
theorem dX6_parted_166 : decode cX6_parted 166 = .ok (.goto 5, 3) := by decide +kernel
theorem dX6_parted_169 : decode cX6_parted 169 = .ok (.iload 4, 2) := by decide +kernel
theorem dX6_parted_171 : decode cX6_parted 171 = .ok (.ireturn, 1) := by decide +kernel
set_option maxRecDepth 20000 in
theorem ggX6_bestPlaces_X6_drawnBy : GoodIn wsX6_bestPlaces wsX6_drawnBy := goodIn_r _ [11, 12, 4, 13, 14, 15, 10, 16, 17, 18, 19, 20, 21, 22, 23, 24, 25, 26, 27, 28, 29, 30, 31, 32, 33, 34, 35, 36, 37, 38, 39, 40, 41, 42, 43, 44, 45, 46, 47, 48, 49, 50, 51, 52, 53, 54, 55, 56] (by decide +kernel) (by decide +kernel)
set_option maxRecDepth 20000 in
theorem gX6_bestPlaces_X6_drawnBy : GoodIn wsX6_bestPlaces (wsV RX6 172 RX6 yX6_drawnBy wsX6_drawnBy) := goodIn_app (goodIn_of _ (by decide +kernel)) ggX6_bestPlaces_X6_drawnBy
set_option maxRecDepth 20000 in
theorem ggX6_bestPlaces_X6_has : GoodIn wsX6_bestPlaces wsX6_has := goodIn_r _ [20] (by decide +kernel) (by decide +kernel)
set_option maxRecDepth 20000 in
theorem gX6_bestPlaces_X6_has : GoodIn wsX6_bestPlaces (va_wsS RX6 160 yX6_has wsX6_has) := goodIn_app (goodIn_of _ (by decide +kernel)) ggX6_bestPlaces_X6_has
theorem dX6_bestPlaces_0 : decode cX6_bestPlaces 0 = .ok (.iconst 0, 1) := by decide +kernel
theorem dX6_bestPlaces_1 : decode cX6_bestPlaces 1 = .ok (.istore_n 1, 1) := by decide +kernel
theorem dX6_bestPlaces_2 : decode cX6_bestPlaces 2 = .ok (.iload_n 1, 1) := by decide +kernel
theorem dX6_bestPlaces_3 : decode cX6_bestPlaces 3 = .ok (.aload_n 0, 1) := by decide +kernel
theorem dX6_bestPlaces_4 : decode cX6_bestPlaces 4 = .ok (.getfield 79, 3) := by decide +kernel
theorem dX6_bestPlaces_7 : decode cX6_bestPlaces 7 = .ok (.if_icmp .ge 57, 3) := by decide +kernel
theorem dX6_bestPlaces_10 : decode cX6_bestPlaces 10 = .ok (.iconst 0, 1) := by decide +kernel
theorem dX6_bestPlaces_11 : decode cX6_bestPlaces 11 = .ok (.istore_n 2, 1) := by decide +kernel
theorem dX6_bestPlaces_12 : decode cX6_bestPlaces 12 = .ok (.iload_n 2, 1) := by decide +kernel
theorem dX6_bestPlaces_13 : decode cX6_bestPlaces 13 = .ok (.aload_n 0, 1) := by decide +kernel
theorem dX6_bestPlaces_14 : decode cX6_bestPlaces 14 = .ok (.getfield 72, 3) := by decide +kernel
theorem dX6_bestPlaces_17 : decode cX6_bestPlaces 17 = .ok (.if_icmp .ge 41, 3) := by decide +kernel
theorem dX6_bestPlaces_20 : decode cX6_bestPlaces 20 = .ok (.aload_n 0, 1) := by decide +kernel
theorem dX6_bestPlaces_21 : decode cX6_bestPlaces 21 = .ok (.getfield 47, 3) := by decide +kernel
theorem dX6_bestPlaces_24 : decode cX6_bestPlaces 24 = .ok (.bipush 6, 2) := by decide +kernel
theorem dX6_bestPlaces_26 : decode cX6_bestPlaces 26 = .ok (.iload_n 1, 1) := by decide +kernel
theorem dX6_bestPlaces_27 : decode cX6_bestPlaces 27 = .ok (.imul, 1) := by decide +kernel
theorem dX6_bestPlaces_28 : decode cX6_bestPlaces 28 = .ok (.iload_n 2, 1) := by decide +kernel
theorem dX6_bestPlaces_29 : decode cX6_bestPlaces 29 = .ok (.iadd, 1) := by decide +kernel
theorem dX6_bestPlaces_30 : decode cX6_bestPlaces 30 = .ok (.aload_n 0, 1) := by decide +kernel
theorem dX6_bestPlaces_31 : decode cX6_bestPlaces 31 = .ok (.iload_n 2, 1) := by decide +kernel
theorem dX6_bestPlaces_32 : decode cX6_bestPlaces 32 = .ok (.aload_n 0, 1) := by decide +kernel
theorem dX6_bestPlaces_33 : decode cX6_bestPlaces 33 = .ok (.getfield 19, 3) := by decide +kernel
theorem dX6_bestPlaces_36 : decode cX6_bestPlaces 36 = .ok (.bipush 12, 2) := by decide +kernel
theorem dX6_bestPlaces_38 : decode cX6_bestPlaces 38 = .ok (.iload_n 1, 1) := by decide +kernel
theorem dX6_bestPlaces_39 : decode cX6_bestPlaces 39 = .ok (.iadd, 1) := by decide +kernel
theorem dX6_bestPlaces_40 : decode cX6_bestPlaces 40 = .ok (.iaload, 1) := by decide +kernel
theorem dX6_bestPlaces_41 : decode cX6_bestPlaces 41 = .ok (.aload_n 0, 1) := by decide +kernel
theorem dX6_bestPlaces_42 : decode cX6_bestPlaces 42 = .ok (.getfield 19, 3) := by decide +kernel
theorem dX6_bestPlaces_45 : decode cX6_bestPlaces 45 = .ok (.iconst 1, 1) := by decide +kernel
theorem dX6_bestPlaces_46 : decode cX6_bestPlaces 46 = .ok (.iaload, 1) := by decide +kernel
theorem dX6_bestPlaces_47 : decode cX6_bestPlaces 47 = .ok (.iadd, 1) := by decide +kernel
theorem dX6_bestPlaces_48 : decode cX6_bestPlaces 48 = .ok (.invokevirtual 172, 3) := by decide +kernel
theorem dX6_bestPlaces_51 : decode cX6_bestPlaces 51 = .ok (.iastore, 1) := by decide +kernel
theorem dX6_bestPlaces_52 : decode cX6_bestPlaces 52 = .ok (.iinc 2 1, 3) := by decide +kernel
theorem dX6_bestPlaces_55 : decode cX6_bestPlaces 55 = .ok (.goto (-43), 3) := by decide +kernel
theorem dX6_bestPlaces_58 : decode cX6_bestPlaces 58 = .ok (.iinc 1 1, 3) := by decide +kernel
theorem dX6_bestPlaces_61 : decode cX6_bestPlaces 61 = .ok (.goto (-59), 3) := by decide +kernel
theorem dX6_bestPlaces_64 : decode cX6_bestPlaces 64 = .ok (.iconst (-1), 1) := by decide +kernel
theorem dX6_bestPlaces_65 : decode cX6_bestPlaces 65 = .ok (.istore_n 1, 1) := by decide +kernel
theorem dX6_bestPlaces_66 : decode cX6_bestPlaces 66 = .ok (.iconst 0, 1) := by decide +kernel
theorem dX6_bestPlaces_67 : decode cX6_bestPlaces 67 = .ok (.istore_n 2, 1) := by decide +kernel
theorem dX6_bestPlaces_68 : decode cX6_bestPlaces 68 = .ok (.aload_n 0, 1) := by decide +kernel
theorem dX6_bestPlaces_69 : decode cX6_bestPlaces 69 = .ok (.getfield 41, 3) := by decide +kernel
theorem dX6_bestPlaces_72 : decode cX6_bestPlaces 72 = .ok (.iconst 0, 1) := by decide +kernel
theorem dX6_bestPlaces_73 : decode cX6_bestPlaces 73 = .ok (.iconst (-1), 1) := by decide +kernel
theorem dX6_bestPlaces_74 : decode cX6_bestPlaces 74 = .ok (.iastore, 1) := by decide +kernel
theorem dX6_bestPlaces_75 : decode cX6_bestPlaces 75 = .ok (.iload_n 2, 1) := by decide +kernel
theorem dX6_bestPlaces_76 : decode cX6_bestPlaces 76 = .ok (.ifCond .lt 291, 3) := by decide +kernel
theorem dX6_bestPlaces_79 : decode cX6_bestPlaces 79 = .ok (.iconst 0, 1) := by decide +kernel
theorem dX6_bestPlaces_80 : decode cX6_bestPlaces 80 = .ok (.istore_n 3, 1) := by decide +kernel
theorem dX6_bestPlaces_81 : decode cX6_bestPlaces 81 = .ok (.iconst 0, 1) := by decide +kernel
theorem dX6_bestPlaces_82 : decode cX6_bestPlaces 82 = .ok (.istore 4, 2) := by decide +kernel
theorem dX6_bestPlaces_84 : decode cX6_bestPlaces 84 = .ok (.iconst 0, 1) := by decide +kernel
theorem dX6_bestPlaces_85 : decode cX6_bestPlaces 85 = .ok (.istore 5, 2) := by decide +kernel
theorem dX6_bestPlaces_87 : decode cX6_bestPlaces 87 = .ok (.iconst 0, 1) := by decide +kernel
theorem dX6_bestPlaces_88 : decode cX6_bestPlaces 88 = .ok (.istore 6, 2) := by decide +kernel
theorem dX6_bestPlaces_90 : decode cX6_bestPlaces 90 = .ok (.iload 6, 2) := by decide +kernel
theorem dX6_bestPlaces_92 : decode cX6_bestPlaces 92 = .ok (.iload_n 2, 1) := by decide +kernel
theorem dX6_bestPlaces_93 : decode cX6_bestPlaces 93 = .ok (.if_icmp .ge 98, 3) := by decide +kernel
theorem dX6_bestPlaces_96 : decode cX6_bestPlaces 96 = .ok (.aload_n 0, 1) := by decide +kernel
theorem dX6_bestPlaces_97 : decode cX6_bestPlaces 97 = .ok (.getfield 41, 3) := by decide +kernel
theorem dX6_bestPlaces_100 : decode cX6_bestPlaces 100 = .ok (.iload 6, 2) := by decide +kernel
theorem dX6_bestPlaces_102 : decode cX6_bestPlaces 102 = .ok (.iaload, 1) := by decide +kernel
theorem dX6_bestPlaces_103 : decode cX6_bestPlaces 103 = .ok (.aload_n 0, 1) := by decide +kernel
theorem dX6_bestPlaces_104 : decode cX6_bestPlaces 104 = .ok (.getfield 72, 3) := by decide +kernel
theorem dX6_bestPlaces_107 : decode cX6_bestPlaces 107 = .ok (.if_icmp .ge 7, 3) := by decide +kernel
theorem dX6_bestPlaces_110 : decode cX6_bestPlaces 110 = .ok (.iconst 1, 1) := by decide +kernel
theorem dX6_bestPlaces_111 : decode cX6_bestPlaces 111 = .ok (.goto 4, 3) := by decide +kernel
theorem dX6_bestPlaces_114 : decode cX6_bestPlaces 114 = .ok (.iconst 0, 1) := by decide +kernel
theorem dX6_bestPlaces_115 : decode cX6_bestPlaces 115 = .ok (.istore 7, 2) := by decide +kernel
theorem dX6_bestPlaces_117 : decode cX6_bestPlaces 117 = .ok (.iload_n 3, 1) := by decide +kernel
theorem dX6_bestPlaces_118 : decode cX6_bestPlaces 118 = .ok (.iload 7, 2) := by decide +kernel
theorem dX6_bestPlaces_120 : decode cX6_bestPlaces 120 = .ok (.ifCond .eq 15, 3) := by decide +kernel
theorem dX6_bestPlaces_123 : decode cX6_bestPlaces 123 = .ok (.iconst 1, 1) := by decide +kernel
theorem dX6_bestPlaces_124 : decode cX6_bestPlaces 124 = .ok (.aload_n 0, 1) := by decide +kernel
theorem dX6_bestPlaces_125 : decode cX6_bestPlaces 125 = .ok (.getfield 41, 3) := by decide +kernel
theorem dX6_bestPlaces_128 : decode cX6_bestPlaces 128 = .ok (.iload 6, 2) := by decide +kernel
theorem dX6_bestPlaces_130 : decode cX6_bestPlaces 130 = .ok (.iaload, 1) := by decide +kernel
theorem dX6_bestPlaces_131 : decode cX6_bestPlaces 131 = .ok (.ishl, 1) := by decide +kernel
theorem dX6_bestPlaces_132 : decode cX6_bestPlaces 132 = .ok (.goto 4, 3) := by decide +kernel
theorem dX6_bestPlaces_135 : decode cX6_bestPlaces 135 = .ok (.iconst 0, 1) := by decide +kernel
theorem dX6_bestPlaces_136 : decode cX6_bestPlaces 136 = .ok (.ior, 1) := by decide +kernel
theorem dX6_bestPlaces_137 : decode cX6_bestPlaces 137 = .ok (.istore_n 3, 1) := by decide +kernel
theorem dX6_bestPlaces_138 : decode cX6_bestPlaces 138 = .ok (.iload 4, 2) := by decide +kernel
theorem dX6_bestPlaces_140 : decode cX6_bestPlaces 140 = .ok (.iload 7, 2) := by decide +kernel
theorem dX6_bestPlaces_142 : decode cX6_bestPlaces 142 = .ok (.ifCond .eq 24, 3) := by decide +kernel
theorem dX6_bestPlaces_145 : decode cX6_bestPlaces 145 = .ok (.aload_n 0, 1) := by decide +kernel
theorem dX6_bestPlaces_146 : decode cX6_bestPlaces 146 = .ok (.getfield 47, 3) := by decide +kernel
theorem dX6_bestPlaces_149 : decode cX6_bestPlaces 149 = .ok (.bipush 6, 2) := by decide +kernel
theorem dX6_bestPlaces_151 : decode cX6_bestPlaces 151 = .ok (.iload 6, 2) := by decide +kernel
theorem dX6_bestPlaces_153 : decode cX6_bestPlaces 153 = .ok (.imul, 1) := by decide +kernel
theorem dX6_bestPlaces_154 : decode cX6_bestPlaces 154 = .ok (.aload_n 0, 1) := by decide +kernel
theorem dX6_bestPlaces_155 : decode cX6_bestPlaces 155 = .ok (.getfield 41, 3) := by decide +kernel
theorem dX6_bestPlaces_158 : decode cX6_bestPlaces 158 = .ok (.iload 6, 2) := by decide +kernel
theorem dX6_bestPlaces_160 : decode cX6_bestPlaces 160 = .ok (.iaload, 1) := by decide +kernel
theorem dX6_bestPlaces_161 : decode cX6_bestPlaces 161 = .ok (.iadd, 1) := by decide +kernel
theorem dX6_bestPlaces_162 : decode cX6_bestPlaces 162 = .ok (.iaload, 1) := by decide +kernel
theorem dX6_bestPlaces_163 : decode cX6_bestPlaces 163 = .ok (.goto 4, 3) := by decide +kernel
theorem dX6_bestPlaces_166 : decode cX6_bestPlaces 166 = .ok (.iconst 0, 1) := by decide +kernel
theorem dX6_bestPlaces_167 : decode cX6_bestPlaces 167 = .ok (.ior, 1) := by decide +kernel
theorem dX6_bestPlaces_168 : decode cX6_bestPlaces 168 = .ok (.istore 4, 2) := by decide +kernel
theorem dX6_bestPlaces_170 : decode cX6_bestPlaces 170 = .ok (.iload 5, 2) := by decide +kernel
theorem dX6_bestPlaces_172 : decode cX6_bestPlaces 172 = .ok (.iload 7, 2) := by decide +kernel
theorem dX6_bestPlaces_174 : decode cX6_bestPlaces 174 = .ok (.ifCond .eq 7, 3) := by decide +kernel
theorem dX6_bestPlaces_177 : decode cX6_bestPlaces 177 = .ok (.iconst 1, 1) := by decide +kernel
theorem dX6_bestPlaces_178 : decode cX6_bestPlaces 178 = .ok (.goto 4, 3) := by decide +kernel
theorem dX6_bestPlaces_181 : decode cX6_bestPlaces 181 = .ok (.iconst 0, 1) := by decide +kernel
theorem dX6_bestPlaces_182 : decode cX6_bestPlaces 182 = .ok (.iadd, 1) := by decide +kernel
theorem dX6_bestPlaces_183 : decode cX6_bestPlaces 183 = .ok (.istore 5, 2) := by decide +kernel
theorem dX6_bestPlaces_185 : decode cX6_bestPlaces 185 = .ok (.iinc 6 1, 3) := by decide +kernel
theorem dX6_bestPlaces_188 : decode cX6_bestPlaces 188 = .ok (.goto (-98), 3) := by decide +kernel
theorem dX6_bestPlaces_191 : decode cX6_bestPlaces 191 = .ok (.iload_n 2, 1) := by decide +kernel
theorem dX6_bestPlaces_192 : decode cX6_bestPlaces 192 = .ok (.aload_n 0, 1) := by decide +kernel
theorem dX6_bestPlaces_193 : decode cX6_bestPlaces 193 = .ok (.getfield 79, 3) := by decide +kernel
theorem dX6_bestPlaces_196 : decode cX6_bestPlaces 196 = .ok (.if_icmp .ne 68, 3) := by decide +kernel
theorem dX6_bestPlaces_199 : decode cX6_bestPlaces 199 = .ok (.iload 5, 2) := by decide +kernel
theorem dX6_bestPlaces_201 : decode cX6_bestPlaces 201 = .ok (.iload_n 1, 1) := by decide +kernel
theorem dX6_bestPlaces_202 : decode cX6_bestPlaces 202 = .ok (.if_icmp .le 56, 3) := by decide +kernel
theorem dX6_bestPlaces_205 : decode cX6_bestPlaces 205 = .ok (.iload 5, 2) := by decide +kernel
theorem dX6_bestPlaces_207 : decode cX6_bestPlaces 207 = .ok (.istore_n 1, 1) := by decide +kernel
theorem dX6_bestPlaces_208 : decode cX6_bestPlaces 208 = .ok (.iconst 0, 1) := by decide +kernel
theorem dX6_bestPlaces_209 : decode cX6_bestPlaces 209 = .ok (.istore 6, 2) := by decide +kernel
theorem dX6_bestPlaces_211 : decode cX6_bestPlaces 211 = .ok (.iload 6, 2) := by decide +kernel
theorem dX6_bestPlaces_213 : decode cX6_bestPlaces 213 = .ok (.aload_n 0, 1) := by decide +kernel
theorem dX6_bestPlaces_214 : decode cX6_bestPlaces 214 = .ok (.getfield 79, 3) := by decide +kernel
theorem dX6_bestPlaces_217 : decode cX6_bestPlaces 217 = .ok (.if_icmp .ge 41, 3) := by decide +kernel
theorem dX6_bestPlaces_220 : decode cX6_bestPlaces 220 = .ok (.aload_n 0, 1) := by decide +kernel
theorem dX6_bestPlaces_221 : decode cX6_bestPlaces 221 = .ok (.getfield 44, 3) := by decide +kernel
theorem dX6_bestPlaces_224 : decode cX6_bestPlaces 224 = .ok (.iload 6, 2) := by decide +kernel
theorem dX6_bestPlaces_226 : decode cX6_bestPlaces 226 = .ok (.aload_n 0, 1) := by decide +kernel
theorem dX6_bestPlaces_227 : decode cX6_bestPlaces 227 = .ok (.getfield 41, 3) := by decide +kernel
theorem dX6_bestPlaces_230 : decode cX6_bestPlaces 230 = .ok (.iload 6, 2) := by decide +kernel
theorem dX6_bestPlaces_232 : decode cX6_bestPlaces 232 = .ok (.iaload, 1) := by decide +kernel
theorem dX6_bestPlaces_233 : decode cX6_bestPlaces 233 = .ok (.aload_n 0, 1) := by decide +kernel
theorem dX6_bestPlaces_234 : decode cX6_bestPlaces 234 = .ok (.getfield 72, 3) := by decide +kernel
theorem dX6_bestPlaces_237 : decode cX6_bestPlaces 237 = .ok (.if_icmp .ge 13, 3) := by decide +kernel
theorem dX6_bestPlaces_240 : decode cX6_bestPlaces 240 = .ok (.aload_n 0, 1) := by decide +kernel
theorem dX6_bestPlaces_241 : decode cX6_bestPlaces 241 = .ok (.getfield 41, 3) := by decide +kernel
theorem dX6_bestPlaces_244 : decode cX6_bestPlaces 244 = .ok (.iload 6, 2) := by decide +kernel
theorem dX6_bestPlaces_246 : decode cX6_bestPlaces 246 = .ok (.iaload, 1) := by decide +kernel
theorem dX6_bestPlaces_247 : decode cX6_bestPlaces 247 = .ok (.goto 4, 3) := by decide +kernel
theorem dX6_bestPlaces_250 : decode cX6_bestPlaces 250 = .ok (.iconst (-1), 1) := by decide +kernel
theorem dX6_bestPlaces_251 : decode cX6_bestPlaces 251 = .ok (.iastore, 1) := by decide +kernel
theorem dX6_bestPlaces_252 : decode cX6_bestPlaces 252 = .ok (.iinc 6 1, 3) := by decide +kernel
theorem dX6_bestPlaces_255 : decode cX6_bestPlaces 255 = .ok (.goto (-44), 3) := by decide +kernel
theorem dX6_bestPlaces_258 : decode cX6_bestPlaces 258 = .ok (.iinc 2 (-1), 3) := by decide +kernel
theorem dX6_bestPlaces_261 : decode cX6_bestPlaces 261 = .ok (.goto 103, 3) := by decide +kernel
theorem dX6_bestPlaces_264 : decode cX6_bestPlaces 264 = .ok (.aload_n 0, 1) := by decide +kernel
theorem dX6_bestPlaces_265 : decode cX6_bestPlaces 265 = .ok (.getfield 41, 3) := by decide +kernel
theorem dX6_bestPlaces_268 : decode cX6_bestPlaces 268 = .ok (.iload_n 2, 1) := by decide +kernel
theorem dX6_bestPlaces_269 : decode cX6_bestPlaces 269 = .ok (.iaload, 1) := by decide +kernel
theorem dX6_bestPlaces_270 : decode cX6_bestPlaces 270 = .ok (.iconst 1, 1) := by decide +kernel
theorem dX6_bestPlaces_271 : decode cX6_bestPlaces 271 = .ok (.iadd, 1) := by decide +kernel
theorem dX6_bestPlaces_272 : decode cX6_bestPlaces 272 = .ok (.istore 6, 2) := by decide +kernel
theorem dX6_bestPlaces_274 : decode cX6_bestPlaces 274 = .ok (.iload 6, 2) := by decide +kernel
theorem dX6_bestPlaces_276 : decode cX6_bestPlaces 276 = .ok (.aload_n 0, 1) := by decide +kernel
theorem dX6_bestPlaces_277 : decode cX6_bestPlaces 277 = .ok (.getfield 72, 3) := by decide +kernel
theorem dX6_bestPlaces_280 : decode cX6_bestPlaces 280 = .ok (.if_icmp .ge 51, 3) := by decide +kernel
theorem dX6_bestPlaces_283 : decode cX6_bestPlaces 283 = .ok (.iload_n 3, 1) := by decide +kernel
theorem dX6_bestPlaces_284 : decode cX6_bestPlaces 284 = .ok (.iload 6, 2) := by decide +kernel
theorem dX6_bestPlaces_286 : decode cX6_bestPlaces 286 = .ok (.invokestatic 160, 3) := by decide +kernel
theorem dX6_bestPlaces_289 : decode cX6_bestPlaces 289 = .ok (.ifCond .ne 36, 3) := by decide +kernel
theorem dX6_bestPlaces_292 : decode cX6_bestPlaces 292 = .ok (.aload_n 0, 1) := by decide +kernel
theorem dX6_bestPlaces_293 : decode cX6_bestPlaces 293 = .ok (.getfield 47, 3) := by decide +kernel
theorem dX6_bestPlaces_296 : decode cX6_bestPlaces 296 = .ok (.bipush 6, 2) := by decide +kernel
theorem dX6_bestPlaces_298 : decode cX6_bestPlaces 298 = .ok (.iload_n 2, 1) := by decide +kernel
theorem dX6_bestPlaces_299 : decode cX6_bestPlaces 299 = .ok (.imul, 1) := by decide +kernel
theorem dX6_bestPlaces_300 : decode cX6_bestPlaces 300 = .ok (.iload 6, 2) := by decide +kernel
theorem dX6_bestPlaces_302 : decode cX6_bestPlaces 302 = .ok (.iadd, 1) := by decide +kernel
theorem dX6_bestPlaces_303 : decode cX6_bestPlaces 303 = .ok (.iaload, 1) := by decide +kernel
theorem dX6_bestPlaces_304 : decode cX6_bestPlaces 304 = .ok (.ifCond .eq 21, 3) := by decide +kernel
theorem dX6_bestPlaces_307 : decode cX6_bestPlaces 307 = .ok (.aload_n 0, 1) := by decide +kernel
theorem dX6_bestPlaces_308 : decode cX6_bestPlaces 308 = .ok (.getfield 47, 3) := by decide +kernel
theorem dX6_bestPlaces_311 : decode cX6_bestPlaces 311 = .ok (.bipush 6, 2) := by decide +kernel
theorem dX6_bestPlaces_313 : decode cX6_bestPlaces 313 = .ok (.iload_n 2, 1) := by decide +kernel
theorem dX6_bestPlaces_314 : decode cX6_bestPlaces 314 = .ok (.imul, 1) := by decide +kernel
theorem dX6_bestPlaces_315 : decode cX6_bestPlaces 315 = .ok (.iload 6, 2) := by decide +kernel
theorem dX6_bestPlaces_317 : decode cX6_bestPlaces 317 = .ok (.iadd, 1) := by decide +kernel
theorem dX6_bestPlaces_318 : decode cX6_bestPlaces 318 = .ok (.iaload, 1) := by decide +kernel
theorem dX6_bestPlaces_319 : decode cX6_bestPlaces 319 = .ok (.iload 4, 2) := by decide +kernel
theorem dX6_bestPlaces_321 : decode cX6_bestPlaces 321 = .ok (.iand, 1) := by decide +kernel
theorem dX6_bestPlaces_322 : decode cX6_bestPlaces 322 = .ok (.ifCond .eq 9, 3) := by decide +kernel
theorem dX6_bestPlaces_325 : decode cX6_bestPlaces 325 = .ok (.iinc 6 1, 3) := by decide +kernel
theorem dX6_bestPlaces_328 : decode cX6_bestPlaces 328 = .ok (.goto (-54), 3) := by decide +kernel
theorem dX6_bestPlaces_331 : decode cX6_bestPlaces 331 = .ok (.aload_n 0, 1) := by decide +kernel
theorem dX6_bestPlaces_332 : decode cX6_bestPlaces 332 = .ok (.getfield 41, 3) := by decide +kernel
theorem dX6_bestPlaces_335 : decode cX6_bestPlaces 335 = .ok (.iload_n 2, 1) := by decide +kernel
theorem dX6_bestPlaces_336 : decode cX6_bestPlaces 336 = .ok (.iload 6, 2) := by decide +kernel
theorem dX6_bestPlaces_338 : decode cX6_bestPlaces 338 = .ok (.iastore, 1) := by decide +kernel
theorem dX6_bestPlaces_339 : decode cX6_bestPlaces 339 = .ok (.iload 6, 2) := by decide +kernel
theorem dX6_bestPlaces_341 : decode cX6_bestPlaces 341 = .ok (.aload_n 0, 1) := by decide +kernel
theorem dX6_bestPlaces_342 : decode cX6_bestPlaces 342 = .ok (.getfield 72, 3) := by decide +kernel
theorem dX6_bestPlaces_345 : decode cX6_bestPlaces 345 = .ok (.if_icmp .le 9, 3) := by decide +kernel
theorem dX6_bestPlaces_348 : decode cX6_bestPlaces 348 = .ok (.iinc 2 (-1), 3) := by decide +kernel
theorem dX6_bestPlaces_351 : decode cX6_bestPlaces 351 = .ok (.goto 13, 3) := by decide +kernel
theorem dX6_bestPlaces_354 : decode cX6_bestPlaces 354 = .ok (.iinc 2 1, 3) := by decide +kernel
theorem dX6_bestPlaces_357 : decode cX6_bestPlaces 357 = .ok (.aload_n 0, 1) := by decide +kernel
theorem dX6_bestPlaces_358 : decode cX6_bestPlaces 358 = .ok (.getfield 41, 3) := by decide +kernel
theorem dX6_bestPlaces_361 : decode cX6_bestPlaces 361 = .ok (.iload_n 2, 1) := by decide +kernel
theorem dX6_bestPlaces_362 : decode cX6_bestPlaces 362 = .ok (.iconst (-1), 1) := by decide +kernel
theorem dX6_bestPlaces_363 : decode cX6_bestPlaces 363 = .ok (.iastore, 1) := by decide +kernel
theorem dX6_bestPlaces_364 : decode cX6_bestPlaces 364 = .ok (.goto (-289), 3) := by decide +kernel
theorem dX6_bestPlaces_367 : decode cX6_bestPlaces 367 = .ok (.iload_n 1, 1) := by decide +kernel
theorem dX6_bestPlaces_368 : decode cX6_bestPlaces 368 = .ok (.ireturn, 1) := by decide +kernel
set_option maxRecDepth 20000 in
theorem ggX6_places_X6_isWindow : GoodIn wsX6_places wsX6_isWindow := goodIn_r _ [7, 8, 9, 10, 6, 11, 33, 34, 35, 36, 37, 38, 39, 40, 41, 42, 43, 44, 45, 46, 47, 48, 49, 50, 51, 52, 53, 54, 55, 56, 57, 58, 59, 60, 61, 62, 63, 64, 65] (by decide +kernel) (by decide +kernel)
set_option maxRecDepth 20000 in
theorem gX6_places_X6_isWindow : GoodIn wsX6_places (wsV RX6 194 RX6 yX6_isWindow wsX6_isWindow) := goodIn_app (goodIn_of _ (by decide +kernel)) ggX6_places_X6_isWindow
set_option maxRecDepth 20000 in
theorem ggX6_places_X6_bestPlaces : GoodIn wsX6_places wsX6_bestPlaces := goodIn_r _ [15, 8, 16, 17, 18, 19, 2, 20, 21, 22, 6, 23, 24, 25, 26, 27, 28, 29, 30, 31, 32, 9, 10, 11, 33, 34, 35, 36, 37, 38, 39, 40, 41, 42, 43, 44, 45, 46, 47, 48, 49, 50, 51, 52, 53, 54, 55, 56, 57, 58, 59, 60, 61, 62, 63, 64, 65] (by decide +kernel) (by decide +kernel)
set_option maxRecDepth 20000 in
theorem gX6_places_X6_bestPlaces : GoodIn wsX6_places (wsV RX6 252 RX6 yX6_bestPlaces wsX6_bestPlaces) := goodIn_app (goodIn_of _ (by decide +kernel)) ggX6_places_X6_bestPlaces
theorem dX6_places_0 : decode cX6_places 0 = .ok (.iload_n 1, 1) := by decide +kernel
theorem dX6_places_1 : decode cX6_places 1 = .ok (.iconst (-1), 1) := by decide +kernel
theorem dX6_places_2 : decode cX6_places 2 = .ok (.if_icmp .eq 14, 3) := by decide +kernel
theorem dX6_places_5 : decode cX6_places 5 = .ok (.aload_n 0, 1) := by decide +kernel
theorem dX6_places_6 : decode cX6_places 6 = .ok (.iload_n 1, 1) := by decide +kernel
theorem dX6_places_7 : decode cX6_places 7 = .ok (.invokevirtual 194, 3) := by decide +kernel
theorem dX6_places_10 : decode cX6_places 10 = .ok (.ifCond .ne 6, 3) := by decide +kernel
theorem dX6_places_13 : decode cX6_places 13 = .ok (.ldc 190, 2) := by decide +kernel
theorem dX6_places_15 : decode cX6_places 15 = .ok (.ireturn, 1) := by decide +kernel
theorem dX6_places_16 : decode cX6_places 16 = .ok (.aload_n 0, 1) := by decide +kernel
theorem dX6_places_17 : decode cX6_places 17 = .ok (.invokevirtual 252, 3) := by decide +kernel
theorem dX6_places_20 : decode cX6_places 20 = .ok (.istore_n 2, 1) := by decide +kernel
theorem dX6_places_21 : decode cX6_places 21 = .ok (.iload_n 1, 1) := by decide +kernel
theorem dX6_places_22 : decode cX6_places 22 = .ok (.iconst (-1), 1) := by decide +kernel
theorem dX6_places_23 : decode cX6_places 23 = .ok (.if_icmp .ne 7, 3) := by decide +kernel
theorem dX6_places_26 : decode cX6_places 26 = .ok (.iload_n 2, 1) := by decide +kernel
theorem dX6_places_27 : decode cX6_places 27 = .ok (.goto 9, 3) := by decide +kernel
theorem dX6_places_30 : decode cX6_places 30 = .ok (.aload_n 0, 1) := by decide +kernel
theorem dX6_places_31 : decode cX6_places 31 = .ok (.getfield 44, 3) := by decide +kernel
theorem dX6_places_34 : decode cX6_places 34 = .ok (.iload_n 1, 1) := by decide +kernel
theorem dX6_places_35 : decode cX6_places 35 = .ok (.iaload, 1) := by decide +kernel
theorem dX6_places_36 : decode cX6_places 36 = .ok (.ireturn, 1) := by decide +kernel
set_option maxRecDepth 20000 in
theorem ggX6_apart_X6_isSitter : GoodIn wsX6_apart wsX6_isSitter := goodIn_r _ [8, 9, 10, 11, 7, 12, 16, 17, 18, 19, 20, 21, 22, 23, 24, 25, 26, 27, 28, 29, 30, 31, 32, 33, 34, 35, 36, 37, 38, 39, 40, 41, 42, 43, 44, 45, 46, 47, 48] (by decide +kernel) (by decide +kernel)
set_option maxRecDepth 20000 in
theorem gX6_apart_X6_isSitter : GoodIn wsX6_apart (wsV RX6 187 RX6 yX6_isSitter wsX6_isSitter) := goodIn_app (goodIn_of _ (by decide +kernel)) ggX6_apart_X6_isSitter
set_option maxRecDepth 20000 in
theorem ggX6_apart_X6_ones : GoodIn wsX6_apart wsX6_ones := goodIn_r _ [15] (by decide +kernel) (by decide +kernel)
set_option maxRecDepth 20000 in
theorem gX6_apart_X6_ones : GoodIn wsX6_apart (va_wsS RX6 178 yX6_ones wsX6_ones) := goodIn_app (goodIn_of _ (by decide +kernel)) ggX6_apart_X6_ones
theorem dX6_apart_0 : decode cX6_apart 0 = .ok (.aload_n 0, 1) := by decide +kernel
theorem dX6_apart_1 : decode cX6_apart 1 = .ok (.iload_n 1, 1) := by decide +kernel
theorem dX6_apart_2 : decode cX6_apart 2 = .ok (.invokevirtual 187, 3) := by decide +kernel
theorem dX6_apart_5 : decode cX6_apart 5 = .ok (.ifCond .eq 16, 3) := by decide +kernel
theorem dX6_apart_8 : decode cX6_apart 8 = .ok (.aload_n 0, 1) := by decide +kernel
theorem dX6_apart_9 : decode cX6_apart 9 = .ok (.iload_n 2, 1) := by decide +kernel
theorem dX6_apart_10 : decode cX6_apart 10 = .ok (.invokevirtual 187, 3) := by decide +kernel
theorem dX6_apart_13 : decode cX6_apart 13 = .ok (.ifCond .eq 8, 3) := by decide +kernel
theorem dX6_apart_16 : decode cX6_apart 16 = .ok (.iload_n 1, 1) := by decide +kernel
theorem dX6_apart_17 : decode cX6_apart 17 = .ok (.iload_n 2, 1) := by decide +kernel
theorem dX6_apart_18 : decode cX6_apart 18 = .ok (.if_icmp .ne 6, 3) := by decide +kernel
theorem dX6_apart_21 : decode cX6_apart 21 = .ok (.ldc 190, 2) := by decide +kernel
theorem dX6_apart_23 : decode cX6_apart 23 = .ok (.ireturn, 1) := by decide +kernel
theorem dX6_apart_24 : decode cX6_apart 24 = .ok (.aload_n 0, 1) := by decide +kernel
theorem dX6_apart_25 : decode cX6_apart 25 = .ok (.getfield 7, 3) := by decide +kernel
theorem dX6_apart_28 : decode cX6_apart 28 = .ok (.iload_n 1, 1) := by decide +kernel
theorem dX6_apart_29 : decode cX6_apart 29 = .ok (.iaload, 1) := by decide +kernel
theorem dX6_apart_30 : decode cX6_apart 30 = .ok (.aload_n 0, 1) := by decide +kernel
theorem dX6_apart_31 : decode cX6_apart 31 = .ok (.getfield 7, 3) := by decide +kernel
theorem dX6_apart_34 : decode cX6_apart 34 = .ok (.iload_n 2, 1) := by decide +kernel
theorem dX6_apart_35 : decode cX6_apart 35 = .ok (.iaload, 1) := by decide +kernel
theorem dX6_apart_36 : decode cX6_apart 36 = .ok (.ixor, 1) := by decide +kernel
theorem dX6_apart_37 : decode cX6_apart 37 = .ok (.istore 4, 2) := by decide +kernel
theorem dX6_apart_39 : decode cX6_apart 39 = .ok (.iload_n 3, 1) := by decide +kernel
theorem dX6_apart_40 : decode cX6_apart 40 = .ok (.ifCond .ne 8, 3) := by decide +kernel
theorem dX6_apart_43 : decode cX6_apart 43 = .ok (.iload 4, 2) := by decide +kernel
theorem dX6_apart_45 : decode cX6_apart 45 = .ok (.goto 39, 3) := by decide +kernel
theorem dX6_apart_48 : decode cX6_apart 48 = .ok (.iload_n 3, 1) := by decide +kernel
theorem dX6_apart_49 : decode cX6_apart 49 = .ok (.iconst 1, 1) := by decide +kernel
theorem dX6_apart_50 : decode cX6_apart 50 = .ok (.if_icmp .ne 11, 3) := by decide +kernel
theorem dX6_apart_53 : decode cX6_apart 53 = .ok (.iload 4, 2) := by decide +kernel
theorem dX6_apart_55 : decode cX6_apart 55 = .ok (.invokestatic 178, 3) := by decide +kernel
theorem dX6_apart_58 : decode cX6_apart 58 = .ok (.goto 26, 3) := by decide +kernel
theorem dX6_apart_61 : decode cX6_apart 61 = .ok (.iload_n 3, 1) := by decide +kernel
theorem dX6_apart_62 : decode cX6_apart 62 = .ok (.iconst 2, 1) := by decide +kernel
theorem dX6_apart_63 : decode cX6_apart 63 = .ok (.if_icmp .ne 19, 3) := by decide +kernel
theorem dX6_apart_66 : decode cX6_apart 66 = .ok (.aload_n 0, 1) := by decide +kernel
theorem dX6_apart_67 : decode cX6_apart 67 = .ok (.getfield 7, 3) := by decide +kernel
theorem dX6_apart_70 : decode cX6_apart 70 = .ok (.iload_n 1, 1) := by decide +kernel
theorem dX6_apart_71 : decode cX6_apart 71 = .ok (.iaload, 1) := by decide +kernel
theorem dX6_apart_72 : decode cX6_apart 72 = .ok (.aload_n 0, 1) := by decide +kernel
theorem dX6_apart_73 : decode cX6_apart 73 = .ok (.getfield 7, 3) := by decide +kernel
theorem dX6_apart_76 : decode cX6_apart 76 = .ok (.iload_n 2, 1) := by decide +kernel
theorem dX6_apart_77 : decode cX6_apart 77 = .ok (.iaload, 1) := by decide +kernel
theorem dX6_apart_78 : decode cX6_apart 78 = .ok (.iand, 1) := by decide +kernel
theorem dX6_apart_79 : decode cX6_apart 79 = .ok (.goto 5, 3) := by decide +kernel
theorem dX6_apart_82 : decode cX6_apart 82 = .ok (.ldc 84, 2) := by decide +kernel
theorem dX6_apart_84 : decode cX6_apart 84 = .ok (.ireturn, 1) := by decide +kernel
set_option maxRecDepth 20000 in
theorem ggX6_isHole_X6_has : GoodIn wsX6_isHole wsX6_has := goodIn_r _ [4] (by decide +kernel) (by decide +kernel)
set_option maxRecDepth 20000 in
theorem gX6_isHole_X6_has : GoodIn wsX6_isHole (va_wsS RX6 160 yX6_has wsX6_has) := goodIn_app (goodIn_of _ (by decide +kernel)) ggX6_isHole_X6_has
theorem dX6_isHole_0 : decode cX6_isHole 0 = .ok (.iload_n 1, 1) := by decide +kernel
theorem dX6_isHole_1 : decode cX6_isHole 1 = .ok (.bipush 6, 2) := by decide +kernel
theorem dX6_isHole_3 : decode cX6_isHole 3 = .ok (.irem, 1) := by decide +kernel
theorem dX6_isHole_4 : decode cX6_isHole 4 = .ok (.istore_n 2, 1) := by decide +kernel
theorem dX6_isHole_5 : decode cX6_isHole 5 = .ok (.iload_n 0, 1) := by decide +kernel
theorem dX6_isHole_6 : decode cX6_isHole 6 = .ok (.iload_n 1, 1) := by decide +kernel
theorem dX6_isHole_7 : decode cX6_isHole 7 = .ok (.invokestatic 160, 3) := by decide +kernel
theorem dX6_isHole_10 : decode cX6_isHole 10 = .ok (.ifCond .ne 7, 3) := by decide +kernel
theorem dX6_isHole_13 : decode cX6_isHole 13 = .ok (.iconst 1, 1) := by decide +kernel
theorem dX6_isHole_14 : decode cX6_isHole 14 = .ok (.goto 4, 3) := by decide +kernel
theorem dX6_isHole_17 : decode cX6_isHole 17 = .ok (.iconst 0, 1) := by decide +kernel
theorem dX6_isHole_18 : decode cX6_isHole 18 = .ok (.istore_n 3, 1) := by decide +kernel
theorem dX6_isHole_19 : decode cX6_isHole 19 = .ok (.iload_n 3, 1) := by decide +kernel
theorem dX6_isHole_20 : decode cX6_isHole 20 = .ok (.ifCond .eq 36, 3) := by decide +kernel
theorem dX6_isHole_23 : decode cX6_isHole 23 = .ok (.iload_n 2, 1) := by decide +kernel
theorem dX6_isHole_24 : decode cX6_isHole 24 = .ok (.ifCond .eq 13, 3) := by decide +kernel
theorem dX6_isHole_27 : decode cX6_isHole 27 = .ok (.iload_n 0, 1) := by decide +kernel
theorem dX6_isHole_28 : decode cX6_isHole 28 = .ok (.iload_n 1, 1) := by decide +kernel
theorem dX6_isHole_29 : decode cX6_isHole 29 = .ok (.iconst 1, 1) := by decide +kernel
theorem dX6_isHole_30 : decode cX6_isHole 30 = .ok (.isub, 1) := by decide +kernel
theorem dX6_isHole_31 : decode cX6_isHole 31 = .ok (.invokestatic 160, 3) := by decide +kernel
theorem dX6_isHole_34 : decode cX6_isHole 34 = .ok (.ifCond .eq 22, 3) := by decide +kernel
theorem dX6_isHole_37 : decode cX6_isHole 37 = .ok (.iload_n 2, 1) := by decide +kernel
theorem dX6_isHole_38 : decode cX6_isHole 38 = .ok (.iconst 5, 1) := by decide +kernel
theorem dX6_isHole_39 : decode cX6_isHole 39 = .ok (.if_icmp .eq 13, 3) := by decide +kernel
theorem dX6_isHole_42 : decode cX6_isHole 42 = .ok (.iload_n 0, 1) := by decide +kernel
theorem dX6_isHole_43 : decode cX6_isHole 43 = .ok (.iload_n 1, 1) := by decide +kernel
theorem dX6_isHole_44 : decode cX6_isHole 44 = .ok (.iconst 1, 1) := by decide +kernel
theorem dX6_isHole_45 : decode cX6_isHole 45 = .ok (.iadd, 1) := by decide +kernel
theorem dX6_isHole_46 : decode cX6_isHole 46 = .ok (.invokestatic 160, 3) := by decide +kernel
theorem dX6_isHole_49 : decode cX6_isHole 49 = .ok (.ifCond .eq 7, 3) := by decide +kernel
theorem dX6_isHole_52 : decode cX6_isHole 52 = .ok (.iconst 1, 1) := by decide +kernel
theorem dX6_isHole_53 : decode cX6_isHole 53 = .ok (.goto 4, 3) := by decide +kernel
theorem dX6_isHole_56 : decode cX6_isHole 56 = .ok (.iconst 0, 1) := by decide +kernel
theorem dX6_isHole_57 : decode cX6_isHole 57 = .ok (.istore_n 3, 1) := by decide +kernel
theorem dX6_isHole_58 : decode cX6_isHole 58 = .ok (.iload_n 3, 1) := by decide +kernel
theorem dX6_isHole_59 : decode cX6_isHole 59 = .ok (.ifCond .eq 41, 3) := by decide +kernel
theorem dX6_isHole_62 : decode cX6_isHole 62 = .ok (.iload_n 1, 1) := by decide +kernel
theorem dX6_isHole_63 : decode cX6_isHole 63 = .ok (.bipush 6, 2) := by decide +kernel
theorem dX6_isHole_65 : decode cX6_isHole 65 = .ok (.if_icmp .lt 14, 3) := by decide +kernel
theorem dX6_isHole_68 : decode cX6_isHole 68 = .ok (.iload_n 0, 1) := by decide +kernel
theorem dX6_isHole_69 : decode cX6_isHole 69 = .ok (.iload_n 1, 1) := by decide +kernel
theorem dX6_isHole_70 : decode cX6_isHole 70 = .ok (.bipush 6, 2) := by decide +kernel
theorem dX6_isHole_72 : decode cX6_isHole 72 = .ok (.isub, 1) := by decide +kernel
theorem dX6_isHole_73 : decode cX6_isHole 73 = .ok (.invokestatic 160, 3) := by decide +kernel
theorem dX6_isHole_76 : decode cX6_isHole 76 = .ok (.ifCond .eq 24, 3) := by decide +kernel
theorem dX6_isHole_79 : decode cX6_isHole 79 = .ok (.iload_n 1, 1) := by decide +kernel
theorem dX6_isHole_80 : decode cX6_isHole 80 = .ok (.bipush 23, 2) := by decide +kernel
theorem dX6_isHole_82 : decode cX6_isHole 82 = .ok (.if_icmp .gt 14, 3) := by decide +kernel
theorem dX6_isHole_85 : decode cX6_isHole 85 = .ok (.iload_n 0, 1) := by decide +kernel
theorem dX6_isHole_86 : decode cX6_isHole 86 = .ok (.iload_n 1, 1) := by decide +kernel
theorem dX6_isHole_87 : decode cX6_isHole 87 = .ok (.bipush 6, 2) := by decide +kernel
theorem dX6_isHole_89 : decode cX6_isHole 89 = .ok (.iadd, 1) := by decide +kernel
theorem dX6_isHole_90 : decode cX6_isHole 90 = .ok (.invokestatic 160, 3) := by decide +kernel
theorem dX6_isHole_93 : decode cX6_isHole 93 = .ok (.ifCond .eq 7, 3) := by decide +kernel
theorem dX6_isHole_96 : decode cX6_isHole 96 = .ok (.iconst 1, 1) := by decide +kernel
theorem dX6_isHole_97 : decode cX6_isHole 97 = .ok (.goto 4, 3) := by decide +kernel
theorem dX6_isHole_100 : decode cX6_isHole 100 = .ok (.iconst 0, 1) := by decide +kernel
theorem dX6_isHole_101 : decode cX6_isHole 101 = .ok (.ireturn, 1) := by decide +kernel
set_option maxRecDepth 20000 in
theorem ggX6_turned_X6_in : GoodIn wsX6_turned wsX6_in := goodIn_r _ [6] (by decide +kernel) (by decide +kernel)
set_option maxRecDepth 20000 in
theorem gX6_turned_X6_in : GoodIn wsX6_turned (va_wsS RX6 75 yX6_in wsX6_in) := goodIn_app (goodIn_of _ (by decide +kernel)) ggX6_turned_X6_in
set_option maxRecDepth 20000 in
theorem ggX6_turned_X6_isHole : GoodIn wsX6_turned wsX6_isHole := goodIn_r _ [9, 10, 11, 5, 12] (by decide +kernel) (by decide +kernel)
set_option maxRecDepth 20000 in
theorem gX6_turned_X6_isHole : GoodIn wsX6_turned (va_wsS RX6 255 yX6_isHole wsX6_isHole) := goodIn_app (goodIn_of _ (by decide +kernel)) ggX6_turned_X6_isHole
set_option maxRecDepth 20000 in
theorem ggX6_turned_X6_has : GoodIn wsX6_turned wsX6_has := goodIn_r _ [12] (by decide +kernel) (by decide +kernel)
set_option maxRecDepth 20000 in
theorem gX6_turned_X6_has : GoodIn wsX6_turned (va_wsS RX6 160 yX6_has wsX6_has) := goodIn_app (goodIn_of _ (by decide +kernel)) ggX6_turned_X6_has
theorem dX6_turned_0 : decode cX6_turned 0 = .ok (.iload_n 1, 1) := by decide +kernel
theorem dX6_turned_1 : decode cX6_turned 1 = .ok (.i2l, 1) := by decide +kernel
theorem dX6_turned_2 : decode cX6_turned 2 = .ok (.lconst 0, 1) := by decide +kernel
theorem dX6_turned_3 : decode cX6_turned 3 = .ok (.ldc2_w 247, 3) := by decide +kernel
theorem dX6_turned_6 : decode cX6_turned 6 = .ok (.invokestatic 75, 3) := by decide +kernel
theorem dX6_turned_9 : decode cX6_turned 9 = .ok (.ifCond .eq 13, 3) := by decide +kernel
theorem dX6_turned_12 : decode cX6_turned 12 = .ok (.iload_n 2, 1) := by decide +kernel
theorem dX6_turned_13 : decode cX6_turned 13 = .ok (.i2l, 1) := by decide +kernel
theorem dX6_turned_14 : decode cX6_turned 14 = .ok (.lconst 0, 1) := by decide +kernel
theorem dX6_turned_15 : decode cX6_turned 15 = .ok (.lconst 1, 1) := by decide +kernel
theorem dX6_turned_16 : decode cX6_turned 16 = .ok (.invokestatic 75, 3) := by decide +kernel
theorem dX6_turned_19 : decode cX6_turned 19 = .ok (.ifCond .ne 6, 3) := by decide +kernel
theorem dX6_turned_22 : decode cX6_turned 22 = .ok (.ldc 84, 2) := by decide +kernel
theorem dX6_turned_24 : decode cX6_turned 24 = .ok (.ireturn, 1) := by decide +kernel
theorem dX6_turned_25 : decode cX6_turned 25 = .ok (.iconst 0, 1) := by decide +kernel
theorem dX6_turned_26 : decode cX6_turned 26 = .ok (.istore_n 3, 1) := by decide +kernel
theorem dX6_turned_27 : decode cX6_turned 27 = .ok (.iconst 0, 1) := by decide +kernel
theorem dX6_turned_28 : decode cX6_turned 28 = .ok (.istore 4, 2) := by decide +kernel
theorem dX6_turned_30 : decode cX6_turned 30 = .ok (.iload 4, 2) := by decide +kernel
theorem dX6_turned_32 : decode cX6_turned 32 = .ok (.bipush 30, 2) := by decide +kernel
theorem dX6_turned_34 : decode cX6_turned 34 = .ok (.if_icmp .ge 56, 3) := by decide +kernel
theorem dX6_turned_37 : decode cX6_turned 37 = .ok (.iload_n 2, 1) := by decide +kernel
theorem dX6_turned_38 : decode cX6_turned 38 = .ok (.ifCond .ne 12, 3) := by decide +kernel
theorem dX6_turned_41 : decode cX6_turned 41 = .ok (.iload_n 1, 1) := by decide +kernel
theorem dX6_turned_42 : decode cX6_turned 42 = .ok (.iload 4, 2) := by decide +kernel
theorem dX6_turned_44 : decode cX6_turned 44 = .ok (.invokestatic 255, 3) := by decide +kernel
theorem dX6_turned_47 : decode cX6_turned 47 = .ok (.goto 19, 3) := by decide +kernel
theorem dX6_turned_50 : decode cX6_turned 50 = .ok (.iload_n 1, 1) := by decide +kernel
theorem dX6_turned_51 : decode cX6_turned 51 = .ok (.iload 4, 2) := by decide +kernel
theorem dX6_turned_53 : decode cX6_turned 53 = .ok (.iconst 5, 1) := by decide +kernel
theorem dX6_turned_54 : decode cX6_turned 54 = .ok (.iadd, 1) := by decide +kernel
theorem dX6_turned_55 : decode cX6_turned 55 = .ok (.iconst 2, 1) := by decide +kernel
theorem dX6_turned_56 : decode cX6_turned 56 = .ok (.iload 4, 2) := by decide +kernel
theorem dX6_turned_58 : decode cX6_turned 58 = .ok (.bipush 6, 2) := by decide +kernel
theorem dX6_turned_60 : decode cX6_turned 60 = .ok (.irem, 1) := by decide +kernel
theorem dX6_turned_61 : decode cX6_turned 61 = .ok (.imul, 1) := by decide +kernel
theorem dX6_turned_62 : decode cX6_turned 62 = .ok (.isub, 1) := by decide +kernel
theorem dX6_turned_63 : decode cX6_turned 63 = .ok (.invokestatic 160, 3) := by decide +kernel
theorem dX6_turned_66 : decode cX6_turned 66 = .ok (.istore 5, 2) := by decide +kernel
theorem dX6_turned_68 : decode cX6_turned 68 = .ok (.iload_n 3, 1) := by decide +kernel
theorem dX6_turned_69 : decode cX6_turned 69 = .ok (.iload 5, 2) := by decide +kernel
theorem dX6_turned_71 : decode cX6_turned 71 = .ok (.ifCond .eq 10, 3) := by decide +kernel
theorem dX6_turned_74 : decode cX6_turned 74 = .ok (.iconst 1, 1) := by decide +kernel
theorem dX6_turned_75 : decode cX6_turned 75 = .ok (.iload 4, 2) := by decide +kernel
theorem dX6_turned_77 : decode cX6_turned 77 = .ok (.ishl, 1) := by decide +kernel
theorem dX6_turned_78 : decode cX6_turned 78 = .ok (.goto 4, 3) := by decide +kernel
theorem dX6_turned_81 : decode cX6_turned 81 = .ok (.iconst 0, 1) := by decide +kernel
theorem dX6_turned_82 : decode cX6_turned 82 = .ok (.ior, 1) := by decide +kernel
theorem dX6_turned_83 : decode cX6_turned 83 = .ok (.istore_n 3, 1) := by decide +kernel
theorem dX6_turned_84 : decode cX6_turned 84 = .ok (.iinc 4 1, 3) := by decide +kernel
theorem dX6_turned_87 : decode cX6_turned 87 = .ok (.goto (-57), 3) := by decide +kernel
theorem dX6_turned_90 : decode cX6_turned 90 = .ok (.iload_n 3, 1) := by decide +kernel
theorem dX6_turned_91 : decode cX6_turned 91 = .ok (.ireturn, 1) := by decide +kernel
set_option maxRecDepth 20000 in
theorem ggX6_maskOf_X6_has : GoodIn wsX6_maskOf wsX6_has := goodIn_r _ [4] (by decide +kernel) (by decide +kernel)
set_option maxRecDepth 20000 in
theorem gX6_maskOf_X6_has : GoodIn wsX6_maskOf (va_wsS RX6 160 yX6_has wsX6_has) := goodIn_app (goodIn_of _ (by decide +kernel)) ggX6_maskOf_X6_has
theorem dX6_maskOf_0 : decode cX6_maskOf 0 = .ok (.iconst 0, 1) := by decide +kernel
theorem dX6_maskOf_1 : decode cX6_maskOf 1 = .ok (.istore_n 1, 1) := by decide +kernel
theorem dX6_maskOf_2 : decode cX6_maskOf 2 = .ok (.iconst 0, 1) := by decide +kernel
theorem dX6_maskOf_3 : decode cX6_maskOf 3 = .ok (.istore_n 2, 1) := by decide +kernel
theorem dX6_maskOf_4 : decode cX6_maskOf 4 = .ok (.iload_n 2, 1) := by decide +kernel
theorem dX6_maskOf_5 : decode cX6_maskOf 5 = .ok (.bipush 30, 2) := by decide +kernel
theorem dX6_maskOf_7 : decode cX6_maskOf 7 = .ok (.if_icmp .ge 30, 3) := by decide +kernel
theorem dX6_maskOf_10 : decode cX6_maskOf 10 = .ok (.iload_n 1, 1) := by decide +kernel
theorem dX6_maskOf_11 : decode cX6_maskOf 11 = .ok (.iload_n 0, 1) := by decide +kernel
theorem dX6_maskOf_12 : decode cX6_maskOf 12 = .ok (.iload_n 2, 1) := by decide +kernel
theorem dX6_maskOf_13 : decode cX6_maskOf 13 = .ok (.bipush 6, 2) := by decide +kernel
theorem dX6_maskOf_15 : decode cX6_maskOf 15 = .ok (.irem, 1) := by decide +kernel
theorem dX6_maskOf_16 : decode cX6_maskOf 16 = .ok (.invokestatic 160, 3) := by decide +kernel
theorem dX6_maskOf_19 : decode cX6_maskOf 19 = .ok (.ifCond .eq 9, 3) := by decide +kernel
theorem dX6_maskOf_22 : decode cX6_maskOf 22 = .ok (.iconst 1, 1) := by decide +kernel
theorem dX6_maskOf_23 : decode cX6_maskOf 23 = .ok (.iload_n 2, 1) := by decide +kernel
theorem dX6_maskOf_24 : decode cX6_maskOf 24 = .ok (.ishl, 1) := by decide +kernel
theorem dX6_maskOf_25 : decode cX6_maskOf 25 = .ok (.goto 4, 3) := by decide +kernel
theorem dX6_maskOf_28 : decode cX6_maskOf 28 = .ok (.iconst 0, 1) := by decide +kernel
theorem dX6_maskOf_29 : decode cX6_maskOf 29 = .ok (.ior, 1) := by decide +kernel
theorem dX6_maskOf_30 : decode cX6_maskOf 30 = .ok (.istore_n 1, 1) := by decide +kernel
theorem dX6_maskOf_31 : decode cX6_maskOf 31 = .ok (.iinc 2 1, 3) := by decide +kernel
theorem dX6_maskOf_34 : decode cX6_maskOf 34 = .ok (.goto (-30), 3) := by decide +kernel
theorem dX6_maskOf_37 : decode cX6_maskOf 37 = .ok (.iload_n 1, 1) := by decide +kernel
theorem dX6_maskOf_38 : decode cX6_maskOf 38 = .ok (.ireturn, 1) := by decide +kernel
set_option maxRecDepth 20000 in
theorem ggX6_votesFor_X6_maskOf : GoodIn wsX6_votesFor wsX6_maskOf := goodIn_r _ [6, 7, 8, 5, 9] (by decide +kernel) (by decide +kernel)
set_option maxRecDepth 20000 in
theorem gX6_votesFor_X6_maskOf : GoodIn wsX6_votesFor (va_wsS RX6 258 yX6_maskOf wsX6_maskOf) := goodIn_app (goodIn_of _ (by decide +kernel)) ggX6_votesFor_X6_maskOf
set_option maxRecDepth 20000 in
theorem ggX6_votesFor_X6_mostLike : GoodIn wsX6_votesFor wsX6_mostLike := goodIn_r _ [13, 14, 15, 16, 17, 5, 18, 19, 20, 21, 22, 23, 24, 25, 26, 27, 28, 29, 30, 31, 32, 33, 34, 35, 36, 37, 38, 39, 40, 41, 42, 43, 44, 45, 46, 47, 48, 49, 50, 51] (by decide +kernel) (by decide +kernel)
set_option maxRecDepth 20000 in
theorem gX6_votesFor_X6_mostLike : GoodIn wsX6_votesFor (wsV RX6 198 RX6 yX6_mostLike wsX6_mostLike) := goodIn_app (goodIn_of _ (by decide +kernel)) ggX6_votesFor_X6_mostLike
theorem dX6_votesFor_0 : decode cX6_votesFor 0 = .ok (.iconst 0, 1) := by decide +kernel
theorem dX6_votesFor_1 : decode cX6_votesFor 1 = .ok (.istore_n 3, 1) := by decide +kernel
theorem dX6_votesFor_2 : decode cX6_votesFor 2 = .ok (.iconst 0, 1) := by decide +kernel
theorem dX6_votesFor_3 : decode cX6_votesFor 3 = .ok (.istore 4, 2) := by decide +kernel
theorem dX6_votesFor_5 : decode cX6_votesFor 5 = .ok (.iload 4, 2) := by decide +kernel
theorem dX6_votesFor_7 : decode cX6_votesFor 7 = .ok (.aload_n 0, 1) := by decide +kernel
theorem dX6_votesFor_8 : decode cX6_votesFor 8 = .ok (.getfield 145, 3) := by decide +kernel
theorem dX6_votesFor_11 : decode cX6_votesFor 11 = .ok (.if_icmp .ge 36, 3) := by decide +kernel
theorem dX6_votesFor_14 : decode cX6_votesFor 14 = .ok (.iload_n 3, 1) := by decide +kernel
theorem dX6_votesFor_15 : decode cX6_votesFor 15 = .ok (.aload_n 0, 1) := by decide +kernel
theorem dX6_votesFor_16 : decode cX6_votesFor 16 = .ok (.iload_n 1, 1) := by decide +kernel
theorem dX6_votesFor_17 : decode cX6_votesFor 17 = .ok (.aload_n 0, 1) := by decide +kernel
theorem dX6_votesFor_18 : decode cX6_votesFor 18 = .ok (.getfield 16, 3) := by decide +kernel
theorem dX6_votesFor_21 : decode cX6_votesFor 21 = .ok (.iload 4, 2) := by decide +kernel
theorem dX6_votesFor_23 : decode cX6_votesFor 23 = .ok (.iaload, 1) := by decide +kernel
theorem dX6_votesFor_24 : decode cX6_votesFor 24 = .ok (.invokestatic 258, 3) := by decide +kernel
theorem dX6_votesFor_27 : decode cX6_votesFor 27 = .ok (.invokevirtual 198, 3) := by decide +kernel
theorem dX6_votesFor_30 : decode cX6_votesFor 30 = .ok (.iload_n 2, 1) := by decide +kernel
theorem dX6_votesFor_31 : decode cX6_votesFor 31 = .ok (.if_icmp .ne 7, 3) := by decide +kernel
theorem dX6_votesFor_34 : decode cX6_votesFor 34 = .ok (.iconst 1, 1) := by decide +kernel
theorem dX6_votesFor_35 : decode cX6_votesFor 35 = .ok (.goto 4, 3) := by decide +kernel
theorem dX6_votesFor_38 : decode cX6_votesFor 38 = .ok (.iconst 0, 1) := by decide +kernel
theorem dX6_votesFor_39 : decode cX6_votesFor 39 = .ok (.iadd, 1) := by decide +kernel
theorem dX6_votesFor_40 : decode cX6_votesFor 40 = .ok (.istore_n 3, 1) := by decide +kernel
theorem dX6_votesFor_41 : decode cX6_votesFor 41 = .ok (.iinc 4 1, 3) := by decide +kernel
theorem dX6_votesFor_44 : decode cX6_votesFor 44 = .ok (.goto (-39), 3) := by decide +kernel
theorem dX6_votesFor_47 : decode cX6_votesFor 47 = .ok (.iload_n 3, 1) := by decide +kernel
theorem dX6_votesFor_48 : decode cX6_votesFor 48 = .ok (.ireturn, 1) := by decide +kernel
set_option maxRecDepth 20000 in
theorem ggX6_votes_X6_isSitter : GoodIn wsX6_votes wsX6_isSitter := goodIn_r _ [9, 4, 10, 11, 8, 12, 33, 34, 35, 36, 37, 38, 39, 40, 41, 42, 43, 44, 45, 46, 47, 48, 49, 50, 51, 52, 53, 54, 55, 56, 57, 58, 59, 60, 61, 62, 63, 64, 65] (by decide +kernel) (by decide +kernel)
set_option maxRecDepth 20000 in
theorem gX6_votes_X6_isSitter : GoodIn wsX6_votes (wsV RX6 187 RX6 yX6_isSitter wsX6_isSitter) := goodIn_app (goodIn_of _ (by decide +kernel)) ggX6_votes_X6_isSitter
set_option maxRecDepth 20000 in
theorem ggX6_votes_X6_in : GoodIn wsX6_votes wsX6_in := goodIn_r _ [12] (by decide +kernel) (by decide +kernel)
set_option maxRecDepth 20000 in
theorem gX6_votes_X6_in : GoodIn wsX6_votes (va_wsS RX6 75 yX6_in wsX6_in) := goodIn_app (goodIn_of _ (by decide +kernel)) ggX6_votes_X6_in
set_option maxRecDepth 20000 in
theorem ggX6_votes_X6_votesFor : GoodIn wsX6_votes wsX6_votesFor := goodIn_r _ [16, 17, 18, 19, 20, 8, 21, 22, 23, 24, 25, 26, 27, 28, 4, 29, 30, 31, 32, 33, 34, 35, 36, 37, 38, 39, 40, 41, 42, 43, 44, 45, 46, 47, 48, 49, 50, 51, 52, 53, 54, 55, 56, 57, 58, 59, 60, 61, 62, 63, 64, 65] (by decide +kernel) (by decide +kernel)
set_option maxRecDepth 20000 in
theorem gX6_votes_X6_votesFor : GoodIn wsX6_votes (wsV RX6 261 RX6 yX6_votesFor wsX6_votesFor) := goodIn_app (goodIn_of _ (by decide +kernel)) ggX6_votes_X6_votesFor
theorem dX6_votes_0 : decode cX6_votes 0 = .ok (.iload_n 2, 1) := by decide +kernel
theorem dX6_votes_1 : decode cX6_votes 1 = .ok (.iconst (-1), 1) := by decide +kernel
theorem dX6_votes_2 : decode cX6_votes 2 = .ok (.if_icmp .eq 14, 3) := by decide +kernel
theorem dX6_votes_5 : decode cX6_votes 5 = .ok (.aload_n 0, 1) := by decide +kernel
theorem dX6_votes_6 : decode cX6_votes 6 = .ok (.iload_n 2, 1) := by decide +kernel
theorem dX6_votes_7 : decode cX6_votes 7 = .ok (.invokevirtual 187, 3) := by decide +kernel
theorem dX6_votes_10 : decode cX6_votes 10 = .ok (.ifCond .ne 6, 3) := by decide +kernel
theorem dX6_votes_13 : decode cX6_votes 13 = .ok (.ldc 190, 2) := by decide +kernel
theorem dX6_votes_15 : decode cX6_votes 15 = .ok (.ireturn, 1) := by decide +kernel
theorem dX6_votes_16 : decode cX6_votes 16 = .ok (.iload_n 1, 1) := by decide +kernel
theorem dX6_votes_17 : decode cX6_votes 17 = .ok (.i2l, 1) := by decide +kernel
theorem dX6_votes_18 : decode cX6_votes 18 = .ok (.lconst 0, 1) := by decide +kernel
theorem dX6_votes_19 : decode cX6_votes 19 = .ok (.ldc2_w 247, 3) := by decide +kernel
theorem dX6_votes_22 : decode cX6_votes 22 = .ok (.invokestatic 75, 3) := by decide +kernel
theorem dX6_votes_25 : decode cX6_votes 25 = .ok (.ifCond .ne 6, 3) := by decide +kernel
theorem dX6_votes_28 : decode cX6_votes 28 = .ok (.ldc 84, 2) := by decide +kernel
theorem dX6_votes_30 : decode cX6_votes 30 = .ok (.ireturn, 1) := by decide +kernel
theorem dX6_votes_31 : decode cX6_votes 31 = .ok (.iload_n 2, 1) := by decide +kernel
theorem dX6_votes_32 : decode cX6_votes 32 = .ok (.iconst (-1), 1) := by decide +kernel
theorem dX6_votes_33 : decode cX6_votes 33 = .ok (.if_icmp .eq 10, 3) := by decide +kernel
theorem dX6_votes_36 : decode cX6_votes 36 = .ok (.aload_n 0, 1) := by decide +kernel
theorem dX6_votes_37 : decode cX6_votes 37 = .ok (.iload_n 1, 1) := by decide +kernel
theorem dX6_votes_38 : decode cX6_votes 38 = .ok (.iload_n 2, 1) := by decide +kernel
theorem dX6_votes_39 : decode cX6_votes 39 = .ok (.invokevirtual 261, 3) := by decide +kernel
theorem dX6_votes_42 : decode cX6_votes 42 = .ok (.ireturn, 1) := by decide +kernel
theorem dX6_votes_43 : decode cX6_votes 43 = .ok (.iconst (-1), 1) := by decide +kernel
theorem dX6_votes_44 : decode cX6_votes 44 = .ok (.istore_n 3, 1) := by decide +kernel
theorem dX6_votes_45 : decode cX6_votes 45 = .ok (.iconst 0, 1) := by decide +kernel
theorem dX6_votes_46 : decode cX6_votes 46 = .ok (.istore 4, 2) := by decide +kernel
theorem dX6_votes_48 : decode cX6_votes 48 = .ok (.iconst 0, 1) := by decide +kernel
theorem dX6_votes_49 : decode cX6_votes 49 = .ok (.istore 5, 2) := by decide +kernel
theorem dX6_votes_51 : decode cX6_votes 51 = .ok (.iload 5, 2) := by decide +kernel
theorem dX6_votes_53 : decode cX6_votes 53 = .ok (.aload_n 0, 1) := by decide +kernel
theorem dX6_votes_54 : decode cX6_votes 54 = .ok (.getfield 72, 3) := by decide +kernel
theorem dX6_votes_57 : decode cX6_votes 57 = .ok (.if_icmp .ge 48, 3) := by decide +kernel
theorem dX6_votes_60 : decode cX6_votes 60 = .ok (.aload_n 0, 1) := by decide +kernel
theorem dX6_votes_61 : decode cX6_votes 61 = .ok (.iload_n 1, 1) := by decide +kernel
theorem dX6_votes_62 : decode cX6_votes 62 = .ok (.iload 5, 2) := by decide +kernel
theorem dX6_votes_64 : decode cX6_votes 64 = .ok (.invokevirtual 261, 3) := by decide +kernel
theorem dX6_votes_67 : decode cX6_votes 67 = .ok (.istore 6, 2) := by decide +kernel
theorem dX6_votes_69 : decode cX6_votes 69 = .ok (.iload 6, 2) := by decide +kernel
theorem dX6_votes_71 : decode cX6_votes 71 = .ok (.iload 4, 2) := by decide +kernel
theorem dX6_votes_73 : decode cX6_votes 73 = .ok (.if_icmp .le 8, 3) := by decide +kernel
theorem dX6_votes_76 : decode cX6_votes 76 = .ok (.iload 5, 2) := by decide +kernel
theorem dX6_votes_78 : decode cX6_votes 78 = .ok (.goto 4, 3) := by decide +kernel
theorem dX6_votes_81 : decode cX6_votes 81 = .ok (.iload_n 3, 1) := by decide +kernel
theorem dX6_votes_82 : decode cX6_votes 82 = .ok (.istore_n 3, 1) := by decide +kernel
theorem dX6_votes_83 : decode cX6_votes 83 = .ok (.iload 6, 2) := by decide +kernel
theorem dX6_votes_85 : decode cX6_votes 85 = .ok (.iload 4, 2) := by decide +kernel
theorem dX6_votes_87 : decode cX6_votes 87 = .ok (.if_icmp .le 8, 3) := by decide +kernel
theorem dX6_votes_90 : decode cX6_votes 90 = .ok (.iload 6, 2) := by decide +kernel
theorem dX6_votes_92 : decode cX6_votes 92 = .ok (.goto 5, 3) := by decide +kernel
theorem dX6_votes_95 : decode cX6_votes 95 = .ok (.iload 4, 2) := by decide +kernel
theorem dX6_votes_97 : decode cX6_votes 97 = .ok (.istore 4, 2) := by decide +kernel
theorem dX6_votes_99 : decode cX6_votes 99 = .ok (.iinc 5 1, 3) := by decide +kernel
theorem dX6_votes_102 : decode cX6_votes 102 = .ok (.goto (-51), 3) := by decide +kernel
theorem dX6_votes_105 : decode cX6_votes 105 = .ok (.iload_n 3, 1) := by decide +kernel
theorem dX6_votes_106 : decode cX6_votes 106 = .ok (.ireturn, 1) := by decide +kernel
set_option maxRecDepth 20000 in
theorem ggX6_clear_X6_in : GoodIn wsX6_clear wsX6_in := goodIn_r _ [8] (by decide +kernel) (by decide +kernel)
set_option maxRecDepth 20000 in
theorem gX6_clear_X6_in : GoodIn wsX6_clear (va_wsS RX6 75 yX6_in wsX6_in) := goodIn_app (goodIn_of _ (by decide +kernel)) ggX6_clear_X6_in
theorem dX6_clear_0 : decode cX6_clear 0 = .ok (.iload_n 1, 1) := by decide +kernel
theorem dX6_clear_1 : decode cX6_clear 1 = .ok (.i2l, 1) := by decide +kernel
theorem dX6_clear_2 : decode cX6_clear 2 = .ok (.lconst 0, 1) := by decide +kernel
theorem dX6_clear_3 : decode cX6_clear 3 = .ok (.ldc2_w 223, 3) := by decide +kernel
theorem dX6_clear_6 : decode cX6_clear 6 = .ok (.invokestatic 75, 3) := by decide +kernel
theorem dX6_clear_9 : decode cX6_clear 9 = .ok (.ifCond .eq 15, 3) := by decide +kernel
theorem dX6_clear_12 : decode cX6_clear 12 = .ok (.iload_n 2, 1) := by decide +kernel
theorem dX6_clear_13 : decode cX6_clear 13 = .ok (.i2l, 1) := by decide +kernel
theorem dX6_clear_14 : decode cX6_clear 14 = .ok (.lconst 0, 1) := by decide +kernel
theorem dX6_clear_15 : decode cX6_clear 15 = .ok (.ldc2_w 264, 3) := by decide +kernel
theorem dX6_clear_18 : decode cX6_clear 18 = .ok (.invokestatic 75, 3) := by decide +kernel
theorem dX6_clear_21 : decode cX6_clear 21 = .ok (.ifCond .ne 6, 3) := by decide +kernel
theorem dX6_clear_24 : decode cX6_clear 24 = .ok (.ldc 84, 2) := by decide +kernel
theorem dX6_clear_26 : decode cX6_clear 26 = .ok (.ireturn, 1) := by decide +kernel
theorem dX6_clear_27 : decode cX6_clear 27 = .ok (.ldc2_w 266, 3) := by decide +kernel
theorem dX6_clear_30 : decode cX6_clear 30 = .ok (.lstore_n 3, 1) := by decide +kernel
theorem dX6_clear_31 : decode cX6_clear 31 = .ok (.iconst 0, 1) := by decide +kernel
theorem dX6_clear_32 : decode cX6_clear 32 = .ok (.istore 5, 2) := by decide +kernel
theorem dX6_clear_34 : decode cX6_clear 34 = .ok (.iload 5, 2) := by decide +kernel
theorem dX6_clear_36 : decode cX6_clear 36 = .ok (.iload_n 1, 1) := by decide +kernel
theorem dX6_clear_37 : decode cX6_clear 37 = .ok (.if_icmp .ge 18, 3) := by decide +kernel
theorem dX6_clear_40 : decode cX6_clear 40 = .ok (.lload_n 3, 1) := by decide +kernel
theorem dX6_clear_41 : decode cX6_clear 41 = .ok (.iload_n 2, 1) := by decide +kernel
theorem dX6_clear_42 : decode cX6_clear 42 = .ok (.i2l, 1) := by decide +kernel
theorem dX6_clear_43 : decode cX6_clear 43 = .ok (.lmul, 1) := by decide +kernel
theorem dX6_clear_44 : decode cX6_clear 44 = .ok (.ldc2_w 264, 3) := by decide +kernel
theorem dX6_clear_47 : decode cX6_clear 47 = .ok (.ldiv, 1) := by decide +kernel
theorem dX6_clear_48 : decode cX6_clear 48 = .ok (.lstore_n 3, 1) := by decide +kernel
theorem dX6_clear_49 : decode cX6_clear 49 = .ok (.iinc 5 1, 3) := by decide +kernel
theorem dX6_clear_52 : decode cX6_clear 52 = .ok (.goto (-18), 3) := by decide +kernel
theorem dX6_clear_55 : decode cX6_clear 55 = .ok (.lload_n 3, 1) := by decide +kernel
theorem dX6_clear_56 : decode cX6_clear 56 = .ok (.l2i, 1) := by decide +kernel
theorem dX6_clear_57 : decode cX6_clear 57 = .ok (.ireturn, 1) := by decide +kernel
set_option maxRecDepth 20000 in
theorem ggX6_tellOf_X6_in : GoodIn wsX6_tellOf wsX6_in := goodIn_r _ [10] (by decide +kernel) (by decide +kernel)
set_option maxRecDepth 20000 in
theorem gX6_tellOf_X6_in : GoodIn wsX6_tellOf (va_wsS RX6 75 yX6_in wsX6_in) := goodIn_app (goodIn_of _ (by decide +kernel)) ggX6_tellOf_X6_in
theorem dX6_tellOf_0 : decode cX6_tellOf 0 = .ok (.iload_n 1, 1) := by decide +kernel
theorem dX6_tellOf_1 : decode cX6_tellOf 1 = .ok (.i2l, 1) := by decide +kernel
theorem dX6_tellOf_2 : decode cX6_tellOf 2 = .ok (.lconst 0, 1) := by decide +kernel
theorem dX6_tellOf_3 : decode cX6_tellOf 3 = .ok (.ldc2_w 217, 3) := by decide +kernel
theorem dX6_tellOf_6 : decode cX6_tellOf 6 = .ok (.invokestatic 75, 3) := by decide +kernel
theorem dX6_tellOf_9 : decode cX6_tellOf 9 = .ok (.ifCond .ne 6, 3) := by decide +kernel
theorem dX6_tellOf_12 : decode cX6_tellOf 12 = .ok (.ldc 84, 2) := by decide +kernel
theorem dX6_tellOf_14 : decode cX6_tellOf 14 = .ok (.ireturn, 1) := by decide +kernel
theorem dX6_tellOf_15 : decode cX6_tellOf 15 = .ok (.aload_n 0, 1) := by decide +kernel
theorem dX6_tellOf_16 : decode cX6_tellOf 16 = .ok (.getfield 154, 3) := by decide +kernel
theorem dX6_tellOf_19 : decode cX6_tellOf 19 = .ok (.bipush 6, 2) := by decide +kernel
theorem dX6_tellOf_21 : decode cX6_tellOf 21 = .ok (.if_icmp .ne 6, 3) := by decide +kernel
theorem dX6_tellOf_24 : decode cX6_tellOf 24 = .ok (.ldc 88, 2) := by decide +kernel
theorem dX6_tellOf_26 : decode cX6_tellOf 26 = .ok (.ireturn, 1) := by decide +kernel
theorem dX6_tellOf_27 : decode cX6_tellOf 27 = .ok (.aload_n 0, 1) := by decide +kernel
theorem dX6_tellOf_28 : decode cX6_tellOf 28 = .ok (.getfield 50, 3) := by decide +kernel
theorem dX6_tellOf_31 : decode cX6_tellOf 31 = .ok (.aload_n 0, 1) := by decide +kernel
theorem dX6_tellOf_32 : decode cX6_tellOf 32 = .ok (.getfield 154, 3) := by decide +kernel
theorem dX6_tellOf_35 : decode cX6_tellOf 35 = .ok (.iload_n 1, 1) := by decide +kernel
theorem dX6_tellOf_36 : decode cX6_tellOf 36 = .ok (.iastore, 1) := by decide +kernel
theorem dX6_tellOf_37 : decode cX6_tellOf 37 = .ok (.aload_n 0, 1) := by decide +kernel
theorem dX6_tellOf_38 : decode cX6_tellOf 38 = .ok (.getfield 53, 3) := by decide +kernel
theorem dX6_tellOf_41 : decode cX6_tellOf 41 = .ok (.aload_n 0, 1) := by decide +kernel
theorem dX6_tellOf_42 : decode cX6_tellOf 42 = .ok (.getfield 154, 3) := by decide +kernel
theorem dX6_tellOf_45 : decode cX6_tellOf 45 = .ok (.iload_n 2, 1) := by decide +kernel
theorem dX6_tellOf_46 : decode cX6_tellOf 46 = .ok (.ifCond .eq 7, 3) := by decide +kernel
theorem dX6_tellOf_49 : decode cX6_tellOf 49 = .ok (.iconst 1, 1) := by decide +kernel
theorem dX6_tellOf_50 : decode cX6_tellOf 50 = .ok (.goto 4, 3) := by decide +kernel
theorem dX6_tellOf_53 : decode cX6_tellOf 53 = .ok (.iconst 0, 1) := by decide +kernel
theorem dX6_tellOf_54 : decode cX6_tellOf 54 = .ok (.iastore, 1) := by decide +kernel
theorem dX6_tellOf_55 : decode cX6_tellOf 55 = .ok (.aload_n 0, 1) := by decide +kernel
theorem dX6_tellOf_56 : decode cX6_tellOf 56 = .ok (.dup, 1) := by decide +kernel
theorem dX6_tellOf_57 : decode cX6_tellOf 57 = .ok (.getfield 154, 3) := by decide +kernel
theorem dX6_tellOf_60 : decode cX6_tellOf 60 = .ok (.iconst 1, 1) := by decide +kernel
theorem dX6_tellOf_61 : decode cX6_tellOf 61 = .ok (.iadd, 1) := by decide +kernel
theorem dX6_tellOf_62 : decode cX6_tellOf 62 = .ok (.putfield 154, 3) := by decide +kernel
theorem dX6_tellOf_65 : decode cX6_tellOf 65 = .ok (.aload_n 0, 1) := by decide +kernel
theorem dX6_tellOf_66 : decode cX6_tellOf 66 = .ok (.getfield 154, 3) := by decide +kernel
theorem dX6_tellOf_69 : decode cX6_tellOf 69 = .ok (.ireturn, 1) := by decide +kernel
theorem dX6_isSo_0 : decode cX6_isSo 0 = .ok (.iconst 1, 1) := by decide +kernel
theorem dX6_isSo_1 : decode cX6_isSo 1 = .ok (.istore_n 2, 1) := by decide +kernel
theorem dX6_isSo_2 : decode cX6_isSo 2 = .ok (.iconst 0, 1) := by decide +kernel
theorem dX6_isSo_3 : decode cX6_isSo 3 = .ok (.istore_n 3, 1) := by decide +kernel
theorem dX6_isSo_4 : decode cX6_isSo 4 = .ok (.iload_n 3, 1) := by decide +kernel
theorem dX6_isSo_5 : decode cX6_isSo 5 = .ok (.aload_n 0, 1) := by decide +kernel
theorem dX6_isSo_6 : decode cX6_isSo 6 = .ok (.getfield 154, 3) := by decide +kernel
theorem dX6_isSo_9 : decode cX6_isSo 9 = .ok (.if_icmp .ge 38, 3) := by decide +kernel
theorem dX6_isSo_12 : decode cX6_isSo 12 = .ok (.iload_n 2, 1) := by decide +kernel
theorem dX6_isSo_13 : decode cX6_isSo 13 = .ok (.ifCond .eq 26, 3) := by decide +kernel
theorem dX6_isSo_16 : decode cX6_isSo 16 = .ok (.iload_n 1, 1) := by decide +kernel
theorem dX6_isSo_17 : decode cX6_isSo 17 = .ok (.aload_n 0, 1) := by decide +kernel
theorem dX6_isSo_18 : decode cX6_isSo 18 = .ok (.getfield 50, 3) := by decide +kernel
theorem dX6_isSo_21 : decode cX6_isSo 21 = .ok (.iload_n 3, 1) := by decide +kernel
theorem dX6_isSo_22 : decode cX6_isSo 22 = .ok (.iaload, 1) := by decide +kernel
theorem dX6_isSo_23 : decode cX6_isSo 23 = .ok (.ishr, 1) := by decide +kernel
theorem dX6_isSo_24 : decode cX6_isSo 24 = .ok (.iconst 1, 1) := by decide +kernel
theorem dX6_isSo_25 : decode cX6_isSo 25 = .ok (.iand, 1) := by decide +kernel
theorem dX6_isSo_26 : decode cX6_isSo 26 = .ok (.aload_n 0, 1) := by decide +kernel
theorem dX6_isSo_27 : decode cX6_isSo 27 = .ok (.getfield 53, 3) := by decide +kernel
theorem dX6_isSo_30 : decode cX6_isSo 30 = .ok (.iload_n 3, 1) := by decide +kernel
theorem dX6_isSo_31 : decode cX6_isSo 31 = .ok (.iaload, 1) := by decide +kernel
theorem dX6_isSo_32 : decode cX6_isSo 32 = .ok (.if_icmp .ne 7, 3) := by decide +kernel
theorem dX6_isSo_35 : decode cX6_isSo 35 = .ok (.iconst 1, 1) := by decide +kernel
theorem dX6_isSo_36 : decode cX6_isSo 36 = .ok (.goto 4, 3) := by decide +kernel
theorem dX6_isSo_39 : decode cX6_isSo 39 = .ok (.iconst 0, 1) := by decide +kernel
theorem dX6_isSo_40 : decode cX6_isSo 40 = .ok (.istore_n 2, 1) := by decide +kernel
theorem dX6_isSo_41 : decode cX6_isSo 41 = .ok (.iinc 3 1, 3) := by decide +kernel
theorem dX6_isSo_44 : decode cX6_isSo 44 = .ok (.goto (-40), 3) := by decide +kernel
theorem dX6_isSo_47 : decode cX6_isSo 47 = .ok (.iload_n 2, 1) := by decide +kernel
theorem dX6_isSo_48 : decode cX6_isSo 48 = .ok (.ireturn, 1) := by decide +kernel
set_option maxRecDepth 20000 in
theorem ggX6_mayBe_X6_shifted : GoodIn wsX6_mayBe wsX6_shifted := goodIn_r _ [6, 7, 8, 9, 5, 10, 11, 12, 13] (by decide +kernel) (by decide +kernel)
set_option maxRecDepth 20000 in
theorem gX6_mayBe_X6_shifted : GoodIn wsX6_mayBe (va_wsS RX6 166 yX6_shifted wsX6_shifted) := goodIn_app (goodIn_of _ (by decide +kernel)) ggX6_mayBe_X6_shifted
set_option maxRecDepth 20000 in
theorem ggX6_mayBe_X6_isSo : GoodIn wsX6_mayBe wsX6_isSo := goodIn_r _ [17, 18, 19, 20, 21, 22, 23, 24, 25, 26, 27, 28, 29, 30, 31, 32, 33, 34, 35, 36, 37, 38, 39, 40, 41, 42, 43, 44, 45, 46, 47, 48, 49, 50, 51, 52, 53] (by decide +kernel) (by decide +kernel)
set_option maxRecDepth 20000 in
theorem gX6_mayBe_X6_isSo : GoodIn wsX6_mayBe (wsV RX6 268 RX6 yX6_isSo wsX6_isSo) := goodIn_app (goodIn_of _ (by decide +kernel)) ggX6_mayBe_X6_isSo
theorem dX6_mayBe_0 : decode cX6_mayBe 0 = .ok (.iconst 0, 1) := by decide +kernel
theorem dX6_mayBe_1 : decode cX6_mayBe 1 = .ok (.istore_n 1, 1) := by decide +kernel
theorem dX6_mayBe_2 : decode cX6_mayBe 2 = .ok (.iconst 0, 1) := by decide +kernel
theorem dX6_mayBe_3 : decode cX6_mayBe 3 = .ok (.istore_n 2, 1) := by decide +kernel
theorem dX6_mayBe_4 : decode cX6_mayBe 4 = .ok (.iload_n 2, 1) := by decide +kernel
theorem dX6_mayBe_5 : decode cX6_mayBe 5 = .ok (.aload_n 0, 1) := by decide +kernel
theorem dX6_mayBe_6 : decode cX6_mayBe 6 = .ok (.getfield 72, 3) := by decide +kernel
theorem dX6_mayBe_9 : decode cX6_mayBe 9 = .ok (.if_icmp .ge 50, 3) := by decide +kernel
theorem dX6_mayBe_12 : decode cX6_mayBe 12 = .ok (.iconst 0, 1) := by decide +kernel
theorem dX6_mayBe_13 : decode cX6_mayBe 13 = .ok (.istore_n 3, 1) := by decide +kernel
theorem dX6_mayBe_14 : decode cX6_mayBe 14 = .ok (.iload_n 3, 1) := by decide +kernel
theorem dX6_mayBe_15 : decode cX6_mayBe 15 = .ok (.bipush 6, 2) := by decide +kernel
theorem dX6_mayBe_17 : decode cX6_mayBe 17 = .ok (.if_icmp .ge 36, 3) := by decide +kernel
theorem dX6_mayBe_20 : decode cX6_mayBe 20 = .ok (.iload_n 1, 1) := by decide +kernel
theorem dX6_mayBe_21 : decode cX6_mayBe 21 = .ok (.aload_n 0, 1) := by decide +kernel
theorem dX6_mayBe_22 : decode cX6_mayBe 22 = .ok (.aload_n 0, 1) := by decide +kernel
theorem dX6_mayBe_23 : decode cX6_mayBe 23 = .ok (.getfield 7, 3) := by decide +kernel
theorem dX6_mayBe_26 : decode cX6_mayBe 26 = .ok (.iload_n 2, 1) := by decide +kernel
theorem dX6_mayBe_27 : decode cX6_mayBe 27 = .ok (.iaload, 1) := by decide +kernel
theorem dX6_mayBe_28 : decode cX6_mayBe 28 = .ok (.iload_n 3, 1) := by decide +kernel
theorem dX6_mayBe_29 : decode cX6_mayBe 29 = .ok (.invokestatic 166, 3) := by decide +kernel
theorem dX6_mayBe_32 : decode cX6_mayBe 32 = .ok (.invokevirtual 268, 3) := by decide +kernel
theorem dX6_mayBe_35 : decode cX6_mayBe 35 = .ok (.ifCond .eq 9, 3) := by decide +kernel
theorem dX6_mayBe_38 : decode cX6_mayBe 38 = .ok (.iconst 1, 1) := by decide +kernel
theorem dX6_mayBe_39 : decode cX6_mayBe 39 = .ok (.iload_n 2, 1) := by decide +kernel
theorem dX6_mayBe_40 : decode cX6_mayBe 40 = .ok (.ishl, 1) := by decide +kernel
theorem dX6_mayBe_41 : decode cX6_mayBe 41 = .ok (.goto 4, 3) := by decide +kernel
theorem dX6_mayBe_44 : decode cX6_mayBe 44 = .ok (.iconst 0, 1) := by decide +kernel
theorem dX6_mayBe_45 : decode cX6_mayBe 45 = .ok (.ior, 1) := by decide +kernel
theorem dX6_mayBe_46 : decode cX6_mayBe 46 = .ok (.istore_n 1, 1) := by decide +kernel
theorem dX6_mayBe_47 : decode cX6_mayBe 47 = .ok (.iinc 3 1, 3) := by decide +kernel
theorem dX6_mayBe_50 : decode cX6_mayBe 50 = .ok (.goto (-36), 3) := by decide +kernel
theorem dX6_mayBe_53 : decode cX6_mayBe 53 = .ok (.iinc 2 1, 3) := by decide +kernel
theorem dX6_mayBe_56 : decode cX6_mayBe 56 = .ok (.goto (-52), 3) := by decide +kernel
theorem dX6_mayBe_59 : decode cX6_mayBe 59 = .ok (.iload_n 1, 1) := by decide +kernel
theorem dX6_mayBe_60 : decode cX6_mayBe 60 = .ok (.ireturn, 1) := by decide +kernel
set_option maxRecDepth 20000 in
theorem ggX6_ask_X6_shifted : GoodIn wsX6_ask wsX6_shifted := goodIn_r _ [7, 8, 9, 10, 6, 11, 12, 13, 14] (by decide +kernel) (by decide +kernel)
set_option maxRecDepth 20000 in
theorem gX6_ask_X6_shifted : GoodIn wsX6_ask (va_wsS RX6 166 yX6_shifted wsX6_shifted) := goodIn_app (goodIn_of _ (by decide +kernel)) ggX6_ask_X6_shifted
set_option maxRecDepth 20000 in
theorem ggX6_ask_X6_isSo : GoodIn wsX6_ask wsX6_isSo := goodIn_r _ [18, 19, 20, 21, 22, 23, 24, 25, 26, 27, 28, 29, 30, 31, 32, 33, 34, 35, 36, 37, 38, 39, 40, 41, 42, 43, 44, 45, 46, 47, 48, 49, 50, 51, 52, 53, 54] (by decide +kernel) (by decide +kernel)
set_option maxRecDepth 20000 in
theorem gX6_ask_X6_isSo : GoodIn wsX6_ask (wsV RX6 268 RX6 yX6_isSo wsX6_isSo) := goodIn_app (goodIn_of _ (by decide +kernel)) ggX6_ask_X6_isSo
theorem dX6_ask_0 : decode cX6_ask 0 = .ok (.iconst 0, 1) := by decide +kernel
theorem dX6_ask_1 : decode cX6_ask 1 = .ok (.istore_n 1, 1) := by decide +kernel
theorem dX6_ask_2 : decode cX6_ask 2 = .ok (.iconst 0, 1) := by decide +kernel
theorem dX6_ask_3 : decode cX6_ask 3 = .ok (.istore_n 2, 1) := by decide +kernel
theorem dX6_ask_4 : decode cX6_ask 4 = .ok (.iload_n 2, 1) := by decide +kernel
theorem dX6_ask_5 : decode cX6_ask 5 = .ok (.bipush 30, 2) := by decide +kernel
theorem dX6_ask_7 : decode cX6_ask 7 = .ok (.if_icmp .ge 16, 3) := by decide +kernel
theorem dX6_ask_10 : decode cX6_ask 10 = .ok (.aload_n 0, 1) := by decide +kernel
theorem dX6_ask_11 : decode cX6_ask 11 = .ok (.getfield 56, 3) := by decide +kernel
theorem dX6_ask_14 : decode cX6_ask 14 = .ok (.iload_n 2, 1) := by decide +kernel
theorem dX6_ask_15 : decode cX6_ask 15 = .ok (.iconst 0, 1) := by decide +kernel
theorem dX6_ask_16 : decode cX6_ask 16 = .ok (.iastore, 1) := by decide +kernel
theorem dX6_ask_17 : decode cX6_ask 17 = .ok (.iinc 2 1, 3) := by decide +kernel
theorem dX6_ask_20 : decode cX6_ask 20 = .ok (.goto (-16), 3) := by decide +kernel
theorem dX6_ask_23 : decode cX6_ask 23 = .ok (.iconst 0, 1) := by decide +kernel
theorem dX6_ask_24 : decode cX6_ask 24 = .ok (.istore_n 2, 1) := by decide +kernel
theorem dX6_ask_25 : decode cX6_ask 25 = .ok (.iload_n 2, 1) := by decide +kernel
theorem dX6_ask_26 : decode cX6_ask 26 = .ok (.bipush 6, 2) := by decide +kernel
theorem dX6_ask_28 : decode cX6_ask 28 = .ok (.aload_n 0, 1) := by decide +kernel
theorem dX6_ask_29 : decode cX6_ask 29 = .ok (.getfield 72, 3) := by decide +kernel
theorem dX6_ask_32 : decode cX6_ask 32 = .ok (.imul, 1) := by decide +kernel
theorem dX6_ask_33 : decode cX6_ask 33 = .ok (.if_icmp .ge 69, 3) := by decide +kernel
theorem dX6_ask_36 : decode cX6_ask 36 = .ok (.aload_n 0, 1) := by decide +kernel
theorem dX6_ask_37 : decode cX6_ask 37 = .ok (.getfield 7, 3) := by decide +kernel
theorem dX6_ask_40 : decode cX6_ask 40 = .ok (.iload_n 2, 1) := by decide +kernel
theorem dX6_ask_41 : decode cX6_ask 41 = .ok (.bipush 6, 2) := by decide +kernel
theorem dX6_ask_43 : decode cX6_ask 43 = .ok (.idiv, 1) := by decide +kernel
theorem dX6_ask_44 : decode cX6_ask 44 = .ok (.iaload, 1) := by decide +kernel
theorem dX6_ask_45 : decode cX6_ask 45 = .ok (.iload_n 2, 1) := by decide +kernel
theorem dX6_ask_46 : decode cX6_ask 46 = .ok (.bipush 6, 2) := by decide +kernel
theorem dX6_ask_48 : decode cX6_ask 48 = .ok (.irem, 1) := by decide +kernel
theorem dX6_ask_49 : decode cX6_ask 49 = .ok (.invokestatic 166, 3) := by decide +kernel
theorem dX6_ask_52 : decode cX6_ask 52 = .ok (.istore_n 3, 1) := by decide +kernel
theorem dX6_ask_53 : decode cX6_ask 53 = .ok (.aload_n 0, 1) := by decide +kernel
theorem dX6_ask_54 : decode cX6_ask 54 = .ok (.iload_n 3, 1) := by decide +kernel
theorem dX6_ask_55 : decode cX6_ask 55 = .ok (.invokevirtual 268, 3) := by decide +kernel
theorem dX6_ask_58 : decode cX6_ask 58 = .ok (.ifCond .eq 38, 3) := by decide +kernel
theorem dX6_ask_61 : decode cX6_ask 61 = .ok (.iinc 1 1, 3) := by decide +kernel
theorem dX6_ask_64 : decode cX6_ask 64 = .ok (.iconst 0, 1) := by decide +kernel
theorem dX6_ask_65 : decode cX6_ask 65 = .ok (.istore 4, 2) := by decide +kernel
theorem dX6_ask_67 : decode cX6_ask 67 = .ok (.iload 4, 2) := by decide +kernel
theorem dX6_ask_69 : decode cX6_ask 69 = .ok (.bipush 30, 2) := by decide +kernel
theorem dX6_ask_71 : decode cX6_ask 71 = .ok (.if_icmp .ge 25, 3) := by decide +kernel
theorem dX6_ask_74 : decode cX6_ask 74 = .ok (.aload_n 0, 1) := by decide +kernel
theorem dX6_ask_75 : decode cX6_ask 75 = .ok (.getfield 56, 3) := by decide +kernel
theorem dX6_ask_78 : decode cX6_ask 78 = .ok (.iload 4, 2) := by decide +kernel
theorem dX6_ask_80 : decode cX6_ask 80 = .ok (.dup2, 1) := by decide +kernel
theorem dX6_ask_81 : decode cX6_ask 81 = .ok (.iaload, 1) := by decide +kernel
theorem dX6_ask_82 : decode cX6_ask 82 = .ok (.iload_n 3, 1) := by decide +kernel
theorem dX6_ask_83 : decode cX6_ask 83 = .ok (.iload 4, 2) := by decide +kernel
theorem dX6_ask_85 : decode cX6_ask 85 = .ok (.ishr, 1) := by decide +kernel
theorem dX6_ask_86 : decode cX6_ask 86 = .ok (.iconst 1, 1) := by decide +kernel
theorem dX6_ask_87 : decode cX6_ask 87 = .ok (.iand, 1) := by decide +kernel
theorem dX6_ask_88 : decode cX6_ask 88 = .ok (.iadd, 1) := by decide +kernel
theorem dX6_ask_89 : decode cX6_ask 89 = .ok (.iastore, 1) := by decide +kernel
theorem dX6_ask_90 : decode cX6_ask 90 = .ok (.iinc 4 1, 3) := by decide +kernel
theorem dX6_ask_93 : decode cX6_ask 93 = .ok (.goto (-26), 3) := by decide +kernel
theorem dX6_ask_96 : decode cX6_ask 96 = .ok (.iinc 2 1, 3) := by decide +kernel
theorem dX6_ask_99 : decode cX6_ask 99 = .ok (.goto (-74), 3) := by decide +kernel
theorem dX6_ask_102 : decode cX6_ask 102 = .ok (.iconst (-1), 1) := by decide +kernel
theorem dX6_ask_103 : decode cX6_ask 103 = .ok (.istore_n 2, 1) := by decide +kernel
theorem dX6_ask_104 : decode cX6_ask 104 = .ok (.iload_n 1, 1) := by decide +kernel
theorem dX6_ask_105 : decode cX6_ask 105 = .ok (.istore_n 3, 1) := by decide +kernel
theorem dX6_ask_106 : decode cX6_ask 106 = .ok (.iconst 0, 1) := by decide +kernel
theorem dX6_ask_107 : decode cX6_ask 107 = .ok (.istore 4, 2) := by decide +kernel
theorem dX6_ask_109 : decode cX6_ask 109 = .ok (.iload 4, 2) := by decide +kernel
theorem dX6_ask_111 : decode cX6_ask 111 = .ok (.bipush 30, 2) := by decide +kernel
theorem dX6_ask_113 : decode cX6_ask 113 = .ok (.if_icmp .ge 75, 3) := by decide +kernel
theorem dX6_ask_116 : decode cX6_ask 116 = .ok (.aload_n 0, 1) := by decide +kernel
theorem dX6_ask_117 : decode cX6_ask 117 = .ok (.getfield 56, 3) := by decide +kernel
theorem dX6_ask_120 : decode cX6_ask 120 = .ok (.iload 4, 2) := by decide +kernel
theorem dX6_ask_122 : decode cX6_ask 122 = .ok (.iaload, 1) := by decide +kernel
theorem dX6_ask_123 : decode cX6_ask 123 = .ok (.iload_n 1, 1) := by decide +kernel
theorem dX6_ask_124 : decode cX6_ask 124 = .ok (.aload_n 0, 1) := by decide +kernel
theorem dX6_ask_125 : decode cX6_ask 125 = .ok (.getfield 56, 3) := by decide +kernel
theorem dX6_ask_128 : decode cX6_ask 128 = .ok (.iload 4, 2) := by decide +kernel
theorem dX6_ask_130 : decode cX6_ask 130 = .ok (.iaload, 1) := by decide +kernel
theorem dX6_ask_131 : decode cX6_ask 131 = .ok (.isub, 1) := by decide +kernel
theorem dX6_ask_132 : decode cX6_ask 132 = .ok (.if_icmp .le 13, 3) := by decide +kernel
theorem dX6_ask_135 : decode cX6_ask 135 = .ok (.aload_n 0, 1) := by decide +kernel
theorem dX6_ask_136 : decode cX6_ask 136 = .ok (.getfield 56, 3) := by decide +kernel
theorem dX6_ask_139 : decode cX6_ask 139 = .ok (.iload 4, 2) := by decide +kernel
theorem dX6_ask_141 : decode cX6_ask 141 = .ok (.iaload, 1) := by decide +kernel
theorem dX6_ask_142 : decode cX6_ask 142 = .ok (.goto 12, 3) := by decide +kernel
theorem dX6_ask_145 : decode cX6_ask 145 = .ok (.iload_n 1, 1) := by decide +kernel
theorem dX6_ask_146 : decode cX6_ask 146 = .ok (.aload_n 0, 1) := by decide +kernel
theorem dX6_ask_147 : decode cX6_ask 147 = .ok (.getfield 56, 3) := by decide +kernel
theorem dX6_ask_150 : decode cX6_ask 150 = .ok (.iload 4, 2) := by decide +kernel
theorem dX6_ask_152 : decode cX6_ask 152 = .ok (.iaload, 1) := by decide +kernel
theorem dX6_ask_153 : decode cX6_ask 153 = .ok (.isub, 1) := by decide +kernel
theorem dX6_ask_154 : decode cX6_ask 154 = .ok (.istore 5, 2) := by decide +kernel
theorem dX6_ask_156 : decode cX6_ask 156 = .ok (.iload 5, 2) := by decide +kernel
theorem dX6_ask_158 : decode cX6_ask 158 = .ok (.iload_n 3, 1) := by decide +kernel
theorem dX6_ask_159 : decode cX6_ask 159 = .ok (.if_icmp .ge 8, 3) := by decide +kernel
theorem dX6_ask_162 : decode cX6_ask 162 = .ok (.iload 4, 2) := by decide +kernel
theorem dX6_ask_164 : decode cX6_ask 164 = .ok (.goto 4, 3) := by decide +kernel
theorem dX6_ask_167 : decode cX6_ask 167 = .ok (.iload_n 2, 1) := by decide +kernel
theorem dX6_ask_168 : decode cX6_ask 168 = .ok (.istore_n 2, 1) := by decide +kernel
theorem dX6_ask_169 : decode cX6_ask 169 = .ok (.iload 5, 2) := by decide +kernel
theorem dX6_ask_171 : decode cX6_ask 171 = .ok (.iload_n 3, 1) := by decide +kernel
theorem dX6_ask_172 : decode cX6_ask 172 = .ok (.if_icmp .ge 8, 3) := by decide +kernel
theorem dX6_ask_175 : decode cX6_ask 175 = .ok (.iload 5, 2) := by decide +kernel
theorem dX6_ask_177 : decode cX6_ask 177 = .ok (.goto 4, 3) := by decide +kernel
theorem dX6_ask_180 : decode cX6_ask 180 = .ok (.iload_n 3, 1) := by decide +kernel
theorem dX6_ask_181 : decode cX6_ask 181 = .ok (.istore_n 3, 1) := by decide +kernel
theorem dX6_ask_182 : decode cX6_ask 182 = .ok (.iinc 4 1, 3) := by decide +kernel
theorem dX6_ask_185 : decode cX6_ask 185 = .ok (.goto (-76), 3) := by decide +kernel
theorem dX6_ask_188 : decode cX6_ask 188 = .ok (.iload_n 2, 1) := by decide +kernel
theorem dX6_ask_189 : decode cX6_ask 189 = .ok (.ireturn, 1) := by decide +kernel
theorem dX6_tear_0 : decode cX6_tear 0 = .ok (.aload_n 0, 1) := by decide +kernel
theorem dX6_tear_1 : decode cX6_tear 1 = .ok (.getfield 154, 3) := by decide +kernel
theorem dX6_tear_4 : decode cX6_tear 4 = .ok (.istore_n 1, 1) := by decide +kernel
theorem dX6_tear_5 : decode cX6_tear 5 = .ok (.aload_n 0, 1) := by decide +kernel
theorem dX6_tear_6 : decode cX6_tear 6 = .ok (.iconst 0, 1) := by decide +kernel
theorem dX6_tear_7 : decode cX6_tear 7 = .ok (.putfield 154, 3) := by decide +kernel
theorem dX6_tear_10 : decode cX6_tear 10 = .ok (.iload_n 1, 1) := by decide +kernel
theorem dX6_tear_11 : decode cX6_tear 11 = .ok (.ireturn, 1) := by decide +kernel
theorem dX6_seed_0 : decode cX6_seed 0 = .ok (.iload_n 1, 1) := by decide +kernel
theorem dX6_seed_1 : decode cX6_seed 1 = .ok (.ifCond .ge 6, 3) := by decide +kernel
theorem dX6_seed_4 : decode cX6_seed 4 = .ok (.ldc 84, 2) := by decide +kernel
theorem dX6_seed_6 : decode cX6_seed 6 = .ok (.ireturn, 1) := by decide +kernel
theorem dX6_seed_7 : decode cX6_seed 7 = .ok (.aload_n 0, 1) := by decide +kernel
theorem dX6_seed_8 : decode cX6_seed 8 = .ok (.getfield 231, 3) := by decide +kernel
theorem dX6_seed_11 : decode cX6_seed 11 = .ok (.istore_n 2, 1) := by decide +kernel
theorem dX6_seed_12 : decode cX6_seed 12 = .ok (.aload_n 0, 1) := by decide +kernel
theorem dX6_seed_13 : decode cX6_seed 13 = .ok (.iload_n 1, 1) := by decide +kernel
theorem dX6_seed_14 : decode cX6_seed 14 = .ok (.putfield 231, 3) := by decide +kernel
theorem dX6_seed_17 : decode cX6_seed 17 = .ok (.iload_n 2, 1) := by decide +kernel
theorem dX6_seed_18 : decode cX6_seed 18 = .ok (.ireturn, 1) := by decide +kernel
set_option maxRecDepth 20000 in
theorem ggX6_keep_X6_in : GoodIn wsX6_keep wsX6_in := goodIn_r _ [10] (by decide +kernel) (by decide +kernel)
set_option maxRecDepth 20000 in
theorem gX6_keep_X6_in : GoodIn wsX6_keep (va_wsS RX6 75 yX6_in wsX6_in) := goodIn_app (goodIn_of _ (by decide +kernel)) ggX6_keep_X6_in
theorem dX6_keep_0 : decode cX6_keep 0 = .ok (.iload_n 1, 1) := by decide +kernel
theorem dX6_keep_1 : decode cX6_keep 1 = .ok (.i2l, 1) := by decide +kernel
theorem dX6_keep_2 : decode cX6_keep 2 = .ok (.lconst 0, 1) := by decide +kernel
theorem dX6_keep_3 : decode cX6_keep 3 = .ok (.lconst 1, 1) := by decide +kernel
theorem dX6_keep_4 : decode cX6_keep 4 = .ok (.invokestatic 75, 3) := by decide +kernel
theorem dX6_keep_7 : decode cX6_keep 7 = .ok (.ifCond .ne 6, 3) := by decide +kernel
theorem dX6_keep_10 : decode cX6_keep 10 = .ok (.ldc 190, 2) := by decide +kernel
theorem dX6_keep_12 : decode cX6_keep 12 = .ok (.ireturn, 1) := by decide +kernel
theorem dX6_keep_13 : decode cX6_keep 13 = .ok (.iconst 0, 1) := by decide +kernel
theorem dX6_keep_14 : decode cX6_keep 14 = .ok (.istore_n 2, 1) := by decide +kernel
theorem dX6_keep_15 : decode cX6_keep 15 = .ok (.iload_n 2, 1) := by decide +kernel
theorem dX6_keep_16 : decode cX6_keep 16 = .ok (.bipush 82, 2) := by decide +kernel
theorem dX6_keep_18 : decode cX6_keep 18 = .ok (.if_icmp .ge 26, 3) := by decide +kernel
theorem dX6_keep_21 : decode cX6_keep 21 = .ok (.aload_n 0, 1) := by decide +kernel
theorem dX6_keep_22 : decode cX6_keep 22 = .ok (.getfield 59, 3) := by decide +kernel
theorem dX6_keep_25 : decode cX6_keep 25 = .ok (.bipush 83, 2) := by decide +kernel
theorem dX6_keep_27 : decode cX6_keep 27 = .ok (.iload_n 1, 1) := by decide +kernel
theorem dX6_keep_28 : decode cX6_keep 28 = .ok (.imul, 1) := by decide +kernel
theorem dX6_keep_29 : decode cX6_keep 29 = .ok (.iload_n 2, 1) := by decide +kernel
theorem dX6_keep_30 : decode cX6_keep 30 = .ok (.iadd, 1) := by decide +kernel
theorem dX6_keep_31 : decode cX6_keep 31 = .ok (.aload_n 0, 1) := by decide +kernel
theorem dX6_keep_32 : decode cX6_keep 32 = .ok (.getfield 19, 3) := by decide +kernel
theorem dX6_keep_35 : decode cX6_keep 35 = .ok (.iload_n 2, 1) := by decide +kernel
theorem dX6_keep_36 : decode cX6_keep 36 = .ok (.iaload, 1) := by decide +kernel
theorem dX6_keep_37 : decode cX6_keep 37 = .ok (.iastore, 1) := by decide +kernel
theorem dX6_keep_38 : decode cX6_keep 38 = .ok (.iinc 2 1, 3) := by decide +kernel
theorem dX6_keep_41 : decode cX6_keep 41 = .ok (.goto (-26), 3) := by decide +kernel
theorem dX6_keep_44 : decode cX6_keep 44 = .ok (.aload_n 0, 1) := by decide +kernel
theorem dX6_keep_45 : decode cX6_keep 45 = .ok (.getfield 59, 3) := by decide +kernel
theorem dX6_keep_48 : decode cX6_keep 48 = .ok (.bipush 83, 2) := by decide +kernel
theorem dX6_keep_50 : decode cX6_keep 50 = .ok (.iload_n 1, 1) := by decide +kernel
theorem dX6_keep_51 : decode cX6_keep 51 = .ok (.imul, 1) := by decide +kernel
theorem dX6_keep_52 : decode cX6_keep 52 = .ok (.bipush 82, 2) := by decide +kernel
theorem dX6_keep_54 : decode cX6_keep 54 = .ok (.iadd, 1) := by decide +kernel
theorem dX6_keep_55 : decode cX6_keep 55 = .ok (.aload_n 0, 1) := by decide +kernel
theorem dX6_keep_56 : decode cX6_keep 56 = .ok (.getfield 231, 3) := by decide +kernel
theorem dX6_keep_59 : decode cX6_keep 59 = .ok (.iastore, 1) := by decide +kernel
theorem dX6_keep_60 : decode cX6_keep 60 = .ok (.aload_n 0, 1) := by decide +kernel
theorem dX6_keep_61 : decode cX6_keep 61 = .ok (.getfield 62, 3) := by decide +kernel
theorem dX6_keep_64 : decode cX6_keep 64 = .ok (.iload_n 1, 1) := by decide +kernel
theorem dX6_keep_65 : decode cX6_keep 65 = .ok (.iconst 1, 1) := by decide +kernel
theorem dX6_keep_66 : decode cX6_keep 66 = .ok (.bastore, 1) := by decide +kernel
theorem dX6_keep_67 : decode cX6_keep 67 = .ok (.aload_n 0, 1) := by decide +kernel
theorem dX6_keep_68 : decode cX6_keep 68 = .ok (.iconst 0, 1) := by decide +kernel
theorem dX6_keep_69 : decode cX6_keep 69 = .ok (.putfield 157, 3) := by decide +kernel
theorem dX6_keep_72 : decode cX6_keep 72 = .ok (.iconst 1, 1) := by decide +kernel
theorem dX6_keep_73 : decode cX6_keep 73 = .ok (.ireturn, 1) := by decide +kernel
set_option maxRecDepth 20000 in
theorem ggX6_goBack_X6_in : GoodIn wsX6_goBack wsX6_in := goodIn_r _ [11] (by decide +kernel) (by decide +kernel)
set_option maxRecDepth 20000 in
theorem gX6_goBack_X6_in : GoodIn wsX6_goBack (va_wsS RX6 75 yX6_in wsX6_in) := goodIn_app (goodIn_of _ (by decide +kernel)) ggX6_goBack_X6_in
theorem dX6_goBack_0 : decode cX6_goBack 0 = .ok (.iload_n 1, 1) := by decide +kernel
theorem dX6_goBack_1 : decode cX6_goBack 1 = .ok (.i2l, 1) := by decide +kernel
theorem dX6_goBack_2 : decode cX6_goBack 2 = .ok (.lconst 0, 1) := by decide +kernel
theorem dX6_goBack_3 : decode cX6_goBack 3 = .ok (.lconst 1, 1) := by decide +kernel
theorem dX6_goBack_4 : decode cX6_goBack 4 = .ok (.invokestatic 75, 3) := by decide +kernel
theorem dX6_goBack_7 : decode cX6_goBack 7 = .ok (.ifCond .ne 6, 3) := by decide +kernel
theorem dX6_goBack_10 : decode cX6_goBack 10 = .ok (.ldc 190, 2) := by decide +kernel
theorem dX6_goBack_12 : decode cX6_goBack 12 = .ok (.ireturn, 1) := by decide +kernel
theorem dX6_goBack_13 : decode cX6_goBack 13 = .ok (.aload_n 0, 1) := by decide +kernel
theorem dX6_goBack_14 : decode cX6_goBack 14 = .ok (.getfield 62, 3) := by decide +kernel
theorem dX6_goBack_17 : decode cX6_goBack 17 = .ok (.iload_n 1, 1) := by decide +kernel
theorem dX6_goBack_18 : decode cX6_goBack 18 = .ok (.baload, 1) := by decide +kernel
theorem dX6_goBack_19 : decode cX6_goBack 19 = .ok (.ifCond .ne 6, 3) := by decide +kernel
theorem dX6_goBack_22 : decode cX6_goBack 22 = .ok (.ldc 205, 2) := by decide +kernel
theorem dX6_goBack_24 : decode cX6_goBack 24 = .ok (.ireturn, 1) := by decide +kernel
theorem dX6_goBack_25 : decode cX6_goBack 25 = .ok (.iconst 0, 1) := by decide +kernel
theorem dX6_goBack_26 : decode cX6_goBack 26 = .ok (.istore_n 2, 1) := by decide +kernel
theorem dX6_goBack_27 : decode cX6_goBack 27 = .ok (.iload_n 2, 1) := by decide +kernel
theorem dX6_goBack_28 : decode cX6_goBack 28 = .ok (.bipush 82, 2) := by decide +kernel
theorem dX6_goBack_30 : decode cX6_goBack 30 = .ok (.if_icmp .ge 26, 3) := by decide +kernel
theorem dX6_goBack_33 : decode cX6_goBack 33 = .ok (.aload_n 0, 1) := by decide +kernel
theorem dX6_goBack_34 : decode cX6_goBack 34 = .ok (.getfield 19, 3) := by decide +kernel
theorem dX6_goBack_37 : decode cX6_goBack 37 = .ok (.iload_n 2, 1) := by decide +kernel
theorem dX6_goBack_38 : decode cX6_goBack 38 = .ok (.aload_n 0, 1) := by decide +kernel
theorem dX6_goBack_39 : decode cX6_goBack 39 = .ok (.getfield 59, 3) := by decide +kernel
theorem dX6_goBack_42 : decode cX6_goBack 42 = .ok (.bipush 83, 2) := by decide +kernel
theorem dX6_goBack_44 : decode cX6_goBack 44 = .ok (.iload_n 1, 1) := by decide +kernel
theorem dX6_goBack_45 : decode cX6_goBack 45 = .ok (.imul, 1) := by decide +kernel
theorem dX6_goBack_46 : decode cX6_goBack 46 = .ok (.iload_n 2, 1) := by decide +kernel
theorem dX6_goBack_47 : decode cX6_goBack 47 = .ok (.iadd, 1) := by decide +kernel
theorem dX6_goBack_48 : decode cX6_goBack 48 = .ok (.iaload, 1) := by decide +kernel
theorem dX6_goBack_49 : decode cX6_goBack 49 = .ok (.iastore, 1) := by decide +kernel
theorem dX6_goBack_50 : decode cX6_goBack 50 = .ok (.iinc 2 1, 3) := by decide +kernel
theorem dX6_goBack_53 : decode cX6_goBack 53 = .ok (.goto (-26), 3) := by decide +kernel
theorem dX6_goBack_56 : decode cX6_goBack 56 = .ok (.aload_n 0, 1) := by decide +kernel
theorem dX6_goBack_57 : decode cX6_goBack 57 = .ok (.aload_n 0, 1) := by decide +kernel
theorem dX6_goBack_58 : decode cX6_goBack 58 = .ok (.getfield 59, 3) := by decide +kernel
theorem dX6_goBack_61 : decode cX6_goBack 61 = .ok (.bipush 83, 2) := by decide +kernel
theorem dX6_goBack_63 : decode cX6_goBack 63 = .ok (.iload_n 1, 1) := by decide +kernel
theorem dX6_goBack_64 : decode cX6_goBack 64 = .ok (.imul, 1) := by decide +kernel
theorem dX6_goBack_65 : decode cX6_goBack 65 = .ok (.bipush 82, 2) := by decide +kernel
theorem dX6_goBack_67 : decode cX6_goBack 67 = .ok (.iadd, 1) := by decide +kernel
theorem dX6_goBack_68 : decode cX6_goBack 68 = .ok (.iaload, 1) := by decide +kernel
theorem dX6_goBack_69 : decode cX6_goBack 69 = .ok (.putfield 231, 3) := by decide +kernel
theorem dX6_goBack_72 : decode cX6_goBack 72 = .ok (.aload_n 0, 1) := by decide +kernel
theorem dX6_goBack_73 : decode cX6_goBack 73 = .ok (.iconst 0, 1) := by decide +kernel
theorem dX6_goBack_74 : decode cX6_goBack 74 = .ok (.putfield 157, 3) := by decide +kernel
theorem dX6_goBack_77 : decode cX6_goBack 77 = .ok (.iconst 1, 1) := by decide +kernel
theorem dX6_goBack_78 : decode cX6_goBack 78 = .ok (.ireturn, 1) := by decide +kernel
theorem dJ6_bitCount_0f7a4_0 : decode cJ6_bitCount_0f7a4 0 = .ok (.iload_n 0, 1) := by decide +kernel
theorem dJ6_bitCount_0f7a4_1 : decode cJ6_bitCount_0f7a4 1 = .ok (.iload_n 0, 1) := by decide +kernel
theorem dJ6_bitCount_0f7a4_2 : decode cJ6_bitCount_0f7a4 2 = .ok (.iconst 1, 1) := by decide +kernel
theorem dJ6_bitCount_0f7a4_3 : decode cJ6_bitCount_0f7a4 3 = .ok (.iushr, 1) := by decide +kernel
theorem dJ6_bitCount_0f7a4_4 : decode cJ6_bitCount_0f7a4 4 = .ok (.ldc_w 265, 3) := by decide +kernel
theorem dJ6_bitCount_0f7a4_7 : decode cJ6_bitCount_0f7a4 7 = .ok (.iand, 1) := by decide +kernel
theorem dJ6_bitCount_0f7a4_8 : decode cJ6_bitCount_0f7a4 8 = .ok (.isub, 1) := by decide +kernel
theorem dJ6_bitCount_0f7a4_9 : decode cJ6_bitCount_0f7a4 9 = .ok (.istore_n 0, 1) := by decide +kernel
theorem dJ6_bitCount_0f7a4_10 : decode cJ6_bitCount_0f7a4 10 = .ok (.iload_n 0, 1) := by decide +kernel
theorem dJ6_bitCount_0f7a4_11 : decode cJ6_bitCount_0f7a4 11 = .ok (.ldc_w 266, 3) := by decide +kernel
theorem dJ6_bitCount_0f7a4_14 : decode cJ6_bitCount_0f7a4 14 = .ok (.iand, 1) := by decide +kernel
theorem dJ6_bitCount_0f7a4_15 : decode cJ6_bitCount_0f7a4 15 = .ok (.iload_n 0, 1) := by decide +kernel
theorem dJ6_bitCount_0f7a4_16 : decode cJ6_bitCount_0f7a4 16 = .ok (.iconst 2, 1) := by decide +kernel
theorem dJ6_bitCount_0f7a4_17 : decode cJ6_bitCount_0f7a4 17 = .ok (.iushr, 1) := by decide +kernel
theorem dJ6_bitCount_0f7a4_18 : decode cJ6_bitCount_0f7a4 18 = .ok (.ldc_w 266, 3) := by decide +kernel
theorem dJ6_bitCount_0f7a4_21 : decode cJ6_bitCount_0f7a4 21 = .ok (.iand, 1) := by decide +kernel
theorem dJ6_bitCount_0f7a4_22 : decode cJ6_bitCount_0f7a4 22 = .ok (.iadd, 1) := by decide +kernel
theorem dJ6_bitCount_0f7a4_23 : decode cJ6_bitCount_0f7a4 23 = .ok (.istore_n 0, 1) := by decide +kernel
theorem dJ6_bitCount_0f7a4_24 : decode cJ6_bitCount_0f7a4 24 = .ok (.iload_n 0, 1) := by decide +kernel
theorem dJ6_bitCount_0f7a4_25 : decode cJ6_bitCount_0f7a4 25 = .ok (.iload_n 0, 1) := by decide +kernel
theorem dJ6_bitCount_0f7a4_26 : decode cJ6_bitCount_0f7a4 26 = .ok (.iconst 4, 1) := by decide +kernel
theorem dJ6_bitCount_0f7a4_27 : decode cJ6_bitCount_0f7a4 27 = .ok (.iushr, 1) := by decide +kernel
theorem dJ6_bitCount_0f7a4_28 : decode cJ6_bitCount_0f7a4 28 = .ok (.iadd, 1) := by decide +kernel
theorem dJ6_bitCount_0f7a4_29 : decode cJ6_bitCount_0f7a4 29 = .ok (.ldc_w 267, 3) := by decide +kernel
theorem dJ6_bitCount_0f7a4_32 : decode cJ6_bitCount_0f7a4 32 = .ok (.iand, 1) := by decide +kernel
theorem dJ6_bitCount_0f7a4_33 : decode cJ6_bitCount_0f7a4 33 = .ok (.istore_n 0, 1) := by decide +kernel
theorem dJ6_bitCount_0f7a4_34 : decode cJ6_bitCount_0f7a4 34 = .ok (.iload_n 0, 1) := by decide +kernel
theorem dJ6_bitCount_0f7a4_35 : decode cJ6_bitCount_0f7a4 35 = .ok (.iload_n 0, 1) := by decide +kernel
theorem dJ6_bitCount_0f7a4_36 : decode cJ6_bitCount_0f7a4 36 = .ok (.bipush 8, 2) := by decide +kernel
theorem dJ6_bitCount_0f7a4_38 : decode cJ6_bitCount_0f7a4 38 = .ok (.iushr, 1) := by decide +kernel
theorem dJ6_bitCount_0f7a4_39 : decode cJ6_bitCount_0f7a4 39 = .ok (.iadd, 1) := by decide +kernel
theorem dJ6_bitCount_0f7a4_40 : decode cJ6_bitCount_0f7a4 40 = .ok (.istore_n 0, 1) := by decide +kernel
theorem dJ6_bitCount_0f7a4_41 : decode cJ6_bitCount_0f7a4 41 = .ok (.iload_n 0, 1) := by decide +kernel
theorem dJ6_bitCount_0f7a4_42 : decode cJ6_bitCount_0f7a4 42 = .ok (.iload_n 0, 1) := by decide +kernel
theorem dJ6_bitCount_0f7a4_43 : decode cJ6_bitCount_0f7a4 43 = .ok (.bipush 16, 2) := by decide +kernel
theorem dJ6_bitCount_0f7a4_45 : decode cJ6_bitCount_0f7a4 45 = .ok (.iushr, 1) := by decide +kernel
theorem dJ6_bitCount_0f7a4_46 : decode cJ6_bitCount_0f7a4 46 = .ok (.iadd, 1) := by decide +kernel
theorem dJ6_bitCount_0f7a4_47 : decode cJ6_bitCount_0f7a4 47 = .ok (.istore_n 0, 1) := by decide +kernel
theorem dJ6_bitCount_0f7a4_48 : decode cJ6_bitCount_0f7a4 48 = .ok (.iload_n 0, 1) := by decide +kernel
theorem dJ6_bitCount_0f7a4_49 : decode cJ6_bitCount_0f7a4 49 = .ok (.bipush 63, 2) := by decide +kernel
theorem dJ6_bitCount_0f7a4_51 : decode cJ6_bitCount_0f7a4 51 = .ok (.iand, 1) := by decide +kernel
theorem dJ6_bitCount_0f7a4_52 : decode cJ6_bitCount_0f7a4 52 = .ok (.ireturn, 1) := by decide +kernel
theorem dJ9_floorMod_7cf53_0 : decode cJ9_floorMod_7cf53 0 = .ok (.iload_n 0, 1) := by decide +kernel
theorem dJ9_floorMod_7cf53_1 : decode cJ9_floorMod_7cf53 1 = .ok (.iload_n 1, 1) := by decide +kernel
theorem dJ9_floorMod_7cf53_2 : decode cJ9_floorMod_7cf53 2 = .ok (.irem, 1) := by decide +kernel
theorem dJ9_floorMod_7cf53_3 : decode cJ9_floorMod_7cf53 3 = .ok (.istore_n 2, 1) := by decide +kernel
theorem dJ9_floorMod_7cf53_4 : decode cJ9_floorMod_7cf53 4 = .ok (.iload_n 0, 1) := by decide +kernel
theorem dJ9_floorMod_7cf53_5 : decode cJ9_floorMod_7cf53 5 = .ok (.iload_n 1, 1) := by decide +kernel
theorem dJ9_floorMod_7cf53_6 : decode cJ9_floorMod_7cf53 6 = .ok (.ixor, 1) := by decide +kernel
theorem dJ9_floorMod_7cf53_7 : decode cJ9_floorMod_7cf53 7 = .ok (.ifCond .ge 11, 3) := by decide +kernel
theorem dJ9_floorMod_7cf53_10 : decode cJ9_floorMod_7cf53 10 = .ok (.iload_n 2, 1) := by decide +kernel
theorem dJ9_floorMod_7cf53_11 : decode cJ9_floorMod_7cf53 11 = .ok (.ifCond .eq 7, 3) := by decide +kernel
theorem dJ9_floorMod_7cf53_14 : decode cJ9_floorMod_7cf53 14 = .ok (.iload_n 2, 1) := by decide +kernel
theorem dJ9_floorMod_7cf53_15 : decode cJ9_floorMod_7cf53 15 = .ok (.iload_n 1, 1) := by decide +kernel
theorem dJ9_floorMod_7cf53_16 : decode cJ9_floorMod_7cf53 16 = .ok (.iadd, 1) := by decide +kernel
theorem dJ9_floorMod_7cf53_17 : decode cJ9_floorMod_7cf53 17 = .ok (.ireturn, 1) := by decide +kernel
theorem dJ9_floorMod_7cf53_18 : decode cJ9_floorMod_7cf53 18 = .ok (.iload_n 2, 1) := by decide +kernel
theorem dJ9_floorMod_7cf53_19 : decode cJ9_floorMod_7cf53 19 = .ok (.ireturn, 1) := by decide +kernel
theorem dJ9_max_7cf53_0 : decode cJ9_max_7cf53 0 = .ok (.iload_n 0, 1) := by decide +kernel
theorem dJ9_max_7cf53_1 : decode cJ9_max_7cf53 1 = .ok (.iload_n 1, 1) := by decide +kernel
theorem dJ9_max_7cf53_2 : decode cJ9_max_7cf53 2 = .ok (.if_icmp .lt 7, 3) := by decide +kernel
theorem dJ9_max_7cf53_5 : decode cJ9_max_7cf53 5 = .ok (.iload_n 0, 1) := by decide +kernel
theorem dJ9_max_7cf53_6 : decode cJ9_max_7cf53 6 = .ok (.goto 4, 3) := by decide +kernel
theorem dJ9_max_7cf53_9 : decode cJ9_max_7cf53 9 = .ok (.iload_n 1, 1) := by decide +kernel
theorem dJ9_max_7cf53_10 : decode cJ9_max_7cf53 10 = .ok (.ireturn, 1) := by decide +kernel
theorem dJ9_min_7cf53_0 : decode cJ9_min_7cf53 0 = .ok (.iload_n 0, 1) := by decide +kernel
theorem dJ9_min_7cf53_1 : decode cJ9_min_7cf53 1 = .ok (.iload_n 1, 1) := by decide +kernel
theorem dJ9_min_7cf53_2 : decode cJ9_min_7cf53 2 = .ok (.if_icmp .gt 7, 3) := by decide +kernel
theorem dJ9_min_7cf53_5 : decode cJ9_min_7cf53 5 = .ok (.iload_n 0, 1) := by decide +kernel
theorem dJ9_min_7cf53_6 : decode cJ9_min_7cf53 6 = .ok (.goto 4, 3) := by decide +kernel
theorem dJ9_min_7cf53_9 : decode cJ9_min_7cf53 9 = .ok (.iload_n 1, 1) := by decide +kernel
theorem dJ9_min_7cf53_10 : decode cJ9_min_7cf53 10 = .ok (.ireturn, 1) := by decide +kernel
end
section
section ZQ
variable {κ : zX} {l0 : Launch} {cc : ByteArray} {n0 : Nat} {own : String} {Ts : List Cond} {kf : Nat} {θ : zH} {X : va_W} {pc : Nat} {lv : List (Nat × Value)} {st : List Value}
variable {y : MethodName} {wl ws' : List Cond} {bytes : ByteArray} {maxL k' index b ci : Nat} {ret : Option FieldType} {Cn host : String} {fs As rest : List Value} {q : vw_C}
theorem z_room {maxL k' kf : Nat} (hk : k' < kf) (hmx : maxL ≤ 21) : (zr k').frames + 1 ≤ (zr kf).frames ∧ 8 + (maxL + 11) + (zr k').locals ≤ (zr kf).locals := by
  unfold zr
  dsimp only
  omega

set_option maxHeartbeats 1000000 in
theorem z_callVi (C : zC κ l0 cc n0 own Ts kf θ) {post : Int32 → va_W → Prop} (hM : cI l0 y wl k' θ (.ref b :: As) X post) (hG : GoodIn Ts (wsV own index Cn y wl)) (hw : wl = Cond.code y bytes maxL ret :: ws') (nA : Nat) (hd0 : y.cls = Cn ∧ y.cls ≠ "java/lang/invoke/MethodHandle" ∧ y.cls ≠ "java/lang/invoke/VarHandle" ∧ (parseMethodDescriptor y.desc).map (fun d => d.parameters.length) = some nA) (hk : k' < kf) (hmx : maxL ≤ 21) (q0 : Nat) (he : X[q0]? = some (b, .inr (ci, fs))) (hc : vwCl[ci]? = some q) (hq : q.1 = Cn) (hn : As.length = nA) (hst : st = As.reverse ++ .ref b :: rest) (hr : (rest.map fun v => v.category).sum ≤ 8) (hd : decode cc pc = .ok (.invokevirtual index, 3)) (kk : ∀ (r : Int32) (Y : va_W), post r Y → Z κ Y (pc + 3) lv (.int r :: rest)) : Z κ X pc lv st := by
  obtain ⟨p, l, e, R, s, m, args, below, meth, c, Q, A, θ', n⟩ := κ
  obtain ⟨rfl, rfl, rfl, hR, hx, hb, hml, hown, hts, hK, hN, hA⟩ := C
  subst hR
  intro H locs ls hP hD hS hl
  have hFc : ∀ z : Nat, va_A X H.size z → A z := fun z h => by
    rcases h with ⟨i, e', h⟩ | h
    · exact hD.2 i _ h
    · exact hA z (Nat.le_trans hS.1 h)
  subst hq
  subst hst
  exact va_calli (va_runV (As := As) (rest := rest) ⟨hx, hb, hml, hown, hts⟩ (hM H.size) (cwV nA hts hG hw rfl rfl hd0 (z_room hk hmx)) ⟨zPc_blind, va_recv hK hP hc he, fun U hU hW => ⟨rfl, by rw [hU], by rw [hU]; exact hP, va_K.moved hW.alike hK, zN.warm hW hN, hD.weaken (fun _ _ _ _ => trivial)⟩⟩ rfl hn hl.1 rfl (lv_room hr) hd ⟨Nat.le_refl _, Nat.le_refl _⟩) hS (fun z _ h => hFc z h) hFc (fun r Y t H1 locs1 ht hvm hp hB hz1 hk1 hS1 => kk r Y hp H1 locs1 ls (ht ▸ hB.1) (hB.2.weaken (fun k z _ h => hFc z.1 h)) hS1 hl)
set_option maxHeartbeats 1000000 in
theorem z_callSi (C : zC κ l0 cc n0 own Ts kf θ) {post : Int32 → va_W → Prop} (hM : cI l0 y wl k' θ As X post) (hG : GoodIn Ts (va_wsS own index y wl)) (hw : wl = Cond.code y bytes maxL ret :: ws') (nA : Nat) (hd0 : y.cls ≠ "java/lang/invoke/MethodHandle" ∧ y.cls ≠ "java/lang/invoke/VarHandle" ∧ (parseMethodDescriptor y.desc).map (fun d => d.parameters.length) = some nA) (hk : k' < kf) (hmx : maxL ≤ 21) (hn : As.length = nA) (hst : st = As.reverse ++ rest) (hr : (rest.map fun v => v.category).sum ≤ 8) (hd : decode cc pc = .ok (.invokestatic index, 3)) (kk : ∀ (r : Int32) (Y : va_W), post r Y → Z κ Y (pc + 3) lv (.int r :: rest)) : Z κ X pc lv st := by
  obtain ⟨p, l, e, R, s, m, args, below, meth, c, Q, A, θ', n⟩ := κ
  obtain ⟨rfl, rfl, rfl, hR, hx, hb, hml, hown, hts, hK, hN, hA⟩ := C
  subst hR
  intro H locs ls hP hD hS hl
  have hFc : ∀ z : Nat, va_A X H.size z → A z := fun z h => by
    rcases h with ⟨i, e', h⟩ | h
    · exact hD.2 i _ h
    · exact hA z (Nat.le_trans hS.1 h)
  subst hst
  exact va_calli (va_runS (As := As) (rest := rest) ⟨hx, hb, hml, hown, hts⟩ (hM H.size) (va_cwS nA hts hG hw rfl rfl hd0 (z_room hk hmx)) ⟨zPc_blind, fun U hU hW => ⟨rfl, by rw [hU], by rw [hU]; exact hP, va_K.moved hW.alike hK, zN.warm hW hN, hD.weaken (fun _ _ _ _ => trivial)⟩⟩ rfl hn hl.1 rfl (lv_room hr) hd ⟨Nat.le_refl _, Nat.le_refl _⟩) hS (fun z _ h => hFc z h) hFc (fun r Y t H1 locs1 ht hvm hp hB hz1 hk1 hS1 => kk r Y hp H1 locs1 ls (ht ▸ hB.1) (hB.2.weaken (fun k z _ h => hFc z.1 h)) hS1 hl)
set_option maxHeartbeats 1000000 in
theorem z_callNi (C : zC κ l0 cc n0 own Ts kf θ) {post : Int32 → va_W → Prop} (hM : cI l0 y wl k' θ (.ref b :: As) X post) (hG : GoodIn Ts wl) (hw : wl = Cond.code y bytes maxL ret :: ws') (nA : Nat) (hd0 : y.cls ≠ "java/lang/invoke/MethodHandle" ∧ y.cls ≠ "java/lang/invoke/VarHandle" ∧ (parseMethodDescriptor y.desc).map (fun d => d.parameters.length) = some nA) (hm : (own, index, y, host) ∈ zNM) (hi : Cond.initialized y.cls ∈ Ts) (hi2 : Cond.instanceMethod y ∈ Ts) (hi3 : Cond.selects Cn y y ∈ Ts) (hk : k' < kf) (hmx : maxL ≤ 21) (q0 : Nat) (he : X[q0]? = some (b, .inr (ci, fs))) (hc : vwCl[ci]? = some q) (hq : q.1 = Cn) (hn : As.length = nA) (hst : st = As.reverse ++ .ref b :: rest) (hr : (rest.map fun v => v.category).sum ≤ 8) (hd : decode cc pc = .ok (.invokevirtual index, 3)) (kk : ∀ (r : Int32) (Y : va_W), post r Y → Z κ Y (pc + 3) lv (.int r :: rest)) : Z κ X pc lv st := by
  obtain ⟨p, l, e, R, s, m, args, below, meth, c, Q, A, θ', n⟩ := κ
  obtain ⟨rfl, rfl, rfl, hR, hx, hb, hml, hown, hts, hK, hN, hA⟩ := C
  subst hR
  intro H locs ls hP hD hS hl
  have hFc : ∀ z : Nat, va_A X H.size z → A z := fun z h => by
    rcases h with ⟨i, e', h⟩ | h
    · exact hD.2 i _ h
    · exact hA z (Nat.le_trans hS.1 h)
  subst hq
  subst hst
  exact va_calli (va_runVN (As := As) (rest := rest) ⟨hx, hb, hml, hown, hts⟩ (hM H.size) ⟨va_cnB nA hts hG hw rfl rfl (hN.2 _ hm) (hts _ hi) hd0 (z_room hk hmx), hts _ hi2, hts _ hi3⟩ ⟨zPc_blind, va_recv hK hP hc he, fun U hU hW => ⟨rfl, by rw [hU], by rw [hU]; exact hP, va_K.moved hW.alike hK, zN.warm hW hN, hD.weaken (fun _ _ _ _ => trivial)⟩⟩ rfl hn hl.1 rfl (lv_room hr) hd ⟨Nat.le_refl _, Nat.le_refl _⟩) hS (fun z _ h => hFc z h) hFc (fun r Y t H1 locs1 ht hvm hp hB hz1 hk1 hS1 => kk r Y hp H1 locs1 ls (ht ▸ hB.1) (hB.2.weaken (fun k z _ h => hFc z.1 h)) hS1 hl)
set_option maxHeartbeats 1000000 in
theorem z_callTi (C : zC κ l0 cc n0 own Ts kf θ) {post : Int32 → va_W → Prop} (hM : cI l0 y wl k' θ As X post) (hG : GoodIn Ts wl) (hw : wl = Cond.code y bytes maxL ret :: ws') (nA : Nat) (hd0 : y.cls ≠ "java/lang/invoke/MethodHandle" ∧ y.cls ≠ "java/lang/invoke/VarHandle" ∧ (parseMethodDescriptor y.desc).map (fun d => d.parameters.length) = some nA) (hm : (own, index, y, host) ∈ zNM) (hi : Cond.initialized y.cls ∈ Ts) (hi2 : Cond.static y ∈ Ts) (hk : k' < kf) (hmx : maxL ≤ 21) (hn : As.length = nA) (hst : st = As.reverse ++ rest) (hr : (rest.map fun v => v.category).sum ≤ 8) (hd : decode cc pc = .ok (.invokestatic index, 3)) (kk : ∀ (r : Int32) (Y : va_W), post r Y → Z κ Y (pc + 3) lv (.int r :: rest)) : Z κ X pc lv st := by
  obtain ⟨p, l, e, R, s, m, args, below, meth, c, Q, A, θ', n⟩ := κ
  obtain ⟨rfl, rfl, rfl, hR, hx, hb, hml, hown, hts, hK, hN, hA⟩ := C
  subst hR
  intro H locs ls hP hD hS hl
  have hFc : ∀ z : Nat, va_A X H.size z → A z := fun z h => by
    rcases h with ⟨i, e', h⟩ | h
    · exact hD.2 i _ h
    · exact hA z (Nat.le_trans hS.1 h)
  subst hst
  exact va_calli (va_runSN (As := As) (rest := rest) ⟨hx, hb, hml, hown, hts⟩ (hM H.size) ⟨va_cnB nA hts hG hw rfl rfl (hN.2 _ hm) (hts _ hi) hd0 (z_room hk hmx), hts _ hi2, trivial⟩ ⟨zPc_blind, fun U hU hW => ⟨rfl, by rw [hU], by rw [hU]; exact hP, va_K.moved hW.alike hK, zN.warm hW hN, hD.weaken (fun _ _ _ _ => trivial)⟩⟩ rfl hn hl.1 rfl (lv_room hr) hd ⟨Nat.le_refl _, Nat.le_refl _⟩) hS (fun z _ h => hFc z h) hFc (fun r Y t H1 locs1 ht hvm hp hB hz1 hk1 hS1 => kk r Y hp H1 locs1 ls (ht ▸ hB.1) (hB.2.weaken (fun k z _ h => hFc z.1 h)) hS1 hl)
set_option maxHeartbeats 1000000 in
theorem z_callVv (C : zC κ l0 cc n0 own Ts kf θ) {post : va_W → Prop} (hM : cV l0 y wl k' θ (.ref b :: As) X post) (hG : GoodIn Ts (wsV own index Cn y wl)) (hw : wl = Cond.code y bytes maxL ret :: ws') (nA : Nat) (hd0 : y.cls = Cn ∧ y.cls ≠ "java/lang/invoke/MethodHandle" ∧ y.cls ≠ "java/lang/invoke/VarHandle" ∧ (parseMethodDescriptor y.desc).map (fun d => d.parameters.length) = some nA) (hk : k' < kf) (hmx : maxL ≤ 21) (q0 : Nat) (he : X[q0]? = some (b, .inr (ci, fs))) (hc : vwCl[ci]? = some q) (hq : q.1 = Cn) (hn : As.length = nA) (hst : st = As.reverse ++ .ref b :: rest) (hr : (rest.map fun v => v.category).sum ≤ 8) (hd : decode cc pc = .ok (.invokevirtual index, 3)) (kk : ∀ (Y : va_W), post Y → Z κ Y (pc + 3) lv rest) : Z κ X pc lv st := by
  obtain ⟨p, l, e, R, s, m, args, below, meth, c, Q, A, θ', n⟩ := κ
  obtain ⟨rfl, rfl, rfl, hR, hx, hb, hml, hown, hts, hK, hN, hA⟩ := C
  subst hR
  intro H locs ls hP hD hS hl
  have hFc : ∀ z : Nat, va_A X H.size z → A z := fun z h => by
    rcases h with ⟨i, e', h⟩ | h
    · exact hD.2 i _ h
    · exact hA z (Nat.le_trans hS.1 h)
  subst hq
  subst hst
  exact va_callv (va_runV (As := As) (rest := rest) ⟨hx, hb, hml, hown, hts⟩ (hM H.size) (cwV nA hts hG hw rfl rfl hd0 (z_room hk hmx)) ⟨zPc_blind, va_recv hK hP hc he, fun U hU hW => ⟨rfl, by rw [hU], by rw [hU]; exact hP, va_K.moved hW.alike hK, zN.warm hW hN, hD.weaken (fun _ _ _ _ => trivial)⟩⟩ rfl hn hl.1 rfl (lv_room hr) hd ⟨Nat.le_refl _, Nat.le_refl _⟩) hS (fun z _ h => hFc z h) hFc (fun Y t H1 locs1 ht hvm hp hB hz1 hk1 hS1 => kk Y hp H1 locs1 ls (ht ▸ hB.1) (hB.2.weaken (fun k z _ h => hFc z.1 h)) hS1 hl)
set_option maxHeartbeats 1000000 in
theorem z_callSv (C : zC κ l0 cc n0 own Ts kf θ) {post : va_W → Prop} (hM : cV l0 y wl k' θ As X post) (hG : GoodIn Ts (va_wsS own index y wl)) (hw : wl = Cond.code y bytes maxL ret :: ws') (nA : Nat) (hd0 : y.cls ≠ "java/lang/invoke/MethodHandle" ∧ y.cls ≠ "java/lang/invoke/VarHandle" ∧ (parseMethodDescriptor y.desc).map (fun d => d.parameters.length) = some nA) (hk : k' < kf) (hmx : maxL ≤ 21) (hn : As.length = nA) (hst : st = As.reverse ++ rest) (hr : (rest.map fun v => v.category).sum ≤ 8) (hd : decode cc pc = .ok (.invokestatic index, 3)) (kk : ∀ (Y : va_W), post Y → Z κ Y (pc + 3) lv rest) : Z κ X pc lv st := by
  obtain ⟨p, l, e, R, s, m, args, below, meth, c, Q, A, θ', n⟩ := κ
  obtain ⟨rfl, rfl, rfl, hR, hx, hb, hml, hown, hts, hK, hN, hA⟩ := C
  subst hR
  intro H locs ls hP hD hS hl
  have hFc : ∀ z : Nat, va_A X H.size z → A z := fun z h => by
    rcases h with ⟨i, e', h⟩ | h
    · exact hD.2 i _ h
    · exact hA z (Nat.le_trans hS.1 h)
  subst hst
  exact va_callv (va_runS (As := As) (rest := rest) ⟨hx, hb, hml, hown, hts⟩ (hM H.size) (va_cwS nA hts hG hw rfl rfl hd0 (z_room hk hmx)) ⟨zPc_blind, fun U hU hW => ⟨rfl, by rw [hU], by rw [hU]; exact hP, va_K.moved hW.alike hK, zN.warm hW hN, hD.weaken (fun _ _ _ _ => trivial)⟩⟩ rfl hn hl.1 rfl (lv_room hr) hd ⟨Nat.le_refl _, Nat.le_refl _⟩) hS (fun z _ h => hFc z h) hFc (fun Y t H1 locs1 ht hvm hp hB hz1 hk1 hS1 => kk Y hp H1 locs1 ls (ht ▸ hB.1) (hB.2.weaken (fun k z _ h => hFc z.1 h)) hS1 hl)
set_option maxHeartbeats 1000000 in
theorem z_callNv (C : zC κ l0 cc n0 own Ts kf θ) {post : va_W → Prop} (hM : cV l0 y wl k' θ (.ref b :: As) X post) (hG : GoodIn Ts wl) (hw : wl = Cond.code y bytes maxL ret :: ws') (nA : Nat) (hd0 : y.cls ≠ "java/lang/invoke/MethodHandle" ∧ y.cls ≠ "java/lang/invoke/VarHandle" ∧ (parseMethodDescriptor y.desc).map (fun d => d.parameters.length) = some nA) (hm : (own, index, y, host) ∈ zNM) (hi : Cond.initialized y.cls ∈ Ts) (hi2 : Cond.instanceMethod y ∈ Ts) (hi3 : Cond.selects Cn y y ∈ Ts) (hk : k' < kf) (hmx : maxL ≤ 21) (q0 : Nat) (he : X[q0]? = some (b, .inr (ci, fs))) (hc : vwCl[ci]? = some q) (hq : q.1 = Cn) (hn : As.length = nA) (hst : st = As.reverse ++ .ref b :: rest) (hr : (rest.map fun v => v.category).sum ≤ 8) (hd : decode cc pc = .ok (.invokevirtual index, 3)) (kk : ∀ (Y : va_W), post Y → Z κ Y (pc + 3) lv rest) : Z κ X pc lv st := by
  obtain ⟨p, l, e, R, s, m, args, below, meth, c, Q, A, θ', n⟩ := κ
  obtain ⟨rfl, rfl, rfl, hR, hx, hb, hml, hown, hts, hK, hN, hA⟩ := C
  subst hR
  intro H locs ls hP hD hS hl
  have hFc : ∀ z : Nat, va_A X H.size z → A z := fun z h => by
    rcases h with ⟨i, e', h⟩ | h
    · exact hD.2 i _ h
    · exact hA z (Nat.le_trans hS.1 h)
  subst hq
  subst hst
  exact va_callv (va_runVN (As := As) (rest := rest) ⟨hx, hb, hml, hown, hts⟩ (hM H.size) ⟨va_cnB nA hts hG hw rfl rfl (hN.2 _ hm) (hts _ hi) hd0 (z_room hk hmx), hts _ hi2, hts _ hi3⟩ ⟨zPc_blind, va_recv hK hP hc he, fun U hU hW => ⟨rfl, by rw [hU], by rw [hU]; exact hP, va_K.moved hW.alike hK, zN.warm hW hN, hD.weaken (fun _ _ _ _ => trivial)⟩⟩ rfl hn hl.1 rfl (lv_room hr) hd ⟨Nat.le_refl _, Nat.le_refl _⟩) hS (fun z _ h => hFc z h) hFc (fun Y t H1 locs1 ht hvm hp hB hz1 hk1 hS1 => kk Y hp H1 locs1 ls (ht ▸ hB.1) (hB.2.weaken (fun k z _ h => hFc z.1 h)) hS1 hl)
set_option maxHeartbeats 1000000 in
theorem z_callTv (C : zC κ l0 cc n0 own Ts kf θ) {post : va_W → Prop} (hM : cV l0 y wl k' θ As X post) (hG : GoodIn Ts wl) (hw : wl = Cond.code y bytes maxL ret :: ws') (nA : Nat) (hd0 : y.cls ≠ "java/lang/invoke/MethodHandle" ∧ y.cls ≠ "java/lang/invoke/VarHandle" ∧ (parseMethodDescriptor y.desc).map (fun d => d.parameters.length) = some nA) (hm : (own, index, y, host) ∈ zNM) (hi : Cond.initialized y.cls ∈ Ts) (hi2 : Cond.static y ∈ Ts) (hk : k' < kf) (hmx : maxL ≤ 21) (hn : As.length = nA) (hst : st = As.reverse ++ rest) (hr : (rest.map fun v => v.category).sum ≤ 8) (hd : decode cc pc = .ok (.invokestatic index, 3)) (kk : ∀ (Y : va_W), post Y → Z κ Y (pc + 3) lv rest) : Z κ X pc lv st := by
  obtain ⟨p, l, e, R, s, m, args, below, meth, c, Q, A, θ', n⟩ := κ
  obtain ⟨rfl, rfl, rfl, hR, hx, hb, hml, hown, hts, hK, hN, hA⟩ := C
  subst hR
  intro H locs ls hP hD hS hl
  have hFc : ∀ z : Nat, va_A X H.size z → A z := fun z h => by
    rcases h with ⟨i, e', h⟩ | h
    · exact hD.2 i _ h
    · exact hA z (Nat.le_trans hS.1 h)
  subst hst
  exact va_callv (va_runSN (As := As) (rest := rest) ⟨hx, hb, hml, hown, hts⟩ (hM H.size) ⟨va_cnB nA hts hG hw rfl rfl (hN.2 _ hm) (hts _ hi) hd0 (z_room hk hmx), hts _ hi2, trivial⟩ ⟨zPc_blind, fun U hU hW => ⟨rfl, by rw [hU], by rw [hU]; exact hP, va_K.moved hW.alike hK, zN.warm hW hN, hD.weaken (fun _ _ _ _ => trivial)⟩⟩ rfl hn hl.1 rfl (lv_room hr) hd ⟨Nat.le_refl _, Nat.le_refl _⟩) hS (fun z _ h => hFc z h) hFc (fun Y t H1 locs1 ht hvm hp hB hz1 hk1 hS1 => kk Y hp H1 locs1 ls (ht ▸ hB.1) (hB.2.weaken (fun k z _ h => hFc z.1 h)) hS1 hl)
theorem z_inc1 (a : Nat) : nI a + Int32.ofInt 1 = nI (a + 1) := nI_1 a
theorem z_top {v v' : Value} (h : v = v') (kk : Z κ X pc lv (v' :: st)) : Z κ X pc lv (v :: st) := h ▸ kk
theorem z_topI {v v' : Int32} (h : v = v') (kk : Z κ X pc lv (.int v' :: st)) : Z κ X pc lv (.int v :: st) := h ▸ kk
theorem z_to {X' : va_W} {lv' : List (Nat × Value)} (kk : Z κ X' pc lv' st) (hX : X = X') (h : lv'.map (fun q => zlk lv q.1) = lv'.map (fun q => some q.2)) : Z κ X pc lv st := z_X hX (z_lv h kk)
theorem z_iaddN (C : zC κ l0 cc n0 own Ts kf θ) {a b : Nat} (hd : decode cc pc = .ok (.iadd, 1)) (kk : Z κ X (pc + 1) lv (.int (nI (a + b)) :: st)) : Z κ X pc lv (.int (nI b) :: .int (nI a) :: st) := z_iadd C hd (by rw [nI_add]; exact kk)
theorem z_imulN (C : zC κ l0 cc n0 own Ts kf θ) {a b : Nat} (hd : decode cc pc = .ok (.imul, 1)) (kk : Z κ X (pc + 1) lv (.int (nI (a * b)) :: st)) : Z κ X pc lv (.int (nI b) :: .int (nI a) :: st) := z_imul C hd (by rw [pk_mul]; exact kk)
theorem z_isubN (C : zC κ l0 cc n0 own Ts kf θ) {a b : Nat} (hd : decode cc pc = .ok (.isub, 1)) (hle : b ≤ a) (kk : Z κ X (pc + 1) lv (.int (nI (a - b)) :: st)) : Z κ X pc lv (.int (nI b) :: .int (nI a) :: st) := z_isub C hd (by rw [pk_sub hle]; exact kk)
theorem z_idivN (C : zC κ l0 cc n0 own Ts kf θ) {a b : Nat} (hd : decode cc pc = .ok (.idiv, 1)) (ha : a < 2 ^ 31) (h0 : 0 < b) (hb : b < 2 ^ 31) (kk : Z κ X (pc + 1) lv (.int (nI (a / b)) :: st)) : Z κ X pc lv (.int (nI b) :: .int (nI a) :: st) := z_idiv C hd (nI_ne0 h0 hb) (by rw [pk_div ha h0 hb]; exact kk)
theorem z_iremN (C : zC κ l0 cc n0 own Ts kf θ) {a b : Nat} (hd : decode cc pc = .ok (.irem, 1)) (ha : a < 2 ^ 31) (h0 : 0 < b) (hb : b < 2 ^ 31) (kk : Z κ X (pc + 1) lv (.int (nI (a % b)) :: st)) : Z κ X pc lv (.int (nI b) :: .int (nI a) :: st) := z_irem C hd (nI_ne0 h0 hb) (by rw [pk_rem ha h0 hb]; exact kk)
theorem z_iincN (C : zC κ l0 cc n0 own Ts kf θ) {i a : Nat} (lv' : List (Nat × Value)) (hd : decode cc pc = .ok (.iinc i 1, 3)) (hk : zlk lv i = some (.int (nI a))) (hn : i < n0) (h : (i, Value.int (nI (a + 1))) :: lv.filter (fun q => !(q.1 == i) && !(q.1 + 1 == i && q.2.category == 2)) = lv') (kk : Z κ X (pc + 3) lv' st) : Z κ X pc lv st := z_iinc C lv' hd hk (z_inc1 a) hn h kk

theorem z_icmp_eqN (C : zC κ l0 cc n0 own Ts kf θ) {a b : Nat} {off : Int} (tgt : Nat) (hd : decode cc pc = .ok (.if_icmp .eq off, 3)) (ht : (pc : Int) + off = (tgt : Int)) (ha : a < 2 ^ 31) (hb : b < 2 ^ 31) (kt : a = b → Z κ X tgt lv st) (kn : ¬ a = b → Z κ X (pc + 3) lv st) : Z κ X pc lv (.int (nI b) :: .int (nI a) :: st) := z_icmp_eq C tgt hd ht (fun h => kt ((nI_eq ha hb).mp h)) (fun h => kn (fun z => h ((nI_eq ha hb).mpr z)))
theorem z_icmp_eqT (C : zC κ l0 cc n0 own Ts kf θ) {a b : Nat} {off : Int} (tgt : Nat) (hd : decode cc pc = .ok (.if_icmp .eq off, 3)) (ht : (pc : Int) + off = (tgt : Int)) (ha : a < 2 ^ 31) (hb : b < 2 ^ 31) (h0 : a = b) (kt : Z κ X tgt lv st) : Z κ X pc lv (.int (nI b) :: .int (nI a) :: st) := z_icmp_eqN C tgt hd ht ha hb (fun _ => kt) (fun h => absurd h0 (by omega))
theorem z_icmp_eqF (C : zC κ l0 cc n0 own Ts kf θ) {a b : Nat} {off : Int} (tgt : Nat) (hd : decode cc pc = .ok (.if_icmp .eq off, 3)) (ht : (pc : Int) + off = (tgt : Int)) (ha : a < 2 ^ 31) (hb : b < 2 ^ 31) (h0 : ¬ a = b) (kn : Z κ X (pc + 3) lv st) : Z κ X pc lv (.int (nI b) :: .int (nI a) :: st) := z_icmp_eqN C tgt hd ht ha hb (fun h => absurd h0 (by omega)) (fun _ => kn)
theorem z_icmp_neN (C : zC κ l0 cc n0 own Ts kf θ) {a b : Nat} {off : Int} (tgt : Nat) (hd : decode cc pc = .ok (.if_icmp .ne off, 3)) (ht : (pc : Int) + off = (tgt : Int)) (ha : a < 2 ^ 31) (hb : b < 2 ^ 31) (kt : a ≠ b → Z κ X tgt lv st) (kn : a = b → Z κ X (pc + 3) lv st) : Z κ X pc lv (.int (nI b) :: .int (nI a) :: st) := z_icmp_ne C tgt hd ht (fun h => kt ((not_congr (nI_eq ha hb)).mp h)) (fun h => kn ((nI_eq ha hb).mp h))
theorem z_icmp_neT (C : zC κ l0 cc n0 own Ts kf θ) {a b : Nat} {off : Int} (tgt : Nat) (hd : decode cc pc = .ok (.if_icmp .ne off, 3)) (ht : (pc : Int) + off = (tgt : Int)) (ha : a < 2 ^ 31) (hb : b < 2 ^ 31) (h0 : a ≠ b) (kt : Z κ X tgt lv st) : Z κ X pc lv (.int (nI b) :: .int (nI a) :: st) := z_icmp_neN C tgt hd ht ha hb (fun _ => kt) (fun h => absurd h0 (by omega))
theorem z_icmp_neF (C : zC κ l0 cc n0 own Ts kf θ) {a b : Nat} {off : Int} (tgt : Nat) (hd : decode cc pc = .ok (.if_icmp .ne off, 3)) (ht : (pc : Int) + off = (tgt : Int)) (ha : a < 2 ^ 31) (hb : b < 2 ^ 31) (h0 : a = b) (kn : Z κ X (pc + 3) lv st) : Z κ X pc lv (.int (nI b) :: .int (nI a) :: st) := z_icmp_neN C tgt hd ht ha hb (fun h => absurd h0 (by omega)) (fun _ => kn)
theorem z_icmp_ltN (C : zC κ l0 cc n0 own Ts kf θ) {a b : Nat} {off : Int} (tgt : Nat) (hd : decode cc pc = .ok (.if_icmp .lt off, 3)) (ht : (pc : Int) + off = (tgt : Int)) (ha : a < 2 ^ 31) (hb : b < 2 ^ 31) (kt : a < b → Z κ X tgt lv st) (kn : ¬ a < b → Z κ X (pc + 3) lv st) : Z κ X pc lv (.int (nI b) :: .int (nI a) :: st) := z_icmp_lt C tgt hd ht (fun h => kt ((nI_ltI ha hb).mp h)) (fun h => kn (fun z => h ((nI_ltI ha hb).mpr z)))
theorem z_icmp_ltT (C : zC κ l0 cc n0 own Ts kf θ) {a b : Nat} {off : Int} (tgt : Nat) (hd : decode cc pc = .ok (.if_icmp .lt off, 3)) (ht : (pc : Int) + off = (tgt : Int)) (ha : a < 2 ^ 31) (hb : b < 2 ^ 31) (h0 : a < b) (kt : Z κ X tgt lv st) : Z κ X pc lv (.int (nI b) :: .int (nI a) :: st) := z_icmp_ltN C tgt hd ht ha hb (fun _ => kt) (fun h => absurd h0 (by omega))
theorem z_icmp_ltF (C : zC κ l0 cc n0 own Ts kf θ) {a b : Nat} {off : Int} (tgt : Nat) (hd : decode cc pc = .ok (.if_icmp .lt off, 3)) (ht : (pc : Int) + off = (tgt : Int)) (ha : a < 2 ^ 31) (hb : b < 2 ^ 31) (h0 : ¬ a < b) (kn : Z κ X (pc + 3) lv st) : Z κ X pc lv (.int (nI b) :: .int (nI a) :: st) := z_icmp_ltN C tgt hd ht ha hb (fun h => absurd h0 (by omega)) (fun _ => kn)
theorem z_icmp_geN (C : zC κ l0 cc n0 own Ts kf θ) {a b : Nat} {off : Int} (tgt : Nat) (hd : decode cc pc = .ok (.if_icmp .ge off, 3)) (ht : (pc : Int) + off = (tgt : Int)) (ha : a < 2 ^ 31) (hb : b < 2 ^ 31) (kt : b ≤ a → Z κ X tgt lv st) (kn : ¬ b ≤ a → Z κ X (pc + 3) lv st) : Z κ X pc lv (.int (nI b) :: .int (nI a) :: st) := z_icmp_ge C tgt hd ht (fun h => kt ((nI_leI hb ha).mp h)) (fun h => kn (fun z => h ((nI_leI hb ha).mpr z)))
theorem z_icmp_geT (C : zC κ l0 cc n0 own Ts kf θ) {a b : Nat} {off : Int} (tgt : Nat) (hd : decode cc pc = .ok (.if_icmp .ge off, 3)) (ht : (pc : Int) + off = (tgt : Int)) (ha : a < 2 ^ 31) (hb : b < 2 ^ 31) (h0 : b ≤ a) (kt : Z κ X tgt lv st) : Z κ X pc lv (.int (nI b) :: .int (nI a) :: st) := z_icmp_geN C tgt hd ht ha hb (fun _ => kt) (fun h => absurd h0 (by omega))
theorem z_icmp_geF (C : zC κ l0 cc n0 own Ts kf θ) {a b : Nat} {off : Int} (tgt : Nat) (hd : decode cc pc = .ok (.if_icmp .ge off, 3)) (ht : (pc : Int) + off = (tgt : Int)) (ha : a < 2 ^ 31) (hb : b < 2 ^ 31) (h0 : ¬ b ≤ a) (kn : Z κ X (pc + 3) lv st) : Z κ X pc lv (.int (nI b) :: .int (nI a) :: st) := z_icmp_geN C tgt hd ht ha hb (fun h => absurd h0 (by omega)) (fun _ => kn)
theorem z_icmp_gtN (C : zC κ l0 cc n0 own Ts kf θ) {a b : Nat} {off : Int} (tgt : Nat) (hd : decode cc pc = .ok (.if_icmp .gt off, 3)) (ht : (pc : Int) + off = (tgt : Int)) (ha : a < 2 ^ 31) (hb : b < 2 ^ 31) (kt : b < a → Z κ X tgt lv st) (kn : ¬ b < a → Z κ X (pc + 3) lv st) : Z κ X pc lv (.int (nI b) :: .int (nI a) :: st) := z_icmp_gt C tgt hd ht (fun h => kt ((nI_ltI hb ha).mp h)) (fun h => kn (fun z => h ((nI_ltI hb ha).mpr z)))
theorem z_icmp_gtT (C : zC κ l0 cc n0 own Ts kf θ) {a b : Nat} {off : Int} (tgt : Nat) (hd : decode cc pc = .ok (.if_icmp .gt off, 3)) (ht : (pc : Int) + off = (tgt : Int)) (ha : a < 2 ^ 31) (hb : b < 2 ^ 31) (h0 : b < a) (kt : Z κ X tgt lv st) : Z κ X pc lv (.int (nI b) :: .int (nI a) :: st) := z_icmp_gtN C tgt hd ht ha hb (fun _ => kt) (fun h => absurd h0 (by omega))
theorem z_icmp_gtF (C : zC κ l0 cc n0 own Ts kf θ) {a b : Nat} {off : Int} (tgt : Nat) (hd : decode cc pc = .ok (.if_icmp .gt off, 3)) (ht : (pc : Int) + off = (tgt : Int)) (ha : a < 2 ^ 31) (hb : b < 2 ^ 31) (h0 : ¬ b < a) (kn : Z κ X (pc + 3) lv st) : Z κ X pc lv (.int (nI b) :: .int (nI a) :: st) := z_icmp_gtN C tgt hd ht ha hb (fun h => absurd h0 (by omega)) (fun _ => kn)
theorem z_icmp_leN (C : zC κ l0 cc n0 own Ts kf θ) {a b : Nat} {off : Int} (tgt : Nat) (hd : decode cc pc = .ok (.if_icmp .le off, 3)) (ht : (pc : Int) + off = (tgt : Int)) (ha : a < 2 ^ 31) (hb : b < 2 ^ 31) (kt : a ≤ b → Z κ X tgt lv st) (kn : ¬ a ≤ b → Z κ X (pc + 3) lv st) : Z κ X pc lv (.int (nI b) :: .int (nI a) :: st) := z_icmp_le C tgt hd ht (fun h => kt ((nI_leI ha hb).mp h)) (fun h => kn (fun z => h ((nI_leI ha hb).mpr z)))
theorem z_icmp_leT (C : zC κ l0 cc n0 own Ts kf θ) {a b : Nat} {off : Int} (tgt : Nat) (hd : decode cc pc = .ok (.if_icmp .le off, 3)) (ht : (pc : Int) + off = (tgt : Int)) (ha : a < 2 ^ 31) (hb : b < 2 ^ 31) (h0 : a ≤ b) (kt : Z κ X tgt lv st) : Z κ X pc lv (.int (nI b) :: .int (nI a) :: st) := z_icmp_leN C tgt hd ht ha hb (fun _ => kt) (fun h => absurd h0 (by omega))
theorem z_icmp_leF (C : zC κ l0 cc n0 own Ts kf θ) {a b : Nat} {off : Int} (tgt : Nat) (hd : decode cc pc = .ok (.if_icmp .le off, 3)) (ht : (pc : Int) + off = (tgt : Int)) (ha : a < 2 ^ 31) (hb : b < 2 ^ 31) (h0 : ¬ a ≤ b) (kn : Z κ X (pc + 3) lv st) : Z κ X pc lv (.int (nI b) :: .int (nI a) :: st) := z_icmp_leN C tgt hd ht ha hb (fun h => absurd h0 (by omega)) (fun _ => kn)
theorem z_if_eqN (C : zC κ l0 cc n0 own Ts kf θ) {a : Nat} {off : Int} (tgt : Nat) (hd : decode cc pc = .ok (.ifCond .eq off, 3)) (ht : (pc : Int) + off = (tgt : Int)) (ha : a < 2 ^ 31) (kt : a = 0 → Z κ X tgt lv st) (kn : ¬ a = 0 → Z κ X (pc + 3) lv st) : Z κ X pc lv (.int (nI a) :: st) := z_if_eq C tgt hd ht (fun h => kt ((nI_eq ha (by decide)).mp h)) (fun h => kn (fun z => h (by rw [z]; rfl)))
theorem z_if_neN (C : zC κ l0 cc n0 own Ts kf θ) {a : Nat} {off : Int} (tgt : Nat) (hd : decode cc pc = .ok (.ifCond .ne off, 3)) (ht : (pc : Int) + off = (tgt : Int)) (ha : a < 2 ^ 31) (kt : ¬ a = 0 → Z κ X tgt lv st) (kn : a = 0 → Z κ X (pc + 3) lv st) : Z κ X pc lv (.int (nI a) :: st) := z_if_ne C tgt hd ht (fun h => kt (fun z => h (by rw [z]; rfl))) (fun h => kn ((nI_eq ha (by decide)).mp h))
theorem z_if_gtN (C : zC κ l0 cc n0 own Ts kf θ) {a : Nat} {off : Int} (tgt : Nat) (hd : decode cc pc = .ok (.ifCond .gt off, 3)) (ht : (pc : Int) + off = (tgt : Int)) (ha : a < 2 ^ 31) (kt : 0 < a → Z κ X tgt lv st) (kn : ¬ 0 < a → Z κ X (pc + 3) lv st) : Z κ X pc lv (.int (nI a) :: st) := z_if_gt C tgt hd ht (fun h => kt ((nI_ltI (a := 0) (by decide) ha).mp h)) (fun h => kn (fun z => h ((nI_ltI (a := 0) (by decide) ha).mpr z)))
theorem z_if_leN (C : zC κ l0 cc n0 own Ts kf θ) {a : Nat} {off : Int} (tgt : Nat) (hd : decode cc pc = .ok (.ifCond .le off, 3)) (ht : (pc : Int) + off = (tgt : Int)) (ha : a < 2 ^ 31) (kt : a = 0 → Z κ X tgt lv st) (kn : ¬ a = 0 → Z κ X (pc + 3) lv st) : Z κ X pc lv (.int (nI a) :: st) := z_if_le C tgt hd ht (fun h => kt (by have := (nI_leI ha (b := 0) (by decide)).mp h; omega)) (fun h => kn (fun z => h ((nI_leI ha (b := 0) (by decide)).mpr (by omega))))
theorem z_if_ltN (C : zC κ l0 cc n0 own Ts kf θ) {a : Nat} {off : Int} (tgt : Nat) (hd : decode cc pc = .ok (.ifCond .lt off, 3)) (ht : (pc : Int) + off = (tgt : Int)) (ha : a < 2 ^ 31) (kn : Z κ X (pc + 3) lv st) : Z κ X pc lv (.int (nI a) :: st) := z_if_lt C tgt hd ht (fun h => absurd h (nI_pos ha)) (fun _ => kn)
theorem z_if_geN (C : zC κ l0 cc n0 own Ts kf θ) {a : Nat} {off : Int} (tgt : Nat) (hd : decode cc pc = .ok (.ifCond .ge off, 3)) (ht : (pc : Int) + off = (tgt : Int)) (ha : a < 2 ^ 31) (kt : Z κ X tgt lv st) : Z κ X pc lv (.int (nI a) :: st) := z_if_ge C tgt hd ht (fun _ => kt) (fun h => absurd (nI_pos' ha) h)
/-- the fields of the model: numbers n, the place of the fault g, arrays at ad -/
def mfs (ad : Nat → Nat) (n : Nat → Nat) (g : Int32) : List Value := [.int (nI (n 0)), .int (nI (n 1)), .ref (ad 2), .int (nI (n 3)), .ref (ad 4), .int (nI (n 5)), .ref (ad 6), .ref (ad 7), .int (nI (n 8)), .ref (ad 9), .int (nI (n 10)), .int g, .int (nI (n 12)), .int (nI (n 13)), .int (nI (n 14)), .int (nI (n 15)), .int (nI (n 16)), .ref (ad 17), .int (nI (n 18)), .ref (ad 19), .int (nI (n 20)), .ref (ad 21), .int (nI (n 22)), .ref (ad 23), .ref (ad 24), .ref (ad 25), .ref (ad 26), .int (nI (n 27)), .ref (ad 28), .ref (ad 29), .ref (ad 30), .ref (ad 31), .ref (ad 32)]
/-- the world of the model -/
def MW (θ : zH) (ad : Nat → Nat) (n : Nat → Nat) (g : Int32) (r : Nat → Nat → Int32) : va_W := [(ad 0, .inr (6, mfs ad n g)), (ad 2, .inl (θ.2.1, 6, .inl (r 2))), (ad 4, .inl (θ.2.1, 5, .inl (r 4))), (ad 6, .inl (θ.2.1, 6, .inl (r 6))), (ad 7, .inl (θ.2.1, 82, .inl (r 7))), (ad 9, .inl (θ.2.1, 240, .inl (r 9))), (ad 17, .inl (θ.2.1, 6, .inl (r 17))), (ad 19, .inl (θ.2.1, 5, .inl (r 19))), (ad 21, .inl (θ.2.1, 6, .inl (r 21))), (ad 23, .inl (θ.2.1, 1312, .inl (r 23))), (ad 24, .inl (θ.2.1, 6, .inl (r 24))), (ad 25, .inl (θ.2.1, 5, .inl (r 25))), (ad 26, .inl (θ.2.1, 30, .inl (r 26))), (ad 28, .inl (θ.2.1, 6, .inl (r 28))), (ad 29, .inl (θ.2.1, 6, .inl (r 29))), (ad 30, .inl (θ.2.1, 30, .inl (r 30))), (ad 31, .inl (θ.2.1, 166, .inl (r 31))), (ad 32, .inl (θ.2.2.1, 2, .inl (r 32)))]
variable {ad : Nat → Nat} {n : Nat → Nat} {g : Int32} {r : Nat → Nat → Int32}
theorem mf_0 : (mfs ad n g)[0]? = some (.int (nI (n 0))) := rfl
theorem mp_0 {x : Nat} : (MW θ ad n g r).set 0 (ad 0, .inr (6, (mfs ad n g).set 0 (.int (nI x)))) = MW θ ad (va_up n 0 x) g r := rfl
theorem mf_1 : (mfs ad n g)[1]? = some (.int (nI (n 1))) := rfl
theorem mp_1 {x : Nat} : (MW θ ad n g r).set 0 (ad 0, .inr (6, (mfs ad n g).set 1 (.int (nI x)))) = MW θ ad (va_up n 1 x) g r := rfl
theorem mf_3 : (mfs ad n g)[3]? = some (.int (nI (n 3))) := rfl
theorem mp_3 {x : Nat} : (MW θ ad n g r).set 0 (ad 0, .inr (6, (mfs ad n g).set 3 (.int (nI x)))) = MW θ ad (va_up n 3 x) g r := rfl
theorem mf_5 : (mfs ad n g)[5]? = some (.int (nI (n 5))) := rfl
theorem mp_5 {x : Nat} : (MW θ ad n g r).set 0 (ad 0, .inr (6, (mfs ad n g).set 5 (.int (nI x)))) = MW θ ad (va_up n 5 x) g r := rfl
theorem mf_8 : (mfs ad n g)[8]? = some (.int (nI (n 8))) := rfl
theorem mp_8 {x : Nat} : (MW θ ad n g r).set 0 (ad 0, .inr (6, (mfs ad n g).set 8 (.int (nI x)))) = MW θ ad (va_up n 8 x) g r := rfl
theorem mf_10 : (mfs ad n g)[10]? = some (.int (nI (n 10))) := rfl
theorem mp_10 {x : Nat} : (MW θ ad n g r).set 0 (ad 0, .inr (6, (mfs ad n g).set 10 (.int (nI x)))) = MW θ ad (va_up n 10 x) g r := rfl
theorem mf_12 : (mfs ad n g)[12]? = some (.int (nI (n 12))) := rfl
theorem mp_12 {x : Nat} : (MW θ ad n g r).set 0 (ad 0, .inr (6, (mfs ad n g).set 12 (.int (nI x)))) = MW θ ad (va_up n 12 x) g r := rfl
theorem mf_13 : (mfs ad n g)[13]? = some (.int (nI (n 13))) := rfl
theorem mp_13 {x : Nat} : (MW θ ad n g r).set 0 (ad 0, .inr (6, (mfs ad n g).set 13 (.int (nI x)))) = MW θ ad (va_up n 13 x) g r := rfl
theorem mf_14 : (mfs ad n g)[14]? = some (.int (nI (n 14))) := rfl
theorem mp_14 {x : Nat} : (MW θ ad n g r).set 0 (ad 0, .inr (6, (mfs ad n g).set 14 (.int (nI x)))) = MW θ ad (va_up n 14 x) g r := rfl
theorem mf_15 : (mfs ad n g)[15]? = some (.int (nI (n 15))) := rfl
theorem mp_15 {x : Nat} : (MW θ ad n g r).set 0 (ad 0, .inr (6, (mfs ad n g).set 15 (.int (nI x)))) = MW θ ad (va_up n 15 x) g r := rfl
theorem mf_16 : (mfs ad n g)[16]? = some (.int (nI (n 16))) := rfl
theorem mp_16 {x : Nat} : (MW θ ad n g r).set 0 (ad 0, .inr (6, (mfs ad n g).set 16 (.int (nI x)))) = MW θ ad (va_up n 16 x) g r := rfl
theorem mf_18 : (mfs ad n g)[18]? = some (.int (nI (n 18))) := rfl
theorem mp_18 {x : Nat} : (MW θ ad n g r).set 0 (ad 0, .inr (6, (mfs ad n g).set 18 (.int (nI x)))) = MW θ ad (va_up n 18 x) g r := rfl
theorem mf_20 : (mfs ad n g)[20]? = some (.int (nI (n 20))) := rfl
theorem mp_20 {x : Nat} : (MW θ ad n g r).set 0 (ad 0, .inr (6, (mfs ad n g).set 20 (.int (nI x)))) = MW θ ad (va_up n 20 x) g r := rfl
theorem mf_22 : (mfs ad n g)[22]? = some (.int (nI (n 22))) := rfl
theorem mp_22 {x : Nat} : (MW θ ad n g r).set 0 (ad 0, .inr (6, (mfs ad n g).set 22 (.int (nI x)))) = MW θ ad (va_up n 22 x) g r := rfl
theorem mf_27 : (mfs ad n g)[27]? = some (.int (nI (n 27))) := rfl
theorem mp_27 {x : Nat} : (MW θ ad n g r).set 0 (ad 0, .inr (6, (mfs ad n g).set 27 (.int (nI x)))) = MW θ ad (va_up n 27 x) g r := rfl
theorem mf_11 : (mfs ad n g)[11]? = some (.int g) := rfl
theorem mp_11 {x : Int32} : (MW θ ad n g r).set 0 (ad 0, .inr (6, (mfs ad n g).set 11 (.int x))) = MW θ ad n x r := rfl
theorem mf_2 : (mfs ad n g)[2]? = some (.ref (ad 2)) := rfl
theorem mr_2 : (MW θ ad n g r)[1]? = some (ad 2, .inl (θ.2.1, 6, .inl (r 2))) := rfl
theorem ms_2 {F : Nat → Int32} : (MW θ ad n g r).set 1 (ad 2, .inl (θ.2.1, 6, .inl F)) = MW θ ad n g (va_up r 2 F) := rfl
theorem mf_4 : (mfs ad n g)[4]? = some (.ref (ad 4)) := rfl
theorem mr_4 : (MW θ ad n g r)[2]? = some (ad 4, .inl (θ.2.1, 5, .inl (r 4))) := rfl
theorem ms_4 {F : Nat → Int32} : (MW θ ad n g r).set 2 (ad 4, .inl (θ.2.1, 5, .inl F)) = MW θ ad n g (va_up r 4 F) := rfl
theorem mf_6 : (mfs ad n g)[6]? = some (.ref (ad 6)) := rfl
theorem mr_6 : (MW θ ad n g r)[3]? = some (ad 6, .inl (θ.2.1, 6, .inl (r 6))) := rfl
theorem ms_6 {F : Nat → Int32} : (MW θ ad n g r).set 3 (ad 6, .inl (θ.2.1, 6, .inl F)) = MW θ ad n g (va_up r 6 F) := rfl
theorem mf_7 : (mfs ad n g)[7]? = some (.ref (ad 7)) := rfl
theorem mr_7 : (MW θ ad n g r)[4]? = some (ad 7, .inl (θ.2.1, 82, .inl (r 7))) := rfl
theorem ms_7 {F : Nat → Int32} : (MW θ ad n g r).set 4 (ad 7, .inl (θ.2.1, 82, .inl F)) = MW θ ad n g (va_up r 7 F) := rfl
theorem mf_9 : (mfs ad n g)[9]? = some (.ref (ad 9)) := rfl
theorem mr_9 : (MW θ ad n g r)[5]? = some (ad 9, .inl (θ.2.1, 240, .inl (r 9))) := rfl
theorem ms_9 {F : Nat → Int32} : (MW θ ad n g r).set 5 (ad 9, .inl (θ.2.1, 240, .inl F)) = MW θ ad n g (va_up r 9 F) := rfl
theorem mf_17 : (mfs ad n g)[17]? = some (.ref (ad 17)) := rfl
theorem mr_17 : (MW θ ad n g r)[6]? = some (ad 17, .inl (θ.2.1, 6, .inl (r 17))) := rfl
theorem ms_17 {F : Nat → Int32} : (MW θ ad n g r).set 6 (ad 17, .inl (θ.2.1, 6, .inl F)) = MW θ ad n g (va_up r 17 F) := rfl
theorem mf_19 : (mfs ad n g)[19]? = some (.ref (ad 19)) := rfl
theorem mr_19 : (MW θ ad n g r)[7]? = some (ad 19, .inl (θ.2.1, 5, .inl (r 19))) := rfl
theorem ms_19 {F : Nat → Int32} : (MW θ ad n g r).set 7 (ad 19, .inl (θ.2.1, 5, .inl F)) = MW θ ad n g (va_up r 19 F) := rfl
theorem mf_21 : (mfs ad n g)[21]? = some (.ref (ad 21)) := rfl
theorem mr_21 : (MW θ ad n g r)[8]? = some (ad 21, .inl (θ.2.1, 6, .inl (r 21))) := rfl
theorem ms_21 {F : Nat → Int32} : (MW θ ad n g r).set 8 (ad 21, .inl (θ.2.1, 6, .inl F)) = MW θ ad n g (va_up r 21 F) := rfl
theorem mf_23 : (mfs ad n g)[23]? = some (.ref (ad 23)) := rfl
theorem mr_23 : (MW θ ad n g r)[9]? = some (ad 23, .inl (θ.2.1, 1312, .inl (r 23))) := rfl
theorem ms_23 {F : Nat → Int32} : (MW θ ad n g r).set 9 (ad 23, .inl (θ.2.1, 1312, .inl F)) = MW θ ad n g (va_up r 23 F) := rfl
theorem mf_24 : (mfs ad n g)[24]? = some (.ref (ad 24)) := rfl
theorem mr_24 : (MW θ ad n g r)[10]? = some (ad 24, .inl (θ.2.1, 6, .inl (r 24))) := rfl
theorem ms_24 {F : Nat → Int32} : (MW θ ad n g r).set 10 (ad 24, .inl (θ.2.1, 6, .inl F)) = MW θ ad n g (va_up r 24 F) := rfl
theorem mf_25 : (mfs ad n g)[25]? = some (.ref (ad 25)) := rfl
theorem mr_25 : (MW θ ad n g r)[11]? = some (ad 25, .inl (θ.2.1, 5, .inl (r 25))) := rfl
theorem ms_25 {F : Nat → Int32} : (MW θ ad n g r).set 11 (ad 25, .inl (θ.2.1, 5, .inl F)) = MW θ ad n g (va_up r 25 F) := rfl
theorem mf_26 : (mfs ad n g)[26]? = some (.ref (ad 26)) := rfl
theorem mr_26 : (MW θ ad n g r)[12]? = some (ad 26, .inl (θ.2.1, 30, .inl (r 26))) := rfl
theorem ms_26 {F : Nat → Int32} : (MW θ ad n g r).set 12 (ad 26, .inl (θ.2.1, 30, .inl F)) = MW θ ad n g (va_up r 26 F) := rfl
theorem mf_28 : (mfs ad n g)[28]? = some (.ref (ad 28)) := rfl
theorem mr_28 : (MW θ ad n g r)[13]? = some (ad 28, .inl (θ.2.1, 6, .inl (r 28))) := rfl
theorem ms_28 {F : Nat → Int32} : (MW θ ad n g r).set 13 (ad 28, .inl (θ.2.1, 6, .inl F)) = MW θ ad n g (va_up r 28 F) := rfl
theorem mf_29 : (mfs ad n g)[29]? = some (.ref (ad 29)) := rfl
theorem mr_29 : (MW θ ad n g r)[14]? = some (ad 29, .inl (θ.2.1, 6, .inl (r 29))) := rfl
theorem ms_29 {F : Nat → Int32} : (MW θ ad n g r).set 14 (ad 29, .inl (θ.2.1, 6, .inl F)) = MW θ ad n g (va_up r 29 F) := rfl
theorem mf_30 : (mfs ad n g)[30]? = some (.ref (ad 30)) := rfl
theorem mr_30 : (MW θ ad n g r)[15]? = some (ad 30, .inl (θ.2.1, 30, .inl (r 30))) := rfl
theorem ms_30 {F : Nat → Int32} : (MW θ ad n g r).set 15 (ad 30, .inl (θ.2.1, 30, .inl F)) = MW θ ad n g (va_up r 30 F) := rfl
theorem mf_31 : (mfs ad n g)[31]? = some (.ref (ad 31)) := rfl
theorem mr_31 : (MW θ ad n g r)[16]? = some (ad 31, .inl (θ.2.1, 166, .inl (r 31))) := rfl
theorem ms_31 {F : Nat → Int32} : (MW θ ad n g r).set 16 (ad 31, .inl (θ.2.1, 166, .inl F)) = MW θ ad n g (va_up r 31 F) := rfl
theorem mf_32 : (mfs ad n g)[32]? = some (.ref (ad 32)) := rfl
theorem mr_32 : (MW θ ad n g r)[17]? = some (ad 32, .inl (θ.2.2.1, 2, .inl (r 32))) := rfl
theorem ms_32 {F : Nat → Int32} : (MW θ ad n g r).set 17 (ad 32, .inl (θ.2.2.1, 2, .inl F)) = MW θ ad n g (va_up r 32 F) := rfl
theorem z_mg (C : zC κ l0 cc n0 RX6 Ts kf θ) {v : Value} (hin : ∀ w ∈ wsX60, w ∈ Ts) (j : Nat) (hj : j < 33) (hm : Cond.fieldLink RX6 index (TX6 j).1 (TX6 j).2.1 (TX6 j).2.2.1 ∈ Ts) (hv : (mfs ad n g)[j]? = some v) (hd : decode cc pc = .ok (.getfield index, 3)) (kk : Z κ (MW θ ad n g r) (pc + 3) lv (v :: st)) : Z κ (MW θ ad n g r) pc lv (.ref (ad 0) :: st) := z_get C hin 0 rfl rfl j hj hm hv hd kk
theorem z_mp (C : zC κ l0 cc n0 RX6 Ts kf θ) {v : Int32} {Y : va_W} (hin : ∀ w ∈ wsX60, w ∈ Ts) (j : Nat) (hj : j < 33) (hm : Cond.fieldLink RX6 index (TX6 j).1 (TX6 j).2.1 (TX6 j).2.2.1 ∈ Ts) (hf : (TX6 j).2.2.2 = false) (ht : tyX6 j = .int) (hY : (MW θ ad n g r).set 0 (ad 0, .inr (6, (mfs ad n g).set j (.int v))) = Y) (hd : decode cc pc = .ok (.putfield index, 3)) (kk : Z κ Y (pc + 3) lv st) : Z κ (MW θ ad n g r) pc lv (.int v :: .ref (ad 0) :: st) := z_put C hin tyX6 tyX6_ok nmX6 0 rfl rfl j hj hm hf ht rfl rfl hj Y hY hd kk

end ZQ
end
section
section ZM
variable {κ : zX} {l0 : Launch} {cc : ByteArray} {n0 : Nat} {own : String} {Ts : List Cond} {kf : Nat} {θ : zH} {X : va_W} {pc : Nat} {lv : List (Nat × Value)} {st : List Value}
def bI (b : Bool) : Int32 := bif b then 1 else 0
theorem bI_n (b : Bool) : narrow .boolean (.int (bI b)) = .int (bI b) := by cases b <;> rfl
theorem bI_t {b : Bool} (h : b = true) : nI 1 = bI b := by rw [h]; rfl
theorem bI_f {b : Bool} (h : b = false) : nI 0 = bI b := by rw [h]; rfl
theorem z_lcmp (C : zC κ l0 cc n0 own Ts kf θ) {x y : Int64} (hd : decode cc pc = .ok (.lcmp, 1)) (kk : Z κ X (pc + 1) lv (.int (lg_cmp x y) :: st)) : Z κ X pc lv (.long y :: .long x :: st) := by
  obtain ⟨p, l, e, R, s, m, args, below, meth, c, Q, A, θ', n⟩ := κ
  obtain ⟨rfl, rfl, rfl, hR, hx, hb, hml, hown, hts, hK, hN, hA⟩ := C
  subst hR
  intro H locs ls hP hD hS hl
  exact W.lcmp hx hb hd (kk H locs ls hP hD hS hl)
theorem z_if_eqB (C : zC κ l0 cc n0 own Ts kf θ) {b : Bool} {off : Int} (tgt : Nat) (hd : decode cc pc = .ok (.ifCond .eq off, 3)) (ht : (pc : Int) + off = (tgt : Int)) (kt : b = false → Z κ X tgt lv st) (kn : b = true → Z κ X (pc + 3) lv st) : Z κ X pc lv (.int (bI b) :: st) := z_if_eq C tgt hd ht (fun h => kt (by cases b; rfl; exact absurd h (by decide))) (fun h => kn (by cases b; exact absurd rfl h; rfl))
theorem z_if_neB (C : zC κ l0 cc n0 own Ts kf θ) {b : Bool} {off : Int} (tgt : Nat) (hd : decode cc pc = .ok (.ifCond .ne off, 3)) (ht : (pc : Int) + off = (tgt : Int)) (kt : b = true → Z κ X tgt lv st) (kn : b = false → Z κ X (pc + 3) lv st) : Z κ X pc lv (.int (bI b) :: st) := z_if_ne C tgt hd ht (fun h => kt (by cases b; exact absurd rfl h; rfl)) (fun h => kn (by cases b; rfl; exact absurd h (by decide)))
theorem zf_lt (a b : Int32) : a < b ↔ a.toInt < b.toInt := Int32.lt_iff_toInt_lt
theorem zf_le (a b : Int32) : a ≤ b ↔ a.toInt ≤ b.toInt := Int32.le_iff_toInt_le
theorem zf_eq (a b : Int32) : a = b ↔ a.toInt = b.toInt := ⟨fun h => by rw [h], fun h => Int32.toInt_inj.mp h⟩
theorem zl_lt (a b : Int64) : a < b ↔ a.toInt < b.toInt := Int64.lt_iff_toInt_lt
theorem zl_le (a b : Int64) : a ≤ b ↔ a.toInt ≤ b.toInt := Int64.le_iff_toInt_le
/-- an int that names one of N things -/
def okN (s : Int32) (N : Nat) : Bool := decide (0 ≤ s.toInt) && decide (s.toInt < N)
theorem okN_of {s : Int32} {N : Nat} (h : okN s N = true) (hN : N < 2 ^ 31) : ∃ j : Nat, j < N ∧ s = nI j := by
  unfold okN at h
  simp only [Bool.and_eq_true, decide_eq_true_eq] at h
  refine ⟨s.toInt.toNat, by omega, ?_⟩
  rw [zf_eq, nI_toInt (by omega)]
  omega
theorem okN_nI {j N : Nat} (hj : j < 2 ^ 31) : okN (nI j) N = decide (j < N) := by
  unfold okN
  rw [nI_toInt hj]
  simp
def m_in (v a b : Int64) : Bool := decide (a.toInt ≤ v.toInt) && decide (v.toInt ≤ b.toInt)
theorem lg_lt (x y : Int64) : lg_cmp x y < 0 ↔ x.toInt < y.toInt := by
  unfold lg_cmp
  by_cases h1 : y < x
  · simp only [h1, if_true]
    rw [zl_lt] at h1
    constructor
    · intro h; exact absurd h (by decide)
    · intro h; omega
  · simp only [h1, if_false]
    rw [zl_lt] at h1
    by_cases h2 : x = y
    · subst h2; simp
    · have h3 : x.toInt ≠ y.toInt := fun z => h2 (Int64.toInt_inj.mp z)
      constructor
      · intro _; omega
      · intro _; simp [h2]
theorem lg_gt (x y : Int64) : 0 < lg_cmp x y ↔ y.toInt < x.toInt := by
  unfold lg_cmp
  by_cases h1 : y < x
  · simp only [h1, if_true]
    rw [zl_lt] at h1
    exact ⟨fun _ => h1, fun _ => by decide⟩
  · simp only [h1, if_false]
    rw [zl_lt] at h1
    constructor
    · intro h
      by_cases h2 : x = y
      · subst h2; simp at h
      · simp [h2] at h
    · intro h; exact absurd h h1
end ZM
end
section
def nv (a0 a1 a3 a5 a8 a10 a12 a13 a14 a15 a16 a18 a20 a22 a27 : Nat) : Nat → Nat := fun k => match k with
  | 0 => a0
  | 1 => a1
  | 3 => a3
  | 5 => a5
  | 8 => a8
  | 10 => a10
  | 12 => a12
  | 13 => a13
  | 14 => a14
  | 15 => a15
  | 16 => a16
  | 18 => a18
  | 20 => a20
  | 22 => a22
  | 27 => a27
  | _ => 0
def rv (f2 f4 f6 f7 f9 f17 f19 f21 f23 f24 f25 f26 f28 f29 f30 f31 f32 : Nat → Int32) : Nat → Nat → Int32 := fun k => match k with
  | 2 => f2
  | 4 => f4
  | 6 => f6
  | 7 => f7
  | 9 => f9
  | 17 => f17
  | 19 => f19
  | 21 => f21
  | 23 => f23
  | 24 => f24
  | 25 => f25
  | 26 => f26
  | 28 => f28
  | 29 => f29
  | 30 => f30
  | 31 => f31
  | 32 => f32
  | _ => fun _ => 0
section MV
variable {θ : zH} {ad : Nat → Nat} {n n' : Nat → Nat} {g : Int32} {r r' : Nat → Nat → Int32} {a0 a1 a3 a5 a8 a10 a12 a13 a14 a15 a16 a18 a20 a22 a27 : Nat} {f2 f4 f6 f7 f9 f17 f19 f21 f23 f24 f25 f26 f28 f29 f30 f31 f32 : Nat → Int32}
theorem mw_eq (h0 : n 0 = n' 0) (h1 : n 1 = n' 1) (h3 : n 3 = n' 3) (h5 : n 5 = n' 5) (h8 : n 8 = n' 8) (h10 : n 10 = n' 10) (h12 : n 12 = n' 12) (h13 : n 13 = n' 13) (h14 : n 14 = n' 14) (h15 : n 15 = n' 15) (h16 : n 16 = n' 16) (h18 : n 18 = n' 18) (h20 : n 20 = n' 20) (h22 : n 22 = n' 22) (h27 : n 27 = n' 27) (k2 : r 2 = r' 2) (k4 : r 4 = r' 4) (k6 : r 6 = r' 6) (k7 : r 7 = r' 7) (k9 : r 9 = r' 9) (k17 : r 17 = r' 17) (k19 : r 19 = r' 19) (k21 : r 21 = r' 21) (k23 : r 23 = r' 23) (k24 : r 24 = r' 24) (k25 : r 25 = r' 25) (k26 : r 26 = r' 26) (k28 : r 28 = r' 28) (k29 : r 29 = r' 29) (k30 : r 30 = r' 30) (k31 : r 31 = r' 31) (k32 : r 32 = r' 32) : MW θ ad n g r = MW θ ad n' g r' := by
  unfold MW mfs
  rw [h0, h1, h3, h5, h8, h10, h12, h13, h14, h15, h16, h18, h20, h22, h27, k2, k4, k6, k7, k9, k17, k19, k21, k23, k24, k25, k26, k28, k29, k30, k31, k32]
theorem mpv_0 {x : Nat} : (MW θ ad (nv a0 a1 a3 a5 a8 a10 a12 a13 a14 a15 a16 a18 a20 a22 a27) g r).set 0 (ad 0, .inr (6, (mfs ad (nv a0 a1 a3 a5 a8 a10 a12 a13 a14 a15 a16 a18 a20 a22 a27) g).set 0 (.int (nI x)))) = MW θ ad (nv x a1 a3 a5 a8 a10 a12 a13 a14 a15 a16 a18 a20 a22 a27) g r := rfl
theorem mpn_0 {x : Nat} : (MW θ ad n g r).set 0 (ad 0, .inr (6, (mfs ad n g).set 0 (.int (nI x)))) = MW θ ad (nv x (n 1) (n 3) (n 5) (n 8) (n 10) (n 12) (n 13) (n 14) (n 15) (n 16) (n 18) (n 20) (n 22) (n 27)) g r := rfl
theorem mpv_1 {x : Nat} : (MW θ ad (nv a0 a1 a3 a5 a8 a10 a12 a13 a14 a15 a16 a18 a20 a22 a27) g r).set 0 (ad 0, .inr (6, (mfs ad (nv a0 a1 a3 a5 a8 a10 a12 a13 a14 a15 a16 a18 a20 a22 a27) g).set 1 (.int (nI x)))) = MW θ ad (nv a0 x a3 a5 a8 a10 a12 a13 a14 a15 a16 a18 a20 a22 a27) g r := rfl
theorem mpn_1 {x : Nat} : (MW θ ad n g r).set 0 (ad 0, .inr (6, (mfs ad n g).set 1 (.int (nI x)))) = MW θ ad (nv (n 0) x (n 3) (n 5) (n 8) (n 10) (n 12) (n 13) (n 14) (n 15) (n 16) (n 18) (n 20) (n 22) (n 27)) g r := rfl
theorem mpv_3 {x : Nat} : (MW θ ad (nv a0 a1 a3 a5 a8 a10 a12 a13 a14 a15 a16 a18 a20 a22 a27) g r).set 0 (ad 0, .inr (6, (mfs ad (nv a0 a1 a3 a5 a8 a10 a12 a13 a14 a15 a16 a18 a20 a22 a27) g).set 3 (.int (nI x)))) = MW θ ad (nv a0 a1 x a5 a8 a10 a12 a13 a14 a15 a16 a18 a20 a22 a27) g r := rfl
theorem mpn_3 {x : Nat} : (MW θ ad n g r).set 0 (ad 0, .inr (6, (mfs ad n g).set 3 (.int (nI x)))) = MW θ ad (nv (n 0) (n 1) x (n 5) (n 8) (n 10) (n 12) (n 13) (n 14) (n 15) (n 16) (n 18) (n 20) (n 22) (n 27)) g r := rfl
theorem mpv_5 {x : Nat} : (MW θ ad (nv a0 a1 a3 a5 a8 a10 a12 a13 a14 a15 a16 a18 a20 a22 a27) g r).set 0 (ad 0, .inr (6, (mfs ad (nv a0 a1 a3 a5 a8 a10 a12 a13 a14 a15 a16 a18 a20 a22 a27) g).set 5 (.int (nI x)))) = MW θ ad (nv a0 a1 a3 x a8 a10 a12 a13 a14 a15 a16 a18 a20 a22 a27) g r := rfl
theorem mpn_5 {x : Nat} : (MW θ ad n g r).set 0 (ad 0, .inr (6, (mfs ad n g).set 5 (.int (nI x)))) = MW θ ad (nv (n 0) (n 1) (n 3) x (n 8) (n 10) (n 12) (n 13) (n 14) (n 15) (n 16) (n 18) (n 20) (n 22) (n 27)) g r := rfl
theorem mpv_8 {x : Nat} : (MW θ ad (nv a0 a1 a3 a5 a8 a10 a12 a13 a14 a15 a16 a18 a20 a22 a27) g r).set 0 (ad 0, .inr (6, (mfs ad (nv a0 a1 a3 a5 a8 a10 a12 a13 a14 a15 a16 a18 a20 a22 a27) g).set 8 (.int (nI x)))) = MW θ ad (nv a0 a1 a3 a5 x a10 a12 a13 a14 a15 a16 a18 a20 a22 a27) g r := rfl
theorem mpn_8 {x : Nat} : (MW θ ad n g r).set 0 (ad 0, .inr (6, (mfs ad n g).set 8 (.int (nI x)))) = MW θ ad (nv (n 0) (n 1) (n 3) (n 5) x (n 10) (n 12) (n 13) (n 14) (n 15) (n 16) (n 18) (n 20) (n 22) (n 27)) g r := rfl
theorem mpv_10 {x : Nat} : (MW θ ad (nv a0 a1 a3 a5 a8 a10 a12 a13 a14 a15 a16 a18 a20 a22 a27) g r).set 0 (ad 0, .inr (6, (mfs ad (nv a0 a1 a3 a5 a8 a10 a12 a13 a14 a15 a16 a18 a20 a22 a27) g).set 10 (.int (nI x)))) = MW θ ad (nv a0 a1 a3 a5 a8 x a12 a13 a14 a15 a16 a18 a20 a22 a27) g r := rfl
theorem mpn_10 {x : Nat} : (MW θ ad n g r).set 0 (ad 0, .inr (6, (mfs ad n g).set 10 (.int (nI x)))) = MW θ ad (nv (n 0) (n 1) (n 3) (n 5) (n 8) x (n 12) (n 13) (n 14) (n 15) (n 16) (n 18) (n 20) (n 22) (n 27)) g r := rfl
theorem mpv_12 {x : Nat} : (MW θ ad (nv a0 a1 a3 a5 a8 a10 a12 a13 a14 a15 a16 a18 a20 a22 a27) g r).set 0 (ad 0, .inr (6, (mfs ad (nv a0 a1 a3 a5 a8 a10 a12 a13 a14 a15 a16 a18 a20 a22 a27) g).set 12 (.int (nI x)))) = MW θ ad (nv a0 a1 a3 a5 a8 a10 x a13 a14 a15 a16 a18 a20 a22 a27) g r := rfl
theorem mpn_12 {x : Nat} : (MW θ ad n g r).set 0 (ad 0, .inr (6, (mfs ad n g).set 12 (.int (nI x)))) = MW θ ad (nv (n 0) (n 1) (n 3) (n 5) (n 8) (n 10) x (n 13) (n 14) (n 15) (n 16) (n 18) (n 20) (n 22) (n 27)) g r := rfl
theorem mpv_13 {x : Nat} : (MW θ ad (nv a0 a1 a3 a5 a8 a10 a12 a13 a14 a15 a16 a18 a20 a22 a27) g r).set 0 (ad 0, .inr (6, (mfs ad (nv a0 a1 a3 a5 a8 a10 a12 a13 a14 a15 a16 a18 a20 a22 a27) g).set 13 (.int (nI x)))) = MW θ ad (nv a0 a1 a3 a5 a8 a10 a12 x a14 a15 a16 a18 a20 a22 a27) g r := rfl
theorem mpn_13 {x : Nat} : (MW θ ad n g r).set 0 (ad 0, .inr (6, (mfs ad n g).set 13 (.int (nI x)))) = MW θ ad (nv (n 0) (n 1) (n 3) (n 5) (n 8) (n 10) (n 12) x (n 14) (n 15) (n 16) (n 18) (n 20) (n 22) (n 27)) g r := rfl
theorem mpv_14 {x : Nat} : (MW θ ad (nv a0 a1 a3 a5 a8 a10 a12 a13 a14 a15 a16 a18 a20 a22 a27) g r).set 0 (ad 0, .inr (6, (mfs ad (nv a0 a1 a3 a5 a8 a10 a12 a13 a14 a15 a16 a18 a20 a22 a27) g).set 14 (.int (nI x)))) = MW θ ad (nv a0 a1 a3 a5 a8 a10 a12 a13 x a15 a16 a18 a20 a22 a27) g r := rfl
theorem mpn_14 {x : Nat} : (MW θ ad n g r).set 0 (ad 0, .inr (6, (mfs ad n g).set 14 (.int (nI x)))) = MW θ ad (nv (n 0) (n 1) (n 3) (n 5) (n 8) (n 10) (n 12) (n 13) x (n 15) (n 16) (n 18) (n 20) (n 22) (n 27)) g r := rfl
theorem mpv_15 {x : Nat} : (MW θ ad (nv a0 a1 a3 a5 a8 a10 a12 a13 a14 a15 a16 a18 a20 a22 a27) g r).set 0 (ad 0, .inr (6, (mfs ad (nv a0 a1 a3 a5 a8 a10 a12 a13 a14 a15 a16 a18 a20 a22 a27) g).set 15 (.int (nI x)))) = MW θ ad (nv a0 a1 a3 a5 a8 a10 a12 a13 a14 x a16 a18 a20 a22 a27) g r := rfl
theorem mpn_15 {x : Nat} : (MW θ ad n g r).set 0 (ad 0, .inr (6, (mfs ad n g).set 15 (.int (nI x)))) = MW θ ad (nv (n 0) (n 1) (n 3) (n 5) (n 8) (n 10) (n 12) (n 13) (n 14) x (n 16) (n 18) (n 20) (n 22) (n 27)) g r := rfl
theorem mpv_16 {x : Nat} : (MW θ ad (nv a0 a1 a3 a5 a8 a10 a12 a13 a14 a15 a16 a18 a20 a22 a27) g r).set 0 (ad 0, .inr (6, (mfs ad (nv a0 a1 a3 a5 a8 a10 a12 a13 a14 a15 a16 a18 a20 a22 a27) g).set 16 (.int (nI x)))) = MW θ ad (nv a0 a1 a3 a5 a8 a10 a12 a13 a14 a15 x a18 a20 a22 a27) g r := rfl
theorem mpn_16 {x : Nat} : (MW θ ad n g r).set 0 (ad 0, .inr (6, (mfs ad n g).set 16 (.int (nI x)))) = MW θ ad (nv (n 0) (n 1) (n 3) (n 5) (n 8) (n 10) (n 12) (n 13) (n 14) (n 15) x (n 18) (n 20) (n 22) (n 27)) g r := rfl
theorem mpv_18 {x : Nat} : (MW θ ad (nv a0 a1 a3 a5 a8 a10 a12 a13 a14 a15 a16 a18 a20 a22 a27) g r).set 0 (ad 0, .inr (6, (mfs ad (nv a0 a1 a3 a5 a8 a10 a12 a13 a14 a15 a16 a18 a20 a22 a27) g).set 18 (.int (nI x)))) = MW θ ad (nv a0 a1 a3 a5 a8 a10 a12 a13 a14 a15 a16 x a20 a22 a27) g r := rfl
theorem mpn_18 {x : Nat} : (MW θ ad n g r).set 0 (ad 0, .inr (6, (mfs ad n g).set 18 (.int (nI x)))) = MW θ ad (nv (n 0) (n 1) (n 3) (n 5) (n 8) (n 10) (n 12) (n 13) (n 14) (n 15) (n 16) x (n 20) (n 22) (n 27)) g r := rfl
theorem mpv_20 {x : Nat} : (MW θ ad (nv a0 a1 a3 a5 a8 a10 a12 a13 a14 a15 a16 a18 a20 a22 a27) g r).set 0 (ad 0, .inr (6, (mfs ad (nv a0 a1 a3 a5 a8 a10 a12 a13 a14 a15 a16 a18 a20 a22 a27) g).set 20 (.int (nI x)))) = MW θ ad (nv a0 a1 a3 a5 a8 a10 a12 a13 a14 a15 a16 a18 x a22 a27) g r := rfl
theorem mpn_20 {x : Nat} : (MW θ ad n g r).set 0 (ad 0, .inr (6, (mfs ad n g).set 20 (.int (nI x)))) = MW θ ad (nv (n 0) (n 1) (n 3) (n 5) (n 8) (n 10) (n 12) (n 13) (n 14) (n 15) (n 16) (n 18) x (n 22) (n 27)) g r := rfl
theorem mpv_22 {x : Nat} : (MW θ ad (nv a0 a1 a3 a5 a8 a10 a12 a13 a14 a15 a16 a18 a20 a22 a27) g r).set 0 (ad 0, .inr (6, (mfs ad (nv a0 a1 a3 a5 a8 a10 a12 a13 a14 a15 a16 a18 a20 a22 a27) g).set 22 (.int (nI x)))) = MW θ ad (nv a0 a1 a3 a5 a8 a10 a12 a13 a14 a15 a16 a18 a20 x a27) g r := rfl
theorem mpn_22 {x : Nat} : (MW θ ad n g r).set 0 (ad 0, .inr (6, (mfs ad n g).set 22 (.int (nI x)))) = MW θ ad (nv (n 0) (n 1) (n 3) (n 5) (n 8) (n 10) (n 12) (n 13) (n 14) (n 15) (n 16) (n 18) (n 20) x (n 27)) g r := rfl
theorem mpv_27 {x : Nat} : (MW θ ad (nv a0 a1 a3 a5 a8 a10 a12 a13 a14 a15 a16 a18 a20 a22 a27) g r).set 0 (ad 0, .inr (6, (mfs ad (nv a0 a1 a3 a5 a8 a10 a12 a13 a14 a15 a16 a18 a20 a22 a27) g).set 27 (.int (nI x)))) = MW θ ad (nv a0 a1 a3 a5 a8 a10 a12 a13 a14 a15 a16 a18 a20 a22 x) g r := rfl
theorem mpn_27 {x : Nat} : (MW θ ad n g r).set 0 (ad 0, .inr (6, (mfs ad n g).set 27 (.int (nI x)))) = MW θ ad (nv (n 0) (n 1) (n 3) (n 5) (n 8) (n 10) (n 12) (n 13) (n 14) (n 15) (n 16) (n 18) (n 20) (n 22) x) g r := rfl
theorem mrv_2 : (MW θ ad n g (rv f2 f4 f6 f7 f9 f17 f19 f21 f23 f24 f25 f26 f28 f29 f30 f31 f32))[1]? = some (ad 2, .inl (θ.2.1, 6, .inl f2)) := rfl
theorem msv_2 {x : Nat → Int32} : (MW θ ad n g (rv f2 f4 f6 f7 f9 f17 f19 f21 f23 f24 f25 f26 f28 f29 f30 f31 f32)).set 1 (ad 2, .inl (θ.2.1, 6, .inl x)) = MW θ ad n g (rv x f4 f6 f7 f9 f17 f19 f21 f23 f24 f25 f26 f28 f29 f30 f31 f32) := rfl
theorem msn_2 {x : Nat → Int32} : (MW θ ad n g r).set 1 (ad 2, .inl (θ.2.1, 6, .inl x)) = MW θ ad n g (rv x (r 4) (r 6) (r 7) (r 9) (r 17) (r 19) (r 21) (r 23) (r 24) (r 25) (r 26) (r 28) (r 29) (r 30) (r 31) (r 32)) := rfl
theorem mrv_4 : (MW θ ad n g (rv f2 f4 f6 f7 f9 f17 f19 f21 f23 f24 f25 f26 f28 f29 f30 f31 f32))[2]? = some (ad 4, .inl (θ.2.1, 5, .inl f4)) := rfl
theorem msv_4 {x : Nat → Int32} : (MW θ ad n g (rv f2 f4 f6 f7 f9 f17 f19 f21 f23 f24 f25 f26 f28 f29 f30 f31 f32)).set 2 (ad 4, .inl (θ.2.1, 5, .inl x)) = MW θ ad n g (rv f2 x f6 f7 f9 f17 f19 f21 f23 f24 f25 f26 f28 f29 f30 f31 f32) := rfl
theorem msn_4 {x : Nat → Int32} : (MW θ ad n g r).set 2 (ad 4, .inl (θ.2.1, 5, .inl x)) = MW θ ad n g (rv (r 2) x (r 6) (r 7) (r 9) (r 17) (r 19) (r 21) (r 23) (r 24) (r 25) (r 26) (r 28) (r 29) (r 30) (r 31) (r 32)) := rfl
theorem mrv_6 : (MW θ ad n g (rv f2 f4 f6 f7 f9 f17 f19 f21 f23 f24 f25 f26 f28 f29 f30 f31 f32))[3]? = some (ad 6, .inl (θ.2.1, 6, .inl f6)) := rfl
theorem msv_6 {x : Nat → Int32} : (MW θ ad n g (rv f2 f4 f6 f7 f9 f17 f19 f21 f23 f24 f25 f26 f28 f29 f30 f31 f32)).set 3 (ad 6, .inl (θ.2.1, 6, .inl x)) = MW θ ad n g (rv f2 f4 x f7 f9 f17 f19 f21 f23 f24 f25 f26 f28 f29 f30 f31 f32) := rfl
theorem msn_6 {x : Nat → Int32} : (MW θ ad n g r).set 3 (ad 6, .inl (θ.2.1, 6, .inl x)) = MW θ ad n g (rv (r 2) (r 4) x (r 7) (r 9) (r 17) (r 19) (r 21) (r 23) (r 24) (r 25) (r 26) (r 28) (r 29) (r 30) (r 31) (r 32)) := rfl
theorem mrv_7 : (MW θ ad n g (rv f2 f4 f6 f7 f9 f17 f19 f21 f23 f24 f25 f26 f28 f29 f30 f31 f32))[4]? = some (ad 7, .inl (θ.2.1, 82, .inl f7)) := rfl
theorem msv_7 {x : Nat → Int32} : (MW θ ad n g (rv f2 f4 f6 f7 f9 f17 f19 f21 f23 f24 f25 f26 f28 f29 f30 f31 f32)).set 4 (ad 7, .inl (θ.2.1, 82, .inl x)) = MW θ ad n g (rv f2 f4 f6 x f9 f17 f19 f21 f23 f24 f25 f26 f28 f29 f30 f31 f32) := rfl
theorem msn_7 {x : Nat → Int32} : (MW θ ad n g r).set 4 (ad 7, .inl (θ.2.1, 82, .inl x)) = MW θ ad n g (rv (r 2) (r 4) (r 6) x (r 9) (r 17) (r 19) (r 21) (r 23) (r 24) (r 25) (r 26) (r 28) (r 29) (r 30) (r 31) (r 32)) := rfl
theorem mrv_9 : (MW θ ad n g (rv f2 f4 f6 f7 f9 f17 f19 f21 f23 f24 f25 f26 f28 f29 f30 f31 f32))[5]? = some (ad 9, .inl (θ.2.1, 240, .inl f9)) := rfl
theorem msv_9 {x : Nat → Int32} : (MW θ ad n g (rv f2 f4 f6 f7 f9 f17 f19 f21 f23 f24 f25 f26 f28 f29 f30 f31 f32)).set 5 (ad 9, .inl (θ.2.1, 240, .inl x)) = MW θ ad n g (rv f2 f4 f6 f7 x f17 f19 f21 f23 f24 f25 f26 f28 f29 f30 f31 f32) := rfl
theorem msn_9 {x : Nat → Int32} : (MW θ ad n g r).set 5 (ad 9, .inl (θ.2.1, 240, .inl x)) = MW θ ad n g (rv (r 2) (r 4) (r 6) (r 7) x (r 17) (r 19) (r 21) (r 23) (r 24) (r 25) (r 26) (r 28) (r 29) (r 30) (r 31) (r 32)) := rfl
theorem mrv_17 : (MW θ ad n g (rv f2 f4 f6 f7 f9 f17 f19 f21 f23 f24 f25 f26 f28 f29 f30 f31 f32))[6]? = some (ad 17, .inl (θ.2.1, 6, .inl f17)) := rfl
theorem msv_17 {x : Nat → Int32} : (MW θ ad n g (rv f2 f4 f6 f7 f9 f17 f19 f21 f23 f24 f25 f26 f28 f29 f30 f31 f32)).set 6 (ad 17, .inl (θ.2.1, 6, .inl x)) = MW θ ad n g (rv f2 f4 f6 f7 f9 x f19 f21 f23 f24 f25 f26 f28 f29 f30 f31 f32) := rfl
theorem msn_17 {x : Nat → Int32} : (MW θ ad n g r).set 6 (ad 17, .inl (θ.2.1, 6, .inl x)) = MW θ ad n g (rv (r 2) (r 4) (r 6) (r 7) (r 9) x (r 19) (r 21) (r 23) (r 24) (r 25) (r 26) (r 28) (r 29) (r 30) (r 31) (r 32)) := rfl
theorem mrv_19 : (MW θ ad n g (rv f2 f4 f6 f7 f9 f17 f19 f21 f23 f24 f25 f26 f28 f29 f30 f31 f32))[7]? = some (ad 19, .inl (θ.2.1, 5, .inl f19)) := rfl
theorem msv_19 {x : Nat → Int32} : (MW θ ad n g (rv f2 f4 f6 f7 f9 f17 f19 f21 f23 f24 f25 f26 f28 f29 f30 f31 f32)).set 7 (ad 19, .inl (θ.2.1, 5, .inl x)) = MW θ ad n g (rv f2 f4 f6 f7 f9 f17 x f21 f23 f24 f25 f26 f28 f29 f30 f31 f32) := rfl
theorem msn_19 {x : Nat → Int32} : (MW θ ad n g r).set 7 (ad 19, .inl (θ.2.1, 5, .inl x)) = MW θ ad n g (rv (r 2) (r 4) (r 6) (r 7) (r 9) (r 17) x (r 21) (r 23) (r 24) (r 25) (r 26) (r 28) (r 29) (r 30) (r 31) (r 32)) := rfl
theorem mrv_21 : (MW θ ad n g (rv f2 f4 f6 f7 f9 f17 f19 f21 f23 f24 f25 f26 f28 f29 f30 f31 f32))[8]? = some (ad 21, .inl (θ.2.1, 6, .inl f21)) := rfl
theorem msv_21 {x : Nat → Int32} : (MW θ ad n g (rv f2 f4 f6 f7 f9 f17 f19 f21 f23 f24 f25 f26 f28 f29 f30 f31 f32)).set 8 (ad 21, .inl (θ.2.1, 6, .inl x)) = MW θ ad n g (rv f2 f4 f6 f7 f9 f17 f19 x f23 f24 f25 f26 f28 f29 f30 f31 f32) := rfl
theorem msn_21 {x : Nat → Int32} : (MW θ ad n g r).set 8 (ad 21, .inl (θ.2.1, 6, .inl x)) = MW θ ad n g (rv (r 2) (r 4) (r 6) (r 7) (r 9) (r 17) (r 19) x (r 23) (r 24) (r 25) (r 26) (r 28) (r 29) (r 30) (r 31) (r 32)) := rfl
theorem mrv_23 : (MW θ ad n g (rv f2 f4 f6 f7 f9 f17 f19 f21 f23 f24 f25 f26 f28 f29 f30 f31 f32))[9]? = some (ad 23, .inl (θ.2.1, 1312, .inl f23)) := rfl
theorem msv_23 {x : Nat → Int32} : (MW θ ad n g (rv f2 f4 f6 f7 f9 f17 f19 f21 f23 f24 f25 f26 f28 f29 f30 f31 f32)).set 9 (ad 23, .inl (θ.2.1, 1312, .inl x)) = MW θ ad n g (rv f2 f4 f6 f7 f9 f17 f19 f21 x f24 f25 f26 f28 f29 f30 f31 f32) := rfl
theorem msn_23 {x : Nat → Int32} : (MW θ ad n g r).set 9 (ad 23, .inl (θ.2.1, 1312, .inl x)) = MW θ ad n g (rv (r 2) (r 4) (r 6) (r 7) (r 9) (r 17) (r 19) (r 21) x (r 24) (r 25) (r 26) (r 28) (r 29) (r 30) (r 31) (r 32)) := rfl
theorem mrv_24 : (MW θ ad n g (rv f2 f4 f6 f7 f9 f17 f19 f21 f23 f24 f25 f26 f28 f29 f30 f31 f32))[10]? = some (ad 24, .inl (θ.2.1, 6, .inl f24)) := rfl
theorem msv_24 {x : Nat → Int32} : (MW θ ad n g (rv f2 f4 f6 f7 f9 f17 f19 f21 f23 f24 f25 f26 f28 f29 f30 f31 f32)).set 10 (ad 24, .inl (θ.2.1, 6, .inl x)) = MW θ ad n g (rv f2 f4 f6 f7 f9 f17 f19 f21 f23 x f25 f26 f28 f29 f30 f31 f32) := rfl
theorem msn_24 {x : Nat → Int32} : (MW θ ad n g r).set 10 (ad 24, .inl (θ.2.1, 6, .inl x)) = MW θ ad n g (rv (r 2) (r 4) (r 6) (r 7) (r 9) (r 17) (r 19) (r 21) (r 23) x (r 25) (r 26) (r 28) (r 29) (r 30) (r 31) (r 32)) := rfl
theorem mrv_25 : (MW θ ad n g (rv f2 f4 f6 f7 f9 f17 f19 f21 f23 f24 f25 f26 f28 f29 f30 f31 f32))[11]? = some (ad 25, .inl (θ.2.1, 5, .inl f25)) := rfl
theorem msv_25 {x : Nat → Int32} : (MW θ ad n g (rv f2 f4 f6 f7 f9 f17 f19 f21 f23 f24 f25 f26 f28 f29 f30 f31 f32)).set 11 (ad 25, .inl (θ.2.1, 5, .inl x)) = MW θ ad n g (rv f2 f4 f6 f7 f9 f17 f19 f21 f23 f24 x f26 f28 f29 f30 f31 f32) := rfl
theorem msn_25 {x : Nat → Int32} : (MW θ ad n g r).set 11 (ad 25, .inl (θ.2.1, 5, .inl x)) = MW θ ad n g (rv (r 2) (r 4) (r 6) (r 7) (r 9) (r 17) (r 19) (r 21) (r 23) (r 24) x (r 26) (r 28) (r 29) (r 30) (r 31) (r 32)) := rfl
theorem mrv_26 : (MW θ ad n g (rv f2 f4 f6 f7 f9 f17 f19 f21 f23 f24 f25 f26 f28 f29 f30 f31 f32))[12]? = some (ad 26, .inl (θ.2.1, 30, .inl f26)) := rfl
theorem msv_26 {x : Nat → Int32} : (MW θ ad n g (rv f2 f4 f6 f7 f9 f17 f19 f21 f23 f24 f25 f26 f28 f29 f30 f31 f32)).set 12 (ad 26, .inl (θ.2.1, 30, .inl x)) = MW θ ad n g (rv f2 f4 f6 f7 f9 f17 f19 f21 f23 f24 f25 x f28 f29 f30 f31 f32) := rfl
theorem msn_26 {x : Nat → Int32} : (MW θ ad n g r).set 12 (ad 26, .inl (θ.2.1, 30, .inl x)) = MW θ ad n g (rv (r 2) (r 4) (r 6) (r 7) (r 9) (r 17) (r 19) (r 21) (r 23) (r 24) (r 25) x (r 28) (r 29) (r 30) (r 31) (r 32)) := rfl
theorem mrv_28 : (MW θ ad n g (rv f2 f4 f6 f7 f9 f17 f19 f21 f23 f24 f25 f26 f28 f29 f30 f31 f32))[13]? = some (ad 28, .inl (θ.2.1, 6, .inl f28)) := rfl
theorem msv_28 {x : Nat → Int32} : (MW θ ad n g (rv f2 f4 f6 f7 f9 f17 f19 f21 f23 f24 f25 f26 f28 f29 f30 f31 f32)).set 13 (ad 28, .inl (θ.2.1, 6, .inl x)) = MW θ ad n g (rv f2 f4 f6 f7 f9 f17 f19 f21 f23 f24 f25 f26 x f29 f30 f31 f32) := rfl
theorem msn_28 {x : Nat → Int32} : (MW θ ad n g r).set 13 (ad 28, .inl (θ.2.1, 6, .inl x)) = MW θ ad n g (rv (r 2) (r 4) (r 6) (r 7) (r 9) (r 17) (r 19) (r 21) (r 23) (r 24) (r 25) (r 26) x (r 29) (r 30) (r 31) (r 32)) := rfl
theorem mrv_29 : (MW θ ad n g (rv f2 f4 f6 f7 f9 f17 f19 f21 f23 f24 f25 f26 f28 f29 f30 f31 f32))[14]? = some (ad 29, .inl (θ.2.1, 6, .inl f29)) := rfl
theorem msv_29 {x : Nat → Int32} : (MW θ ad n g (rv f2 f4 f6 f7 f9 f17 f19 f21 f23 f24 f25 f26 f28 f29 f30 f31 f32)).set 14 (ad 29, .inl (θ.2.1, 6, .inl x)) = MW θ ad n g (rv f2 f4 f6 f7 f9 f17 f19 f21 f23 f24 f25 f26 f28 x f30 f31 f32) := rfl
theorem msn_29 {x : Nat → Int32} : (MW θ ad n g r).set 14 (ad 29, .inl (θ.2.1, 6, .inl x)) = MW θ ad n g (rv (r 2) (r 4) (r 6) (r 7) (r 9) (r 17) (r 19) (r 21) (r 23) (r 24) (r 25) (r 26) (r 28) x (r 30) (r 31) (r 32)) := rfl
theorem mrv_30 : (MW θ ad n g (rv f2 f4 f6 f7 f9 f17 f19 f21 f23 f24 f25 f26 f28 f29 f30 f31 f32))[15]? = some (ad 30, .inl (θ.2.1, 30, .inl f30)) := rfl
theorem msv_30 {x : Nat → Int32} : (MW θ ad n g (rv f2 f4 f6 f7 f9 f17 f19 f21 f23 f24 f25 f26 f28 f29 f30 f31 f32)).set 15 (ad 30, .inl (θ.2.1, 30, .inl x)) = MW θ ad n g (rv f2 f4 f6 f7 f9 f17 f19 f21 f23 f24 f25 f26 f28 f29 x f31 f32) := rfl
theorem msn_30 {x : Nat → Int32} : (MW θ ad n g r).set 15 (ad 30, .inl (θ.2.1, 30, .inl x)) = MW θ ad n g (rv (r 2) (r 4) (r 6) (r 7) (r 9) (r 17) (r 19) (r 21) (r 23) (r 24) (r 25) (r 26) (r 28) (r 29) x (r 31) (r 32)) := rfl
theorem mrv_31 : (MW θ ad n g (rv f2 f4 f6 f7 f9 f17 f19 f21 f23 f24 f25 f26 f28 f29 f30 f31 f32))[16]? = some (ad 31, .inl (θ.2.1, 166, .inl f31)) := rfl
theorem msv_31 {x : Nat → Int32} : (MW θ ad n g (rv f2 f4 f6 f7 f9 f17 f19 f21 f23 f24 f25 f26 f28 f29 f30 f31 f32)).set 16 (ad 31, .inl (θ.2.1, 166, .inl x)) = MW θ ad n g (rv f2 f4 f6 f7 f9 f17 f19 f21 f23 f24 f25 f26 f28 f29 f30 x f32) := rfl
theorem msn_31 {x : Nat → Int32} : (MW θ ad n g r).set 16 (ad 31, .inl (θ.2.1, 166, .inl x)) = MW θ ad n g (rv (r 2) (r 4) (r 6) (r 7) (r 9) (r 17) (r 19) (r 21) (r 23) (r 24) (r 25) (r 26) (r 28) (r 29) (r 30) x (r 32)) := rfl
theorem mrv_32 : (MW θ ad n g (rv f2 f4 f6 f7 f9 f17 f19 f21 f23 f24 f25 f26 f28 f29 f30 f31 f32))[17]? = some (ad 32, .inl (θ.2.2.1, 2, .inl f32)) := rfl
theorem msv_32 {x : Nat → Int32} : (MW θ ad n g (rv f2 f4 f6 f7 f9 f17 f19 f21 f23 f24 f25 f26 f28 f29 f30 f31 f32)).set 17 (ad 32, .inl (θ.2.2.1, 2, .inl x)) = MW θ ad n g (rv f2 f4 f6 f7 f9 f17 f19 f21 f23 f24 f25 f26 f28 f29 f30 f31 x) := rfl
theorem msn_32 {x : Nat → Int32} : (MW θ ad n g r).set 17 (ad 32, .inl (θ.2.2.1, 2, .inl x)) = MW θ ad n g (rv (r 2) (r 4) (r 6) (r 7) (r 9) (r 17) (r 19) (r 21) (r 23) (r 24) (r 25) (r 26) (r 28) (r 29) (r 30) (r 31) x) := rfl
theorem mfv_0 : (mfs ad (nv a0 a1 a3 a5 a8 a10 a12 a13 a14 a15 a16 a18 a20 a22 a27) g)[0]? = some (.int (nI a0)) := rfl
theorem mfv_1 : (mfs ad (nv a0 a1 a3 a5 a8 a10 a12 a13 a14 a15 a16 a18 a20 a22 a27) g)[1]? = some (.int (nI a1)) := rfl
theorem mfv_3 : (mfs ad (nv a0 a1 a3 a5 a8 a10 a12 a13 a14 a15 a16 a18 a20 a22 a27) g)[3]? = some (.int (nI a3)) := rfl
theorem mfv_5 : (mfs ad (nv a0 a1 a3 a5 a8 a10 a12 a13 a14 a15 a16 a18 a20 a22 a27) g)[5]? = some (.int (nI a5)) := rfl
theorem mfv_8 : (mfs ad (nv a0 a1 a3 a5 a8 a10 a12 a13 a14 a15 a16 a18 a20 a22 a27) g)[8]? = some (.int (nI a8)) := rfl
theorem mfv_10 : (mfs ad (nv a0 a1 a3 a5 a8 a10 a12 a13 a14 a15 a16 a18 a20 a22 a27) g)[10]? = some (.int (nI a10)) := rfl
theorem mfv_12 : (mfs ad (nv a0 a1 a3 a5 a8 a10 a12 a13 a14 a15 a16 a18 a20 a22 a27) g)[12]? = some (.int (nI a12)) := rfl
theorem mfv_13 : (mfs ad (nv a0 a1 a3 a5 a8 a10 a12 a13 a14 a15 a16 a18 a20 a22 a27) g)[13]? = some (.int (nI a13)) := rfl
theorem mfv_14 : (mfs ad (nv a0 a1 a3 a5 a8 a10 a12 a13 a14 a15 a16 a18 a20 a22 a27) g)[14]? = some (.int (nI a14)) := rfl
theorem mfv_15 : (mfs ad (nv a0 a1 a3 a5 a8 a10 a12 a13 a14 a15 a16 a18 a20 a22 a27) g)[15]? = some (.int (nI a15)) := rfl
theorem mfv_16 : (mfs ad (nv a0 a1 a3 a5 a8 a10 a12 a13 a14 a15 a16 a18 a20 a22 a27) g)[16]? = some (.int (nI a16)) := rfl
theorem mfv_18 : (mfs ad (nv a0 a1 a3 a5 a8 a10 a12 a13 a14 a15 a16 a18 a20 a22 a27) g)[18]? = some (.int (nI a18)) := rfl
theorem mfv_20 : (mfs ad (nv a0 a1 a3 a5 a8 a10 a12 a13 a14 a15 a16 a18 a20 a22 a27) g)[20]? = some (.int (nI a20)) := rfl
theorem mfv_22 : (mfs ad (nv a0 a1 a3 a5 a8 a10 a12 a13 a14 a15 a16 a18 a20 a22 a27) g)[22]? = some (.int (nI a22)) := rfl
theorem mfv_27 : (mfs ad (nv a0 a1 a3 a5 a8 a10 a12 a13 a14 a15 a16 a18 a20 a22 a27) g)[27]? = some (.int (nI a27)) := rfl
end MV
end
section
set_option maxHeartbeats 4000000 in
set_option maxRecDepth 100000 in
theorem c_X6_in (l : Launch) (θ : zH) (X : va_W) (v a b : Int64) : cI l yX6_in wsX6_in 0 θ [.long v, .long a, .long b] (X) (fun r Y => r = bI (m_in v a b) ∧ Y = X) := by
  refine z_cI (by decide) rfl rfl (Nat.le_of_ble_eq_true rfl) (lv := [(0, .long v), (2, .long a), (4, .long b)]) rfl (fun κ C E => ?_)
  refine z_lload_n C dX6_in_0 rfl (show zlk _ 0 = some (.long v) from rfl) ?_
  refine z_lload_n C dX6_in_1 rfl (show zlk _ 2 = some (.long a) from rfl) ?_
  refine z_lcmp C dX6_in_2 ?_
  refine z_if_lt C 17 dX6_in_3 (by decide) (fun h3t_1 => ?_) (fun h3n_1 => ?_)
  · refine z_iconst C (v := nI 0) dX6_in_17 (by decide) ?_
    exact E _ _ _ _ (⟨bI_f (by simp only [lg_lt, lg_gt] at h3t_1; simp [m_in]; omega), rfl⟩) (rfl) dX6_in_18
  · refine z_lload_n C dX6_in_6 rfl (show zlk _ 0 = some (.long v) from rfl) ?_
    refine z_lload C dX6_in_7 (show zlk _ 4 = some (.long b) from rfl) ?_
    refine z_lcmp C dX6_in_9 ?_
    refine z_if_gt C 17 dX6_in_10 (by decide) (fun h10t_2 => ?_) (fun h10n_2 => ?_)
    · refine z_iconst C (v := nI 0) dX6_in_17 (by decide) ?_
      exact E _ _ _ _ (⟨bI_f (by simp only [lg_lt, lg_gt] at h3n_1 h10t_2; simp [m_in]; omega), rfl⟩) (rfl) dX6_in_18
    · refine z_iconst C (v := nI 1) dX6_in_13 (by decide) ?_
      refine z_goto C 18 dX6_in_14 (by decide) ?_
      exact E _ _ _ _ (⟨bI_t (by simp only [lg_lt, lg_gt] at h3n_1 h10n_2; simp [m_in]; omega), rfl⟩) (rfl) dX6_in_18

def m_has (set k : Int32) : Bool := decide ((set >>> (k &&& 31)) &&& 1 = 1)
set_option maxHeartbeats 4000000 in
set_option maxRecDepth 100000 in
theorem c_X6_has (l : Launch) (θ : zH) (X : va_W) (set k : Int32) : cI l yX6_has wsX6_has 0 θ [.int set, .int k] (X) (fun r Y => r = bI (m_has set k) ∧ Y = X) := by
  refine z_cI (by decide) rfl rfl (Nat.le_of_ble_eq_true rfl) (lv := [(0, .int set), (1, .int k)]) rfl (fun κ C E => ?_)
  refine z_iload_n C dX6_has_0 rfl (show zlk _ 0 = some (.int set) from rfl) ?_
  refine z_iload_n C dX6_has_1 rfl (show zlk _ 1 = some (.int k) from rfl) ?_
  refine z_ishr C dX6_has_2 ?_
  refine z_iconst C (v := nI 1) dX6_has_3 (by decide) ?_
  refine z_iand C dX6_has_4 ?_
  refine z_iconst C (v := nI 1) dX6_has_5 (by decide) ?_
  refine z_icmp_ne C 13 dX6_has_6 (by decide) (fun h6t_1 => ?_) (fun h6n_1 => ?_)
  · refine z_iconst C (v := nI 0) dX6_has_13 (by decide) ?_
    exact E _ _ _ _ (⟨bI_f (by unfold m_has; first | exact decide_eq_true h6t_1 | exact decide_eq_false h6t_1), rfl⟩) (rfl) dX6_has_14
  · refine z_iconst C (v := nI 1) dX6_has_9 (by decide) ?_
    refine z_goto C 14 dX6_has_10 (by decide) ?_
    exact E _ _ _ _ (⟨bI_t (by unfold m_has; first | exact decide_eq_true h6n_1 | exact decide_eq_false h6n_1), rfl⟩) (rfl) dX6_has_14

def m_ones (set : Int32) : Nat → Int32
  | 0 => 0
  | k + 1 => m_ones set k + ((set >>> (nI k &&& 31)) &&& 1)
set_option maxHeartbeats 4000000 in
set_option maxRecDepth 100000 in
theorem c_X6_ones (l : Launch) (θ : zH) (X : va_W) (set : Int32) : cI l yX6_ones wsX6_ones 0 θ [.int set] (X) (fun r Y => r = m_ones set 30 ∧ Y = X) := by
  refine z_cI (by decide) rfl rfl (Nat.le_of_ble_eq_true rfl) (lv := [(0, .int set)]) rfl (fun κ C E => ?_)
  refine z_iconst C (v := nI 0) dX6_ones_0 (by decide) ?_
  refine z_istore_n C [(1, .int (nI 0)), (0, .int set)] dX6_ones_1 rfl (by decide) rfl ?_
  refine z_iconst C (v := nI 0) dX6_ones_2 (by decide) ?_
  refine z_istore_n C [(2, .int (nI 0)), (1, .int (nI 0)), (0, .int set)] dX6_ones_3 rfl (by decide) rfl ?_
  refine z_lv (lv' := [(0, .int set), (1, .int (m_ones set 0)), (2, .int (nI 0))]) rfl ?_
  refine z_up (fun k => Z κ (X) 4 [(0, .int set), (1, .int (m_ones set k)), (2, .int (nI k))] []) (30) ?_ ?_ 0 (by omega)
  · refine z_iload_n C dX6_ones_4 rfl (show zlk _ 2 = some (.int (nI 30)) from rfl) ?_
    refine z_bipush C (v := nI 30) dX6_ones_5 (by decide) ?_
    refine z_icmp_geT C 24 dX6_ones_7 (by decide) (by omega) (by omega) (by omega) ?_
    refine z_iload_n C dX6_ones_24 rfl (show zlk _ 1 = some (.int (m_ones set 30)) from rfl) ?_
    exact E _ _ _ _ (⟨rfl, rfl⟩) (rfl) dX6_ones_25
  · intro k hk4 ih4
    refine z_iload_n C dX6_ones_4 rfl (show zlk _ 2 = some (.int (nI k)) from rfl) ?_
    refine z_bipush C (v := nI 30) dX6_ones_5 (by decide) ?_
    refine z_icmp_geF C 24 dX6_ones_7 (by decide) (by omega) (by omega) (by omega) ?_
    refine z_iload_n C dX6_ones_10 rfl (show zlk _ 1 = some (.int (m_ones set k)) from rfl) ?_
    refine z_iload_n C dX6_ones_11 rfl (show zlk _ 0 = some (.int set) from rfl) ?_
    refine z_iload_n C dX6_ones_12 rfl (show zlk _ 2 = some (.int (nI k)) from rfl) ?_
    refine z_ishr C dX6_ones_13 ?_
    refine z_iconst C (v := nI 1) dX6_ones_14 (by decide) ?_
    refine z_iand C dX6_ones_15 ?_
    refine z_iadd C dX6_ones_16 ?_
    refine z_istore_n C [(1, .int ((m_ones set k) + ((set >>> ((nI k) &&& 31)) &&& (nI 1)))), (0, .int set), (2, .int (nI k))] dX6_ones_17 rfl (by decide) rfl ?_
    refine z_iincN C [(2, .int (nI (k + 1))), (1, .int ((m_ones set k) + ((set >>> ((nI k) &&& 31)) &&& (nI 1)))), (0, .int set)] dX6_ones_18 rfl (by decide) rfl ?_
    refine z_goto C 4 dX6_ones_21 (by decide) ?_
    exact z_to (ih4) (rfl) (rfl)

def m_shb (set bx : Int32) (k : Nat) : Int32 := bif m_has set (nI k) && m_in (Int32.toInt64 (nI (k % 6) + bx)) 0 5 then nI 1 <<< ((nI k + bx) &&& 31) else nI 0
def m_sh (set bx : Int32) : Nat → Int32
  | 0 => nI 0
  | k + 1 => m_sh set bx k ||| m_shb set bx k
set_option maxHeartbeats 4000000 in
set_option maxRecDepth 100000 in
theorem c_X6_shifted (l : Launch) (θ : zH) (X : va_W) (set bx : Int32) : cI l yX6_shifted wsX6_shifted 1 θ [.int set, .int bx] (X) (fun r Y => r = m_sh set bx 30 ∧ Y = X) := by
  refine z_cI (by decide) rfl rfl (Nat.le_of_ble_eq_true rfl) (lv := [(0, .int set), (1, .int bx)]) rfl (fun κ C E => ?_)
  refine z_iconst C (v := nI 0) dX6_shifted_0 (by decide) ?_
  refine z_istore_n C [(2, .int (nI 0)), (0, .int set), (1, .int bx)] dX6_shifted_1 rfl (by decide) rfl ?_
  refine z_iconst C (v := nI 0) dX6_shifted_2 (by decide) ?_
  refine z_istore_n C [(3, .int (nI 0)), (2, .int (nI 0)), (0, .int set), (1, .int bx)] dX6_shifted_3 rfl (by decide) rfl ?_
  refine z_lv (lv' := [(0, .int set), (1, .int bx), (2, .int (m_sh set bx 0)), (3, .int (nI 0))]) rfl ?_
  refine z_up (fun k => Z κ (X) 4 [(0, .int set), (1, .int bx), (2, .int (m_sh set bx k)), (3, .int (nI k))] []) (30) ?_ ?_ 0 (by omega)
  · refine z_iload_n C dX6_shifted_4 rfl (show zlk _ 3 = some (.int (nI 30)) from rfl) ?_
    refine z_bipush C (v := nI 30) dX6_shifted_5 (by decide) ?_
    refine z_icmp_geT C 57 dX6_shifted_7 (by decide) (by omega) (by omega) (by omega) ?_
    refine z_iload_n C dX6_shifted_57 rfl (show zlk _ 2 = some (.int (m_sh set bx 30)) from rfl) ?_
    exact E _ _ _ _ (⟨rfl, rfl⟩) (rfl) dX6_shifted_58
  · intro k hk4 ih4
    refine z_iload_n C dX6_shifted_4 rfl (show zlk _ 3 = some (.int (nI k)) from rfl) ?_
    refine z_bipush C (v := nI 30) dX6_shifted_5 (by decide) ?_
    refine z_icmp_geF C 57 dX6_shifted_7 (by decide) (by omega) (by omega) (by omega) ?_
    refine z_iload_n C dX6_shifted_10 rfl (show zlk _ 3 = some (.int (nI k)) from rfl) ?_
    refine z_bipush C (v := nI 6) dX6_shifted_11 (by decide) ?_
    refine z_iremN C dX6_shifted_13 (by omega) (by omega) (by omega) ?_
    refine z_iload_n C dX6_shifted_14 rfl (show zlk _ 1 = some (.int bx) from rfl) ?_
    refine z_iadd C dX6_shifted_15 ?_
    refine z_istore C [(4, .int ((nI (k % 6)) + bx)), (0, .int set), (1, .int bx), (2, .int (m_sh set bx k)), (3, .int (nI k))] dX6_shifted_16 (by decide) rfl ?_
    refine z_iload_n C dX6_shifted_18 rfl (show zlk _ 2 = some (.int (m_sh set bx k)) from rfl) ?_
    refine z_iload_n C dX6_shifted_19 rfl (show zlk _ 0 = some (.int set) from rfl) ?_
    refine z_iload_n C dX6_shifted_20 rfl (show zlk _ 3 = some (.int (nI k)) from rfl) ?_
    refine z_callSi C (As := [.int set, .int (nI k)]) (rest := [.int (m_sh set bx k)]) (c_X6_has l θ _ set (nI k)) gX6_shifted_X6_has rfl 2 (by decide +kernel) (by decide) (by decide) rfl rfl (Nat.le_of_ble_eq_true rfl) dX6_shifted_21 ?_
    rintro _ _ ⟨rfl, rfl⟩
    refine z_if_eqB C 48 dX6_shifted_24 (by decide) (fun h24t_1 => ?_) (fun h24n_1 => ?_)
    · refine z_iconst C (v := nI 0) dX6_shifted_48 (by decide) ?_
      refine z_ior C dX6_shifted_49 ?_
      refine z_istore_n C [(2, .int ((m_sh set bx k) ||| (nI 0))), (4, .int ((nI (k % 6)) + bx)), (0, .int set), (1, .int bx), (3, .int (nI k))] dX6_shifted_50 rfl (by decide) rfl ?_
      refine z_iincN C [(3, .int (nI (k + 1))), (2, .int ((m_sh set bx k) ||| (nI 0))), (4, .int ((nI (k % 6)) + bx)), (0, .int set), (1, .int bx)] dX6_shifted_51 rfl (by decide) rfl ?_
      refine z_goto C 4 dX6_shifted_54 (by decide) ?_
      exact z_to (ih4) (rfl) (by simp [zlk, m_sh, m_shb, h24t_1])
    · refine z_iload C dX6_shifted_27 (show zlk _ 4 = some (.int ((nI (k % 6)) + bx)) from rfl) ?_
      refine z_i2l C dX6_shifted_29 ?_
      refine z_lconst C (v := 0) dX6_shifted_30 (by decide) ?_
      refine z_ldc2 C (v := 5) (by decide +kernel) dX6_shifted_31 ?_
      refine z_callSi C (As := [.long (Int32.toInt64 ((nI (k % 6)) + bx)), .long 0, .long (5)]) (rest := [.int (m_sh set bx k)]) (c_X6_in l θ _ (Int32.toInt64 ((nI (k % 6)) + bx)) 0 (5)) gX6_shifted_X6_in rfl 3 (by decide +kernel) (by decide) (by decide) rfl rfl (Nat.le_of_ble_eq_true rfl) dX6_shifted_34 ?_
      rintro _ _ ⟨rfl, rfl⟩
      refine z_if_eqB C 48 dX6_shifted_37 (by decide) (fun h37t_2 => ?_) (fun h37n_2 => ?_)
      · refine z_iconst C (v := nI 0) dX6_shifted_48 (by decide) ?_
        refine z_ior C dX6_shifted_49 ?_
        refine z_istore_n C [(2, .int ((m_sh set bx k) ||| (nI 0))), (4, .int ((nI (k % 6)) + bx)), (0, .int set), (1, .int bx), (3, .int (nI k))] dX6_shifted_50 rfl (by decide) rfl ?_
        refine z_iincN C [(3, .int (nI (k + 1))), (2, .int ((m_sh set bx k) ||| (nI 0))), (4, .int ((nI (k % 6)) + bx)), (0, .int set), (1, .int bx)] dX6_shifted_51 rfl (by decide) rfl ?_
        refine z_goto C 4 dX6_shifted_54 (by decide) ?_
        exact z_to (ih4) (rfl) (by simp [zlk, m_sh, m_shb, h24n_1, h37t_2])
      · refine z_iconst C (v := nI 1) dX6_shifted_40 (by decide) ?_
        refine z_iload_n C dX6_shifted_41 rfl (show zlk _ 3 = some (.int (nI k)) from rfl) ?_
        refine z_iload_n C dX6_shifted_42 rfl (show zlk _ 1 = some (.int bx) from rfl) ?_
        refine z_iadd C dX6_shifted_43 ?_
        refine z_ishl C dX6_shifted_44 ?_
        refine z_goto C 49 dX6_shifted_45 (by decide) ?_
        refine z_ior C dX6_shifted_49 ?_
        refine z_istore_n C [(2, .int ((m_sh set bx k) ||| ((nI 1) <<< (((nI k) + bx) &&& 31)))), (4, .int ((nI (k % 6)) + bx)), (0, .int set), (1, .int bx), (3, .int (nI k))] dX6_shifted_50 rfl (by decide) rfl ?_
        refine z_iincN C [(3, .int (nI (k + 1))), (2, .int ((m_sh set bx k) ||| ((nI 1) <<< (((nI k) + bx) &&& 31)))), (4, .int ((nI (k % 6)) + bx)), (0, .int set), (1, .int bx)] dX6_shifted_51 rfl (by decide) rfl ?_
        refine z_goto C 4 dX6_shifted_54 (by decide) ?_
        exact z_to (ih4) (rfl) (by simp [zlk, m_sh, m_shb, h24n_1, h37n_2])

def m_mask (cs : Int32) : Nat → Int32
  | 0 => nI 0
  | k + 1 => m_mask cs k ||| (bif m_has cs (nI (k % 6)) then nI 1 <<< (nI k &&& 31) else nI 0)
set_option maxHeartbeats 4000000 in
set_option maxRecDepth 100000 in
theorem c_X6_maskOf (l : Launch) (θ : zH) (X : va_W) (cs : Int32) : cI l yX6_maskOf wsX6_maskOf 1 θ [.int cs] (X) (fun r Y => r = m_mask cs 30 ∧ Y = X) := by
  refine z_cI (by decide) rfl rfl (Nat.le_of_ble_eq_true rfl) (lv := [(0, .int cs)]) rfl (fun κ C E => ?_)
  refine z_iconst C (v := nI 0) dX6_maskOf_0 (by decide) ?_
  refine z_istore_n C [(1, .int (nI 0)), (0, .int cs)] dX6_maskOf_1 rfl (by decide) rfl ?_
  refine z_iconst C (v := nI 0) dX6_maskOf_2 (by decide) ?_
  refine z_istore_n C [(2, .int (nI 0)), (1, .int (nI 0)), (0, .int cs)] dX6_maskOf_3 rfl (by decide) rfl ?_
  refine z_lv (lv' := [(0, .int cs), (1, .int (m_mask cs 0)), (2, .int (nI 0))]) rfl ?_
  refine z_up (fun k => Z κ (X) 4 [(0, .int cs), (1, .int (m_mask cs k)), (2, .int (nI k))] []) (30) ?_ ?_ 0 (by omega)
  · refine z_iload_n C dX6_maskOf_4 rfl (show zlk _ 2 = some (.int (nI 30)) from rfl) ?_
    refine z_bipush C (v := nI 30) dX6_maskOf_5 (by decide) ?_
    refine z_icmp_geT C 37 dX6_maskOf_7 (by decide) (by omega) (by omega) (by omega) ?_
    refine z_iload_n C dX6_maskOf_37 rfl (show zlk _ 1 = some (.int (m_mask cs 30)) from rfl) ?_
    exact E _ _ _ _ (⟨rfl, rfl⟩) (rfl) dX6_maskOf_38
  · intro k hk4 ih4
    refine z_iload_n C dX6_maskOf_4 rfl (show zlk _ 2 = some (.int (nI k)) from rfl) ?_
    refine z_bipush C (v := nI 30) dX6_maskOf_5 (by decide) ?_
    refine z_icmp_geF C 37 dX6_maskOf_7 (by decide) (by omega) (by omega) (by omega) ?_
    refine z_iload_n C dX6_maskOf_10 rfl (show zlk _ 1 = some (.int (m_mask cs k)) from rfl) ?_
    refine z_iload_n C dX6_maskOf_11 rfl (show zlk _ 0 = some (.int cs) from rfl) ?_
    refine z_iload_n C dX6_maskOf_12 rfl (show zlk _ 2 = some (.int (nI k)) from rfl) ?_
    refine z_bipush C (v := nI 6) dX6_maskOf_13 (by decide) ?_
    refine z_iremN C dX6_maskOf_15 (by omega) (by omega) (by omega) ?_
    refine z_callSi C (As := [.int cs, .int (nI (k % 6))]) (rest := [.int (m_mask cs k)]) (c_X6_has l θ _ cs (nI (k % 6))) gX6_maskOf_X6_has rfl 2 (by decide +kernel) (by decide) (by decide) rfl rfl (Nat.le_of_ble_eq_true rfl) dX6_maskOf_16 ?_
    rintro _ _ ⟨rfl, rfl⟩
    refine z_if_eqB C 28 dX6_maskOf_19 (by decide) (fun h19t_1 => ?_) (fun h19n_1 => ?_)
    · refine z_iconst C (v := nI 0) dX6_maskOf_28 (by decide) ?_
      refine z_ior C dX6_maskOf_29 ?_
      refine z_istore_n C [(1, .int ((m_mask cs k) ||| (nI 0))), (0, .int cs), (2, .int (nI k))] dX6_maskOf_30 rfl (by decide) rfl ?_
      refine z_iincN C [(2, .int (nI (k + 1))), (1, .int ((m_mask cs k) ||| (nI 0))), (0, .int cs)] dX6_maskOf_31 rfl (by decide) rfl ?_
      refine z_goto C 4 dX6_maskOf_34 (by decide) ?_
      exact z_to (ih4) (rfl) (by simp [zlk, m_mask, h19t_1])
    · refine z_iconst C (v := nI 1) dX6_maskOf_22 (by decide) ?_
      refine z_iload_n C dX6_maskOf_23 rfl (show zlk _ 2 = some (.int (nI k)) from rfl) ?_
      refine z_ishl C dX6_maskOf_24 ?_
      refine z_goto C 29 dX6_maskOf_25 (by decide) ?_
      refine z_ior C dX6_maskOf_29 ?_
      refine z_istore_n C [(1, .int ((m_mask cs k) ||| ((nI 1) <<< ((nI k) &&& 31)))), (0, .int cs), (2, .int (nI k))] dX6_maskOf_30 rfl (by decide) rfl ?_
      refine z_iincN C [(2, .int (nI (k + 1))), (1, .int ((m_mask cs k) ||| ((nI 1) <<< ((nI k) &&& 31)))), (0, .int cs)] dX6_maskOf_31 rfl (by decide) rfl ?_
      refine z_goto C 4 dX6_maskOf_34 (by decide) ?_
      exact z_to (ih4) (rfl) (by simp [zlk, m_mask, h19n_1])

set_option maxHeartbeats 4000000 in
set_option maxRecDepth 100000 in
theorem c_X6_isCapital (l : Launch) (θ : zH) (ad : Nat → Nat) (n : Nat → Nat) (g : Int32) (r : Nat → Nat → Int32)  (h0 : n 0 < 2 ^ 31) : cI l yX6_isCapital wsX6_isCapital 0 θ [.ref (ad 0)] (MW θ ad n g r) (fun r0 Y => r0 = bI (decide (0 < n 0)) ∧ Y = MW θ ad n g r) := by
  refine z_cI (by decide) rfl rfl (Nat.le_of_ble_eq_true rfl) (lv := [(0, .ref (ad 0))]) rfl (fun κ C E => ?_)
  have hin : ∀ w ∈ wsX60, w ∈ wsX6_isCapital := by decide +kernel
  refine z_aload_n C dX6_isCapital_0 rfl (show zlk _ 0 = some (.ref (ad 0)) from rfl) ?_
  refine z_mg C hin 0 (by decide) (by decide +kernel) (v := .int (nI (n 0))) mf_0 dX6_isCapital_1 ?_
  refine z_if_leN C 11 dX6_isCapital_4 (by decide) (by omega) (fun h4t_1 => ?_) (fun h4n_1 => ?_)
  · refine z_iconst C (v := nI 0) dX6_isCapital_11 (by decide) ?_
    exact E _ _ _ _ (⟨bI_f (by simp; omega), rfl⟩) (rfl) dX6_isCapital_12
  · refine z_iconst C (v := nI 1) dX6_isCapital_7 (by decide) ?_
    refine z_goto C 12 dX6_isCapital_8 (by decide) ?_
    exact E _ _ _ _ (⟨bI_t (by simp; omega), rfl⟩) (rfl) dX6_isCapital_12

theorem m_in_ok {s : Int32} {N : Nat} (hN : N < 2 ^ 30) : m_in (Int32.toInt64 s) 0 (Int32.toInt64 (nI N - nI 1)) = okN s N := by
  unfold m_in okN
  rw [Int32.toInt_toInt64, Int32.toInt_toInt64, pk_sub_toInt hN (by decide)]
  have e : (Int64.toInt 0) = 0 := by decide
  rw [e]
  congr 1
  rw [Bool.eq_iff_iff]
  simp only [decide_eq_true_eq]
  omega
set_option maxHeartbeats 4000000 in
set_option maxRecDepth 100000 in
theorem c_X6_isSitter (l : Launch) (θ : zH) (ad : Nat → Nat) (n : Nat → Nat) (g : Int32) (r : Nat → Nat → Int32) (s : Int32) (h0 : n 1 < 2 ^ 30) : cI l yX6_isSitter wsX6_isSitter 1 θ [.ref (ad 0), .int s] (MW θ ad n g r) (fun r0 Y => r0 = bI (okN s (n 1)) ∧ Y = MW θ ad n g r) := by
  refine z_cI (by decide) rfl rfl (Nat.le_of_ble_eq_true rfl) (lv := [(0, .ref (ad 0)), (1, .int s)]) rfl (fun κ C E => ?_)
  have hin : ∀ w ∈ wsX60, w ∈ wsX6_isSitter := by decide +kernel
  refine z_iload_n C dX6_isSitter_0 rfl (show zlk _ 1 = some (.int s) from rfl) ?_
  refine z_i2l C dX6_isSitter_1 ?_
  refine z_lconst C (v := 0) dX6_isSitter_2 (by decide) ?_
  refine z_aload_n C dX6_isSitter_3 rfl (show zlk _ 0 = some (.ref (ad 0)) from rfl) ?_
  refine z_mg C hin 1 (by decide) (by decide +kernel) (v := .int (nI (n 1))) mf_1 dX6_isSitter_4 ?_
  refine z_iconst C (v := nI 1) dX6_isSitter_7 (by decide) ?_
  refine z_isub C dX6_isSitter_8 ?_
  refine z_i2l C dX6_isSitter_9 ?_
  refine z_callSi C (As := [.long (Int32.toInt64 s), .long 0, .long (Int32.toInt64 ((nI (n 1)) - (nI 1)))]) (rest := []) (c_X6_in l θ _ (Int32.toInt64 s) 0 (Int32.toInt64 ((nI (n 1)) - (nI 1)))) gX6_isSitter_X6_in rfl 3 (by decide +kernel) (by decide) (by decide) rfl rfl (Nat.le_of_ble_eq_true rfl) dX6_isSitter_10 ?_
  rintro _ _ ⟨rfl, rfl⟩
  exact E _ _ _ _ (⟨by rw [m_in_ok h0], rfl⟩) (bI_n _) dX6_isSitter_13

set_option maxHeartbeats 4000000 in
set_option maxRecDepth 100000 in
theorem c_X6_isWindow (l : Launch) (θ : zH) (ad : Nat → Nat) (n : Nat → Nat) (g : Int32) (r : Nat → Nat → Int32) (s : Int32) (h0 : n 3 < 2 ^ 30) : cI l yX6_isWindow wsX6_isWindow 1 θ [.ref (ad 0), .int s] (MW θ ad n g r) (fun r0 Y => r0 = bI (okN s (n 3)) ∧ Y = MW θ ad n g r) := by
  refine z_cI (by decide) rfl rfl (Nat.le_of_ble_eq_true rfl) (lv := [(0, .ref (ad 0)), (1, .int s)]) rfl (fun κ C E => ?_)
  have hin : ∀ w ∈ wsX60, w ∈ wsX6_isWindow := by decide +kernel
  refine z_iload_n C dX6_isWindow_0 rfl (show zlk _ 1 = some (.int s) from rfl) ?_
  refine z_i2l C dX6_isWindow_1 ?_
  refine z_lconst C (v := 0) dX6_isWindow_2 (by decide) ?_
  refine z_aload_n C dX6_isWindow_3 rfl (show zlk _ 0 = some (.ref (ad 0)) from rfl) ?_
  refine z_mg C hin 3 (by decide) (by decide +kernel) (v := .int (nI (n 3))) mf_3 dX6_isWindow_4 ?_
  refine z_iconst C (v := nI 1) dX6_isWindow_7 (by decide) ?_
  refine z_isub C dX6_isWindow_8 ?_
  refine z_i2l C dX6_isWindow_9 ?_
  refine z_callSi C (As := [.long (Int32.toInt64 s), .long 0, .long (Int32.toInt64 ((nI (n 3)) - (nI 1)))]) (rest := []) (c_X6_in l θ _ (Int32.toInt64 s) 0 (Int32.toInt64 ((nI (n 3)) - (nI 1)))) gX6_isWindow_X6_in rfl 3 (by decide +kernel) (by decide) (by decide) rfl rfl (Nat.le_of_ble_eq_true rfl) dX6_isWindow_10 ?_
  rintro _ _ ⟨rfl, rfl⟩
  exact E _ _ _ _ (⟨by rw [m_in_ok h0], rfl⟩) (bI_n _) dX6_isWindow_13

def m_who (at_ : Nat → Int32) (k : Int32) : Nat → Int32
  | 0 => (-1)
  | s + 1 => if at_ (6 + s) = k then nI s else m_who at_ k s
set_option maxHeartbeats 4000000 in
set_option maxRecDepth 100000 in
theorem c_X6_whoIsAt (l : Launch) (θ : zH) (ad : Nat → Nat) (n : Nat → Nat) (g : Int32) (r : Nat → Nat → Int32) (k : Int32) (h0 : n 1 ≤ 6) : cI l yX6_whoIsAt wsX6_whoIsAt 0 θ [.ref (ad 0), .int k] (MW θ ad n g r) (fun r0 Y => r0 = m_who (r 7) k (n 1) ∧ Y = MW θ ad n g r) := by
  refine z_cI (by decide) rfl rfl (Nat.le_of_ble_eq_true rfl) (lv := [(0, .ref (ad 0)), (1, .int k)]) rfl (fun κ C E => ?_)
  have hin : ∀ w ∈ wsX60, w ∈ wsX6_whoIsAt := by decide +kernel
  refine z_iconst C (v := (-1)) dX6_whoIsAt_0 (by decide) ?_
  refine z_istore_n C [(2, .int (-1)), (0, .ref (ad 0)), (1, .int k)] dX6_whoIsAt_1 rfl (by decide) rfl ?_
  refine z_iconst C (v := nI 0) dX6_whoIsAt_2 (by decide) ?_
  refine z_istore_n C [(3, .int (nI 0)), (2, .int (-1)), (0, .ref (ad 0)), (1, .int k)] dX6_whoIsAt_3 rfl (by decide) rfl ?_
  refine z_lv (lv' := [(0, .ref (ad 0)), (1, .int k), (2, .int (m_who (r 7) k 0)), (3, .int (nI 0))]) rfl ?_
  refine z_up (fun j => Z κ (MW θ ad n g r) 4 [(0, .ref (ad 0)), (1, .int k), (2, .int (m_who (r 7) k j)), (3, .int (nI j))] []) (n 1) ?_ ?_ 0 (by omega)
  · refine z_iload_n C dX6_whoIsAt_4 rfl (show zlk _ 3 = some (.int (nI (n 1))) from rfl) ?_
    refine z_aload_n C dX6_whoIsAt_5 rfl (show zlk _ 0 = some (.ref (ad 0)) from rfl) ?_
    refine z_mg C hin 1 (by decide) (by decide +kernel) (v := .int (nI (n 1))) mf_1 dX6_whoIsAt_6 ?_
    refine z_icmp_geT C 37 dX6_whoIsAt_9 (by decide) (by omega) (by omega) (by omega) ?_
    refine z_iload_n C dX6_whoIsAt_37 rfl (show zlk _ 2 = some (.int (m_who (r 7) k (n 1))) from rfl) ?_
    exact E _ _ _ _ (⟨rfl, rfl⟩) (rfl) dX6_whoIsAt_38
  · intro j hk4 ih4
    refine z_iload_n C dX6_whoIsAt_4 rfl (show zlk _ 3 = some (.int (nI j)) from rfl) ?_
    refine z_aload_n C dX6_whoIsAt_5 rfl (show zlk _ 0 = some (.ref (ad 0)) from rfl) ?_
    refine z_mg C hin 1 (by decide) (by decide +kernel) (v := .int (nI (n 1))) mf_1 dX6_whoIsAt_6 ?_
    refine z_icmp_geF C 37 dX6_whoIsAt_9 (by decide) (by omega) (by omega) (by omega) ?_
    refine z_aload_n C dX6_whoIsAt_12 rfl (show zlk _ 0 = some (.ref (ad 0)) from rfl) ?_
    refine z_mg C hin 7 (by decide) (by decide +kernel) (v := .ref (ad 7)) mf_7 dX6_whoIsAt_13 ?_
    refine z_bipush C (v := nI 6) dX6_whoIsAt_16 (by decide) ?_
    refine z_iload_n C dX6_whoIsAt_18 rfl (show zlk _ 3 = some (.int (nI j)) from rfl) ?_
    refine z_iaddN C dX6_whoIsAt_19 ?_
    refine z_iald C (f := (r 7)) 4 mr_7 (6 + j) rfl (by omega) (by decide) dX6_whoIsAt_20 ?_
    refine z_iload_n C dX6_whoIsAt_21 rfl (show zlk _ 1 = some (.int k) from rfl) ?_
    refine z_icmp_ne C 29 dX6_whoIsAt_22 (by decide) (fun h22t_1 => ?_) (fun h22n_1 => ?_)
    · refine z_iload_n C dX6_whoIsAt_29 rfl (show zlk _ 2 = some (.int (m_who (r 7) k j)) from rfl) ?_
      refine z_istore_n C [(2, .int (m_who (r 7) k j)), (0, .ref (ad 0)), (1, .int k), (3, .int (nI j))] dX6_whoIsAt_30 rfl (by decide) rfl ?_
      refine z_iincN C [(3, .int (nI (j + 1))), (2, .int (m_who (r 7) k j)), (0, .ref (ad 0)), (1, .int k)] dX6_whoIsAt_31 rfl (by decide) rfl ?_
      refine z_goto C 4 dX6_whoIsAt_34 (by decide) ?_
      exact z_to (ih4) (rfl) (by simp [zlk, m_who, h22t_1])
    · refine z_iload_n C dX6_whoIsAt_25 rfl (show zlk _ 3 = some (.int (nI j)) from rfl) ?_
      refine z_goto C 30 dX6_whoIsAt_26 (by decide) ?_
      refine z_istore_n C [(2, .int (nI j)), (0, .ref (ad 0)), (1, .int k), (3, .int (nI j))] dX6_whoIsAt_30 rfl (by decide) rfl ?_
      refine z_iincN C [(3, .int (nI (j + 1))), (2, .int (nI j)), (0, .ref (ad 0)), (1, .int k)] dX6_whoIsAt_31 rfl (by decide) rfl ?_
      refine z_goto C 4 dX6_whoIsAt_34 (by decide) ?_
      exact z_to (ih4) (rfl) (by simp [zlk, m_who, h22n_1])
end
section
def m_dr (set bats : Int32) (G : Nat) : Nat → Nat × Int32
  | 0 => (G, nI 0)
  | k + 1 => if (m_has set (nI k) = true ∧ m_has bats (nI (k % 6)) = false) ∧ ¬ (m_dr set bats G k).1 = 0 then ((m_dr set bats G k).1 - 1, (m_dr set bats G k).2 ||| (nI 1 <<< (nI k &&& 31))) else ((m_dr set bats G k).1, (m_dr set bats G k).2 ||| nI 0)
theorem m_dr_le (set bats : Int32) (G : Nat) : ∀ k, (m_dr set bats G k).1 ≤ G
  | 0 => Nat.le_refl _
  | k + 1 => by
    have := m_dr_le set bats G k
    unfold m_dr
    split <;> dsimp only <;> omega
def m_set (r : Nat → Nat → Int32) (j : Nat) (bx : Int32) : Int32 := m_sh (r 2 j) bx 30 &&& (r 7 3 ^^^ (-1))
def m_drawn (r : Nat → Nat → Int32) (G j : Nat) (bx : Int32) : Int32 := (m_dr (m_set r j bx) (r 7 2) G 30).2
set_option maxHeartbeats 4000000 in
set_option maxRecDepth 100000 in
theorem c_X6_drawnBy (l : Launch) (θ : zH) (ad : Nat → Nat) (n : Nat → Nat) (g : Int32) (r : Nat → Nat → Int32) (j : Nat) (bx : Int32) (hj : j < 6) (h0 : n 0 ≤ 30) : cI l yX6_drawnBy wsX6_drawnBy 2 θ [.ref (ad 0), .int (nI j), .int bx] (MW θ ad n g r) (fun r0 Y => r0 = m_drawn r (n 0) j bx ∧ Y = MW θ ad n g r) := by
  refine z_cI (by decide) rfl rfl (Nat.le_of_ble_eq_true rfl) (lv := [(0, .ref (ad 0)), (1, .int (nI j)), (2, .int bx)]) rfl (fun κ C E => ?_)
  have hin : ∀ w ∈ wsX60, w ∈ wsX6_drawnBy := by decide +kernel
  refine z_aload_n C dX6_drawnBy_0 rfl (show zlk _ 0 = some (.ref (ad 0)) from rfl) ?_
  refine z_mg C hin 2 (by decide) (by decide +kernel) (v := .ref (ad 2)) mf_2 dX6_drawnBy_1 ?_
  refine z_iload_n C dX6_drawnBy_4 rfl (show zlk _ 1 = some (.int (nI j)) from rfl) ?_
  refine z_iald C (f := (r 2)) 1 mr_2 j rfl (by omega) (by decide) dX6_drawnBy_5 ?_
  refine z_iload_n C dX6_drawnBy_6 rfl (show zlk _ 2 = some (.int bx) from rfl) ?_
  refine z_callSi C (As := [.int ((r 2) j), .int bx]) (rest := []) (c_X6_shifted l θ _ ((r 2) j) bx) gX6_drawnBy_X6_shifted rfl 2 (by decide +kernel) (by decide) (by decide) rfl rfl (Nat.le_of_ble_eq_true rfl) dX6_drawnBy_7 ?_
  rintro _ _ ⟨rfl, rfl⟩
  refine z_aload_n C dX6_drawnBy_10 rfl (show zlk _ 0 = some (.ref (ad 0)) from rfl) ?_
  refine z_mg C hin 7 (by decide) (by decide +kernel) (v := .ref (ad 7)) mf_7 dX6_drawnBy_11 ?_
  refine z_iconst C (v := nI 3) dX6_drawnBy_14 (by decide) ?_
  refine z_iald C (f := (r 7)) 4 mr_7 3 rfl (by omega) (by decide) dX6_drawnBy_15 ?_
  refine z_iconst C (v := (-1)) dX6_drawnBy_16 (by decide) ?_
  refine z_ixor C dX6_drawnBy_17 ?_
  refine z_iand C dX6_drawnBy_18 ?_
  refine z_top (v' := .int (m_set r j bx)) (rfl) ?_
  refine z_istore_n C [(3, .int (m_set r j bx)), (0, .ref (ad 0)), (1, .int (nI j)), (2, .int bx)] dX6_drawnBy_19 rfl (by decide) rfl ?_
  refine z_aload_n C dX6_drawnBy_20 rfl (show zlk _ 0 = some (.ref (ad 0)) from rfl) ?_
  refine z_mg C hin 0 (by decide) (by decide +kernel) (v := .int (nI (n 0))) mf_0 dX6_drawnBy_21 ?_
  refine z_istore C [(4, .int (nI (n 0))), (3, .int (m_set r j bx)), (0, .ref (ad 0)), (1, .int (nI j)), (2, .int bx)] dX6_drawnBy_24 (by decide) rfl ?_
  refine z_iconst C (v := nI 0) dX6_drawnBy_26 (by decide) ?_
  refine z_istore C [(5, .int (nI 0)), (4, .int (nI (n 0))), (3, .int (m_set r j bx)), (0, .ref (ad 0)), (1, .int (nI j)), (2, .int bx)] dX6_drawnBy_27 (by decide) rfl ?_
  refine z_iconst C (v := nI 0) dX6_drawnBy_29 (by decide) ?_
  refine z_istore C [(6, .int (nI 0)), (5, .int (nI 0)), (4, .int (nI (n 0))), (3, .int (m_set r j bx)), (0, .ref (ad 0)), (1, .int (nI j)), (2, .int bx)] dX6_drawnBy_30 (by decide) rfl ?_
  refine z_lv (lv' := [(0, .ref (ad 0)), (3, .int (m_set r j bx)), (4, .int (nI ((m_dr (m_set r j bx) (r 7 2) (n 0) 0).1))), (5, .int ((m_dr (m_set r j bx) (r 7 2) (n 0) 0).2)), (6, .int (nI 0))]) rfl ?_
  refine z_up (fun k => Z κ (MW θ ad n g r) 32 [(0, .ref (ad 0)), (3, .int (m_set r j bx)), (4, .int (nI ((m_dr (m_set r j bx) (r 7 2) (n 0) k).1))), (5, .int ((m_dr (m_set r j bx) (r 7 2) (n 0) k).2)), (6, .int (nI k))] []) (30) ?_ ?_ 0 (by omega)
  · refine z_iload C dX6_drawnBy_32 (show zlk _ 6 = some (.int (nI 30)) from rfl) ?_
    refine z_bipush C (v := nI 30) dX6_drawnBy_34 (by decide) ?_
    refine z_icmp_geT C 116 dX6_drawnBy_36 (by decide) (by omega) (by omega) (by omega) ?_
    refine z_iload C dX6_drawnBy_116 (show zlk _ 5 = some (.int ((m_dr (m_set r j bx) (r 7 2) (n 0) 30).2)) from rfl) ?_
    exact E _ _ _ _ (⟨rfl, rfl⟩) (rfl) dX6_drawnBy_118
  · intro k hk32 ih32
    refine z_iload C dX6_drawnBy_32 (show zlk _ 6 = some (.int (nI k)) from rfl) ?_
    refine z_bipush C (v := nI 30) dX6_drawnBy_34 (by decide) ?_
    refine z_icmp_geF C 116 dX6_drawnBy_36 (by decide) (by omega) (by omega) (by omega) ?_
    refine z_iload_n C dX6_drawnBy_39 rfl (show zlk _ 3 = some (.int (m_set r j bx)) from rfl) ?_
    refine z_iload C dX6_drawnBy_40 (show zlk _ 6 = some (.int (nI k)) from rfl) ?_
    refine z_callSi C (As := [.int (m_set r j bx), .int (nI k)]) (rest := []) (c_X6_has l θ _ (m_set r j bx) (nI k)) gX6_drawnBy_X6_has rfl 2 (by decide +kernel) (by decide) (by decide) rfl rfl (Nat.le_of_ble_eq_true rfl) dX6_drawnBy_42 ?_
    rintro _ _ ⟨rfl, rfl⟩
    refine z_if_eqB C 74 dX6_drawnBy_45 (by decide) (fun h45t_1 => ?_) (fun h45n_1 => ?_)
    · refine z_iconst C (v := nI 0) dX6_drawnBy_74 (by decide) ?_
      refine z_istore C [(7, .int (nI 0)), (0, .ref (ad 0)), (3, .int (m_set r j bx)), (4, .int (nI ((m_dr (m_set r j bx) (r 7 2) (n 0) k).1))), (5, .int ((m_dr (m_set r j bx) (r 7 2) (n 0) k).2)), (6, .int (nI k))] dX6_drawnBy_75 (by decide) rfl ?_
      refine z_iload C dX6_drawnBy_77 (show zlk _ 5 = some (.int ((m_dr (m_set r j bx) (r 7 2) (n 0) k).2)) from rfl) ?_
      refine z_iload C dX6_drawnBy_79 (show zlk _ 7 = some (.int (nI 0)) from rfl) ?_
      refine z_if_eqN C 91 dX6_drawnBy_81 (by decide) (by decide) (fun _ => ?_) (fun h => absurd h (by decide))
      refine z_iconst C (v := nI 0) dX6_drawnBy_91 (by decide) ?_
      refine z_ior C dX6_drawnBy_92 ?_
      refine z_istore C [(5, .int (((m_dr (m_set r j bx) (r 7 2) (n 0) k).2) ||| (nI 0))), (7, .int (nI 0)), (0, .ref (ad 0)), (3, .int (m_set r j bx)), (4, .int (nI ((m_dr (m_set r j bx) (r 7 2) (n 0) k).1))), (6, .int (nI k))] dX6_drawnBy_93 (by decide) rfl ?_
      refine z_iload C dX6_drawnBy_95 (show zlk _ 4 = some (.int (nI ((m_dr (m_set r j bx) (r 7 2) (n 0) k).1))) from rfl) ?_
      refine z_iload C dX6_drawnBy_97 (show zlk _ 7 = some (.int (nI 0)) from rfl) ?_
      refine z_if_eqN C 106 dX6_drawnBy_99 (by decide) (by decide) (fun _ => ?_) (fun h => absurd h (by decide))
      refine z_iconst C (v := nI 0) dX6_drawnBy_106 (by decide) ?_
      refine z_isubN C dX6_drawnBy_107 (by omega) ?_
      refine z_istore C [(4, .int (nI ((m_dr (m_set r j bx) (r 7 2) (n 0) k).1))), (5, .int (((m_dr (m_set r j bx) (r 7 2) (n 0) k).2) ||| (nI 0))), (7, .int (nI 0)), (0, .ref (ad 0)), (3, .int (m_set r j bx)), (6, .int (nI k))] dX6_drawnBy_108 (by decide) rfl ?_
      refine z_iincN C [(6, .int (nI (k + 1))), (4, .int (nI ((m_dr (m_set r j bx) (r 7 2) (n 0) k).1))), (5, .int (((m_dr (m_set r j bx) (r 7 2) (n 0) k).2) ||| (nI 0))), (7, .int (nI 0)), (0, .ref (ad 0)), (3, .int (m_set r j bx))] dX6_drawnBy_110 rfl (by decide) rfl ?_
      refine z_goto C 32 dX6_drawnBy_113 (by decide) ?_
      exact z_to (ih32) (rfl) (by simp [zlk, m_dr, h45t_1])
    · refine z_aload_n C dX6_drawnBy_48 rfl (show zlk _ 0 = some (.ref (ad 0)) from rfl) ?_
      refine z_mg C hin 7 (by decide) (by decide +kernel) (v := .ref (ad 7)) mf_7 dX6_drawnBy_49 ?_
      refine z_iconst C (v := nI 2) dX6_drawnBy_52 (by decide) ?_
      refine z_iald C (f := (r 7)) 4 mr_7 2 rfl (by omega) (by decide) dX6_drawnBy_53 ?_
      refine z_iload C dX6_drawnBy_54 (show zlk _ 6 = some (.int (nI k)) from rfl) ?_
      refine z_bipush C (v := nI 6) dX6_drawnBy_56 (by decide) ?_
      refine z_iremN C dX6_drawnBy_58 (by omega) (by omega) (by omega) ?_
      refine z_callSi C (As := [.int ((r 7) 2), .int (nI (k % 6))]) (rest := []) (c_X6_has l θ _ ((r 7) 2) (nI (k % 6))) gX6_drawnBy_X6_has rfl 2 (by decide +kernel) (by decide) (by decide) rfl rfl (Nat.le_of_ble_eq_true rfl) dX6_drawnBy_59 ?_
      rintro _ _ ⟨rfl, rfl⟩
      refine z_if_neB C 74 dX6_drawnBy_62 (by decide) (fun h62t_2 => ?_) (fun h62n_2 => ?_)
      · refine z_iconst C (v := nI 0) dX6_drawnBy_74 (by decide) ?_
        refine z_istore C [(7, .int (nI 0)), (0, .ref (ad 0)), (3, .int (m_set r j bx)), (4, .int (nI ((m_dr (m_set r j bx) (r 7 2) (n 0) k).1))), (5, .int ((m_dr (m_set r j bx) (r 7 2) (n 0) k).2)), (6, .int (nI k))] dX6_drawnBy_75 (by decide) rfl ?_
        refine z_iload C dX6_drawnBy_77 (show zlk _ 5 = some (.int ((m_dr (m_set r j bx) (r 7 2) (n 0) k).2)) from rfl) ?_
        refine z_iload C dX6_drawnBy_79 (show zlk _ 7 = some (.int (nI 0)) from rfl) ?_
        refine z_if_eqN C 91 dX6_drawnBy_81 (by decide) (by decide) (fun _ => ?_) (fun h => absurd h (by decide))
        refine z_iconst C (v := nI 0) dX6_drawnBy_91 (by decide) ?_
        refine z_ior C dX6_drawnBy_92 ?_
        refine z_istore C [(5, .int (((m_dr (m_set r j bx) (r 7 2) (n 0) k).2) ||| (nI 0))), (7, .int (nI 0)), (0, .ref (ad 0)), (3, .int (m_set r j bx)), (4, .int (nI ((m_dr (m_set r j bx) (r 7 2) (n 0) k).1))), (6, .int (nI k))] dX6_drawnBy_93 (by decide) rfl ?_
        refine z_iload C dX6_drawnBy_95 (show zlk _ 4 = some (.int (nI ((m_dr (m_set r j bx) (r 7 2) (n 0) k).1))) from rfl) ?_
        refine z_iload C dX6_drawnBy_97 (show zlk _ 7 = some (.int (nI 0)) from rfl) ?_
        refine z_if_eqN C 106 dX6_drawnBy_99 (by decide) (by decide) (fun _ => ?_) (fun h => absurd h (by decide))
        refine z_iconst C (v := nI 0) dX6_drawnBy_106 (by decide) ?_
        refine z_isubN C dX6_drawnBy_107 (by omega) ?_
        refine z_istore C [(4, .int (nI ((m_dr (m_set r j bx) (r 7 2) (n 0) k).1))), (5, .int (((m_dr (m_set r j bx) (r 7 2) (n 0) k).2) ||| (nI 0))), (7, .int (nI 0)), (0, .ref (ad 0)), (3, .int (m_set r j bx)), (6, .int (nI k))] dX6_drawnBy_108 (by decide) rfl ?_
        refine z_iincN C [(6, .int (nI (k + 1))), (4, .int (nI ((m_dr (m_set r j bx) (r 7 2) (n 0) k).1))), (5, .int (((m_dr (m_set r j bx) (r 7 2) (n 0) k).2) ||| (nI 0))), (7, .int (nI 0)), (0, .ref (ad 0)), (3, .int (m_set r j bx))] dX6_drawnBy_110 rfl (by decide) rfl ?_
        refine z_goto C 32 dX6_drawnBy_113 (by decide) ?_
        exact z_to (ih32) (rfl) (by simp [zlk, m_dr, h45n_1, h62t_2])
      · refine z_iload C dX6_drawnBy_65 (show zlk _ 4 = some (.int (nI ((m_dr (m_set r j bx) (r 7 2) (n 0) k).1))) from rfl) ?_
        refine z_if_leN C 74 dX6_drawnBy_67 (by decide) (by have := m_dr_le (m_set r j bx) (r 7 2) (n 0) k; omega) (fun h67t_3 => ?_) (fun h67n_3 => ?_)
        · refine z_iconst C (v := nI 0) dX6_drawnBy_74 (by decide) ?_
          refine z_istore C [(7, .int (nI 0)), (0, .ref (ad 0)), (3, .int (m_set r j bx)), (4, .int (nI ((m_dr (m_set r j bx) (r 7 2) (n 0) k).1))), (5, .int ((m_dr (m_set r j bx) (r 7 2) (n 0) k).2)), (6, .int (nI k))] dX6_drawnBy_75 (by decide) rfl ?_
          refine z_iload C dX6_drawnBy_77 (show zlk _ 5 = some (.int ((m_dr (m_set r j bx) (r 7 2) (n 0) k).2)) from rfl) ?_
          refine z_iload C dX6_drawnBy_79 (show zlk _ 7 = some (.int (nI 0)) from rfl) ?_
          refine z_if_eqN C 91 dX6_drawnBy_81 (by decide) (by decide) (fun _ => ?_) (fun h => absurd h (by decide))
          refine z_iconst C (v := nI 0) dX6_drawnBy_91 (by decide) ?_
          refine z_ior C dX6_drawnBy_92 ?_
          refine z_istore C [(5, .int (((m_dr (m_set r j bx) (r 7 2) (n 0) k).2) ||| (nI 0))), (7, .int (nI 0)), (0, .ref (ad 0)), (3, .int (m_set r j bx)), (4, .int (nI ((m_dr (m_set r j bx) (r 7 2) (n 0) k).1))), (6, .int (nI k))] dX6_drawnBy_93 (by decide) rfl ?_
          refine z_iload C dX6_drawnBy_95 (show zlk _ 4 = some (.int (nI ((m_dr (m_set r j bx) (r 7 2) (n 0) k).1))) from rfl) ?_
          refine z_iload C dX6_drawnBy_97 (show zlk _ 7 = some (.int (nI 0)) from rfl) ?_
          refine z_if_eqN C 106 dX6_drawnBy_99 (by decide) (by decide) (fun _ => ?_) (fun h => absurd h (by decide))
          refine z_iconst C (v := nI 0) dX6_drawnBy_106 (by decide) ?_
          refine z_isubN C dX6_drawnBy_107 (by omega) ?_
          refine z_istore C [(4, .int (nI ((m_dr (m_set r j bx) (r 7 2) (n 0) k).1))), (5, .int (((m_dr (m_set r j bx) (r 7 2) (n 0) k).2) ||| (nI 0))), (7, .int (nI 0)), (0, .ref (ad 0)), (3, .int (m_set r j bx)), (6, .int (nI k))] dX6_drawnBy_108 (by decide) rfl ?_
          refine z_iincN C [(6, .int (nI (k + 1))), (4, .int (nI ((m_dr (m_set r j bx) (r 7 2) (n 0) k).1))), (5, .int (((m_dr (m_set r j bx) (r 7 2) (n 0) k).2) ||| (nI 0))), (7, .int (nI 0)), (0, .ref (ad 0)), (3, .int (m_set r j bx))] dX6_drawnBy_110 rfl (by decide) rfl ?_
          refine z_goto C 32 dX6_drawnBy_113 (by decide) ?_
          exact z_to (ih32) (rfl) (by simp [zlk, m_dr, h45n_1, h62n_2, h67t_3])
        · refine z_iconst C (v := nI 1) dX6_drawnBy_70 (by decide) ?_
          refine z_goto C 75 dX6_drawnBy_71 (by decide) ?_
          refine z_istore C [(7, .int (nI 1)), (0, .ref (ad 0)), (3, .int (m_set r j bx)), (4, .int (nI ((m_dr (m_set r j bx) (r 7 2) (n 0) k).1))), (5, .int ((m_dr (m_set r j bx) (r 7 2) (n 0) k).2)), (6, .int (nI k))] dX6_drawnBy_75 (by decide) rfl ?_
          refine z_iload C dX6_drawnBy_77 (show zlk _ 5 = some (.int ((m_dr (m_set r j bx) (r 7 2) (n 0) k).2)) from rfl) ?_
          refine z_iload C dX6_drawnBy_79 (show zlk _ 7 = some (.int (nI 1)) from rfl) ?_
          refine z_if_eqN C 91 dX6_drawnBy_81 (by decide) (by decide) (fun h => absurd h (by decide)) (fun _ => ?_)
          refine z_iconst C (v := nI 1) dX6_drawnBy_84 (by decide) ?_
          refine z_iload C dX6_drawnBy_85 (show zlk _ 6 = some (.int (nI k)) from rfl) ?_
          refine z_ishl C dX6_drawnBy_87 ?_
          refine z_goto C 92 dX6_drawnBy_88 (by decide) ?_
          refine z_ior C dX6_drawnBy_92 ?_
          refine z_istore C [(5, .int (((m_dr (m_set r j bx) (r 7 2) (n 0) k).2) ||| ((nI 1) <<< ((nI k) &&& 31)))), (7, .int (nI 1)), (0, .ref (ad 0)), (3, .int (m_set r j bx)), (4, .int (nI ((m_dr (m_set r j bx) (r 7 2) (n 0) k).1))), (6, .int (nI k))] dX6_drawnBy_93 (by decide) rfl ?_
          refine z_iload C dX6_drawnBy_95 (show zlk _ 4 = some (.int (nI ((m_dr (m_set r j bx) (r 7 2) (n 0) k).1))) from rfl) ?_
          refine z_iload C dX6_drawnBy_97 (show zlk _ 7 = some (.int (nI 1)) from rfl) ?_
          refine z_if_eqN C 106 dX6_drawnBy_99 (by decide) (by decide) (fun h => absurd h (by decide)) (fun _ => ?_)
          refine z_iconst C (v := nI 1) dX6_drawnBy_102 (by decide) ?_
          refine z_goto C 107 dX6_drawnBy_103 (by decide) ?_
          refine z_isubN C dX6_drawnBy_107 (by omega) ?_
          refine z_istore C [(4, .int (nI ((m_dr (m_set r j bx) (r 7 2) (n 0) k).1 - 1))), (5, .int (((m_dr (m_set r j bx) (r 7 2) (n 0) k).2) ||| ((nI 1) <<< ((nI k) &&& 31)))), (7, .int (nI 1)), (0, .ref (ad 0)), (3, .int (m_set r j bx)), (6, .int (nI k))] dX6_drawnBy_108 (by decide) rfl ?_
          refine z_iincN C [(6, .int (nI (k + 1))), (4, .int (nI ((m_dr (m_set r j bx) (r 7 2) (n 0) k).1 - 1))), (5, .int (((m_dr (m_set r j bx) (r 7 2) (n 0) k).2) ||| ((nI 1) <<< ((nI k) &&& 31)))), (7, .int (nI 1)), (0, .ref (ad 0)), (3, .int (m_set r j bx))] dX6_drawnBy_110 rfl (by decide) rfl ?_
          refine z_goto C 32 dX6_drawnBy_113 (by decide) ?_
          exact z_to (ih32) (rfl) (by simp [zlk, m_dr, h45n_1, h62n_2, h67n_3])

theorem m_who_ex (f : Nat → Int32) (k : Int32) : ∀ S : Nat, ¬ m_who f k S = (-1) → ∃ j : Nat, j < S ∧ m_who f k S = nI j ∧ f (6 + j) = k
  | 0, h => absurd rfl h
  | S + 1, h => by
    unfold m_who at h ⊢
    by_cases e : f (6 + S) = k
    · exact ⟨S, by omega, by rw [if_pos e], e⟩
    · rw [if_neg e] at h ⊢
      obtain ⟨j, h1, h2, h3⟩ := m_who_ex f k S h
      exact ⟨j, by omega, h2, h3⟩
def m_dAt (n : Nat → Nat) (r : Nat → Nat → Int32) (w : Nat) : Int32 :=
  if m_who (r 7) (nI w) (n 1) = (-1) ∨ r 7 4 = nI 1 ∨ m_has (r 7 5) (nI w) = true then nI 0 else m_drawn r (n 0) (m_who (r 7) (nI w) (n 1)).toNatClampNeg (r 7 (12 + w) + r 7 1)
set_option maxHeartbeats 4000000 in
set_option maxRecDepth 100000 in
theorem c_X6_drawnAt (l : Launch) (θ : zH) (ad : Nat → Nat) (n : Nat → Nat) (g : Int32) (r : Nat → Nat → Int32) (w : Nat) (hw : w < 5) (hS : n 1 ≤ 6) (h0 : n 0 ≤ 30) : cI l yX6_drawnAt wsX6_drawnAt 3 θ [.ref (ad 0), .int (nI w)] (MW θ ad n g r) (fun r0 Y => r0 = m_dAt n r w ∧ Y = MW θ ad n g r) := by
  refine z_cI (by decide) rfl rfl (Nat.le_of_ble_eq_true rfl) (lv := [(0, .ref (ad 0)), (1, .int (nI w))]) rfl (fun κ C E => ?_)
  have hin : ∀ w ∈ wsX60, w ∈ wsX6_drawnAt := by decide +kernel
  refine z_aload_n C dX6_drawnAt_0 rfl (show zlk _ 0 = some (.ref (ad 0)) from rfl) ?_
  refine z_iload_n C dX6_drawnAt_1 rfl (show zlk _ 1 = some (.int (nI w)) from rfl) ?_
  refine z_callVi C (As := [.int (nI w)]) (rest := []) (c_X6_whoIsAt l θ ad n g r (nI w) (hS)) gX6_drawnAt_X6_whoIsAt rfl 1 (by decide +kernel) (by decide) (by decide) 0 rfl rfl rfl rfl rfl (Nat.le_of_ble_eq_true rfl) dX6_drawnAt_2 ?_
  rintro _ _ ⟨rfl, rfl⟩
  refine z_istore_n C [(2, .int (m_who (r 7) (nI w) (n 1))), (0, .ref (ad 0)), (1, .int (nI w))] dX6_drawnAt_5 rfl (by decide) rfl ?_
  refine z_iload_n C dX6_drawnAt_6 rfl (show zlk _ 2 = some (.int (m_who (r 7) (nI w) (n 1))) from rfl) ?_
  refine z_iconst C (v := (-1)) dX6_drawnAt_7 (by decide) ?_
  refine z_icmp_eq C 34 dX6_drawnAt_8 (by decide) (fun h8t_1 => ?_) (fun h8n_1 => ?_)
  · refine z_iconst C (v := nI 0) dX6_drawnAt_34 (by decide) ?_
    refine z_goto C 59 dX6_drawnAt_35 (by decide) ?_
    exact E _ _ _ _ (⟨by simp [m_dAt, h8t_1], rfl⟩) (rfl) dX6_drawnAt_59
  · refine z_aload_n C dX6_drawnAt_11 rfl (show zlk _ 0 = some (.ref (ad 0)) from rfl) ?_
    refine z_mg C hin 7 (by decide) (by decide +kernel) (v := .ref (ad 7)) mf_7 dX6_drawnAt_12 ?_
    refine z_iconst C (v := nI 4) dX6_drawnAt_15 (by decide) ?_
    refine z_iald C (f := (r 7)) 4 mr_7 4 rfl (by omega) (by decide) dX6_drawnAt_16 ?_
    refine z_iconst C (v := nI 1) dX6_drawnAt_17 (by decide) ?_
    refine z_icmp_eq C 34 dX6_drawnAt_18 (by decide) (fun h18t_2 => ?_) (fun h18n_2 => ?_)
    · refine z_iconst C (v := nI 0) dX6_drawnAt_34 (by decide) ?_
      refine z_goto C 59 dX6_drawnAt_35 (by decide) ?_
      exact E _ _ _ _ (⟨by simp [m_dAt, h8n_1, h18t_2], rfl⟩) (rfl) dX6_drawnAt_59
    · refine z_aload_n C dX6_drawnAt_21 rfl (show zlk _ 0 = some (.ref (ad 0)) from rfl) ?_
      refine z_mg C hin 7 (by decide) (by decide +kernel) (v := .ref (ad 7)) mf_7 dX6_drawnAt_22 ?_
      refine z_iconst C (v := nI 5) dX6_drawnAt_25 (by decide) ?_
      refine z_iald C (f := (r 7)) 4 mr_7 5 rfl (by omega) (by decide) dX6_drawnAt_26 ?_
      refine z_iload_n C dX6_drawnAt_27 rfl (show zlk _ 1 = some (.int (nI w)) from rfl) ?_
      refine z_callSi C (As := [.int ((r 7) 5), .int (nI w)]) (rest := []) (c_X6_has l θ _ ((r 7) 5) (nI w)) gX6_drawnAt_X6_has rfl 2 (by decide +kernel) (by decide) (by decide) rfl rfl (Nat.le_of_ble_eq_true rfl) dX6_drawnAt_28 ?_
      rintro _ _ ⟨rfl, rfl⟩
      refine z_if_eqB C 38 dX6_drawnAt_31 (by decide) (fun h31t_3 => ?_) (fun h31n_3 => ?_)
      · obtain ⟨j, hj, ej, -⟩ := m_who_ex (r 7) (nI w) (n 1) h8n_1
        have ejc : (m_who (r 7) (nI w) (n 1)).toNatClampNeg = j := by rw [ej]; exact nI_clamp (by omega)
        refine z_lv (lv' := [(0, .ref (ad 0)), (1, .int (nI w)), (2, .int (nI j))]) (by rw [← ej]; rfl) ?_
        refine z_aload_n C dX6_drawnAt_38 rfl (show zlk _ 0 = some (.ref (ad 0)) from rfl) ?_
        refine z_iload_n C dX6_drawnAt_39 rfl (show zlk _ 2 = some (.int (nI j)) from rfl) ?_
        refine z_aload_n C dX6_drawnAt_40 rfl (show zlk _ 0 = some (.ref (ad 0)) from rfl) ?_
        refine z_mg C hin 7 (by decide) (by decide +kernel) (v := .ref (ad 7)) mf_7 dX6_drawnAt_41 ?_
        refine z_bipush C (v := nI 12) dX6_drawnAt_44 (by decide) ?_
        refine z_iload_n C dX6_drawnAt_46 rfl (show zlk _ 1 = some (.int (nI w)) from rfl) ?_
        refine z_iaddN C dX6_drawnAt_47 ?_
        refine z_iald C (f := (r 7)) 4 mr_7 (12 + w) rfl (by omega) (by decide) dX6_drawnAt_48 ?_
        refine z_aload_n C dX6_drawnAt_49 rfl (show zlk _ 0 = some (.ref (ad 0)) from rfl) ?_
        refine z_mg C hin 7 (by decide) (by decide +kernel) (v := .ref (ad 7)) mf_7 dX6_drawnAt_50 ?_
        refine z_iconst C (v := nI 1) dX6_drawnAt_53 (by decide) ?_
        refine z_iald C (f := (r 7)) 4 mr_7 1 rfl (by omega) (by decide) dX6_drawnAt_54 ?_
        refine z_iadd C dX6_drawnAt_55 ?_
        refine z_callVi C (As := [.int (nI j), .int (((r 7) (12 + w)) + ((r 7) 1))]) (rest := []) (c_X6_drawnBy l θ ad n g r j (((r 7) (12 + w)) + ((r 7) 1)) (by omega) (h0)) gX6_drawnAt_X6_drawnBy rfl 2 (by decide +kernel) (by decide) (by decide) 0 rfl rfl rfl rfl rfl (Nat.le_of_ble_eq_true rfl) dX6_drawnAt_56 ?_
        rintro _ _ ⟨rfl, rfl⟩
        exact E _ _ _ _ (⟨by simp [m_dAt, h8n_1, h18n_2, h31t_3, ejc], rfl⟩) (rfl) dX6_drawnAt_59
      · refine z_iconst C (v := nI 0) dX6_drawnAt_34 (by decide) ?_
        refine z_goto C 59 dX6_drawnAt_35 (by decide) ?_
        exact E _ _ _ _ (⟨by simp [m_dAt, h8n_1, h18n_2, h31n_3], rfl⟩) (rfl) dX6_drawnAt_59

def m_cloud (n : Nat → Nat) (r : Nat → Nat → Int32) : Nat → Int32
  | 0 => nI 0
  | k + 1 => m_cloud n r k ||| m_dAt n r k
set_option maxHeartbeats 4000000 in
set_option maxRecDepth 100000 in
theorem c_X6_cloud (l : Launch) (θ : zH) (ad : Nat → Nat) (n : Nat → Nat) (g : Int32) (r : Nat → Nat → Int32)  (hw : n 3 ≤ 5) (hS : n 1 ≤ 6) (h0 : n 0 ≤ 30) : cI l yX6_cloud wsX6_cloud 4 θ [.ref (ad 0)] (MW θ ad n g r) (fun r0 Y => r0 = m_cloud n r (n 3) ∧ Y = MW θ ad n g r) := by
  refine z_cI (by decide) rfl rfl (Nat.le_of_ble_eq_true rfl) (lv := [(0, .ref (ad 0))]) rfl (fun κ C E => ?_)
  have hin : ∀ w ∈ wsX60, w ∈ wsX6_cloud := by decide +kernel
  refine z_iconst C (v := nI 0) dX6_cloud_0 (by decide) ?_
  refine z_istore_n C [(1, .int (nI 0)), (0, .ref (ad 0))] dX6_cloud_1 rfl (by decide) rfl ?_
  refine z_iconst C (v := nI 0) dX6_cloud_2 (by decide) ?_
  refine z_istore_n C [(2, .int (nI 0)), (1, .int (nI 0)), (0, .ref (ad 0))] dX6_cloud_3 rfl (by decide) rfl ?_
  refine z_lv (lv' := [(0, .ref (ad 0)), (1, .int (m_cloud n r 0)), (2, .int (nI 0))]) rfl ?_
  refine z_up (fun k => Z κ (MW θ ad n g r) 4 [(0, .ref (ad 0)), (1, .int (m_cloud n r k)), (2, .int (nI k))] []) (n 3) ?_ ?_ 0 (by omega)
  · refine z_iload_n C dX6_cloud_4 rfl (show zlk _ 2 = some (.int (nI (n 3))) from rfl) ?_
    refine z_aload_n C dX6_cloud_5 rfl (show zlk _ 0 = some (.ref (ad 0)) from rfl) ?_
    refine z_mg C hin 3 (by decide) (by decide +kernel) (v := .int (nI (n 3))) mf_3 dX6_cloud_6 ?_
    refine z_icmp_geT C 26 dX6_cloud_9 (by decide) (by omega) (by omega) (by omega) ?_
    refine z_iload_n C dX6_cloud_26 rfl (show zlk _ 1 = some (.int (m_cloud n r (n 3))) from rfl) ?_
    exact E _ _ _ _ (⟨rfl, rfl⟩) (rfl) dX6_cloud_27
  · intro k hk4 ih4
    refine z_iload_n C dX6_cloud_4 rfl (show zlk _ 2 = some (.int (nI k)) from rfl) ?_
    refine z_aload_n C dX6_cloud_5 rfl (show zlk _ 0 = some (.ref (ad 0)) from rfl) ?_
    refine z_mg C hin 3 (by decide) (by decide +kernel) (v := .int (nI (n 3))) mf_3 dX6_cloud_6 ?_
    refine z_icmp_geF C 26 dX6_cloud_9 (by decide) (by omega) (by omega) (by omega) ?_
    refine z_iload_n C dX6_cloud_12 rfl (show zlk _ 1 = some (.int (m_cloud n r k)) from rfl) ?_
    refine z_aload_n C dX6_cloud_13 rfl (show zlk _ 0 = some (.ref (ad 0)) from rfl) ?_
    refine z_iload_n C dX6_cloud_14 rfl (show zlk _ 2 = some (.int (nI k)) from rfl) ?_
    refine z_callVi C (As := [.int (nI k)]) (rest := [.int (m_cloud n r k)]) (c_X6_drawnAt l θ ad n g r k (by omega) (hS) (h0)) gX6_cloud_X6_drawnAt rfl 1 (by decide +kernel) (by decide) (by decide) 0 rfl rfl rfl rfl rfl (Nat.le_of_ble_eq_true rfl) dX6_cloud_15 ?_
    rintro _ _ ⟨rfl, rfl⟩
    refine z_ior C dX6_cloud_18 ?_
    refine z_istore_n C [(1, .int ((m_cloud n r k) ||| (m_dAt n r k))), (0, .ref (ad 0)), (2, .int (nI k))] dX6_cloud_19 rfl (by decide) rfl ?_
    refine z_iincN C [(2, .int (nI (k + 1))), (1, .int ((m_cloud n r k) ||| (m_dAt n r k))), (0, .ref (ad 0))] dX6_cloud_20 rfl (by decide) rfl ?_
    refine z_goto C 4 dX6_cloud_23 (by decide) ?_
    exact z_to (ih4) (rfl) (rfl)

set_option maxHeartbeats 4000000 in
set_option maxRecDepth 100000 in
theorem c_X6_likeBy (l : Launch) (θ : zH) (ad : Nat → Nat) (n : Nat → Nat) (g : Int32) (r : Nat → Nat → Int32) (j : Nat) (set : Int32) (hj : j < 6) : cI l yX6_likeBy wsX6_likeBy 1 θ [.ref (ad 0), .int (nI j), .int set] (MW θ ad n g r) (fun r0 Y => r0 = nI 30 - m_ones (r 2 j ^^^ set) 30 ∧ Y = MW θ ad n g r) := by
  refine z_cI (by decide) rfl rfl (Nat.le_of_ble_eq_true rfl) (lv := [(0, .ref (ad 0)), (1, .int (nI j)), (2, .int set)]) rfl (fun κ C E => ?_)
  have hin : ∀ w ∈ wsX60, w ∈ wsX6_likeBy := by decide +kernel
  refine z_bipush C (v := nI 30) dX6_likeBy_0 (by decide) ?_
  refine z_aload_n C dX6_likeBy_2 rfl (show zlk _ 0 = some (.ref (ad 0)) from rfl) ?_
  refine z_mg C hin 2 (by decide) (by decide +kernel) (v := .ref (ad 2)) mf_2 dX6_likeBy_3 ?_
  refine z_iload_n C dX6_likeBy_6 rfl (show zlk _ 1 = some (.int (nI j)) from rfl) ?_
  refine z_iald C (f := (r 2)) 1 mr_2 j rfl (by omega) (by decide) dX6_likeBy_7 ?_
  refine z_iload_n C dX6_likeBy_8 rfl (show zlk _ 2 = some (.int set) from rfl) ?_
  refine z_ixor C dX6_likeBy_9 ?_
  refine z_callSi C (As := [.int (((r 2) j) ^^^ set)]) (rest := [.int (nI 30)]) (c_X6_ones l θ _ (((r 2) j) ^^^ set)) gX6_likeBy_X6_ones rfl 1 (by decide +kernel) (by decide) (by decide) rfl rfl (Nat.le_of_ble_eq_true rfl) dX6_likeBy_10 ?_
  rintro _ _ ⟨rfl, rfl⟩
  refine z_isub C dX6_likeBy_13 ?_
  exact E _ _ _ _ (⟨rfl, rfl⟩) (rfl) dX6_likeBy_14

def m_its (o : Nat → Int32) (set mask : Int32) (s : Nat) : Int32 := nI 30 - m_ones ((o s ^^^ set) &&& mask) 30
def m_ml (o : Nat → Int32) (set mask : Int32) : Nat → Int32 × Int32
  | 0 => (-1, -1)
  | s + 1 => if m_its o set mask s ≤ (m_ml o set mask s).2 then m_ml o set mask s else (nI s, m_its o set mask s)
set_option maxHeartbeats 4000000 in
set_option maxRecDepth 100000 in
theorem c_X6_mostLike (l : Launch) (θ : zH) (ad : Nat → Nat) (n : Nat → Nat) (g : Int32) (r : Nat → Nat → Int32) (set mask : Int32) (hS : n 1 ≤ 6) : cI l yX6_mostLike wsX6_mostLike 1 θ [.ref (ad 0), .int set, .int mask] (MW θ ad n g r) (fun r0 Y => r0 = (m_ml (r 2) set mask (n 1)).1 ∧ Y = MW θ ad n g r) := by
  refine z_cI (by decide) rfl rfl (Nat.le_of_ble_eq_true rfl) (lv := [(0, .ref (ad 0)), (1, .int set), (2, .int mask)]) rfl (fun κ C E => ?_)
  have hin : ∀ w ∈ wsX60, w ∈ wsX6_mostLike := by decide +kernel
  refine z_iconst C (v := (-1)) dX6_mostLike_0 (by decide) ?_
  refine z_istore_n C [(3, .int (-1)), (0, .ref (ad 0)), (1, .int set), (2, .int mask)] dX6_mostLike_1 rfl (by decide) rfl ?_
  refine z_iconst C (v := (-1)) dX6_mostLike_2 (by decide) ?_
  refine z_istore C [(4, .int (-1)), (3, .int (-1)), (0, .ref (ad 0)), (1, .int set), (2, .int mask)] dX6_mostLike_3 (by decide) rfl ?_
  refine z_iconst C (v := nI 0) dX6_mostLike_5 (by decide) ?_
  refine z_istore C [(5, .int (nI 0)), (4, .int (-1)), (3, .int (-1)), (0, .ref (ad 0)), (1, .int set), (2, .int mask)] dX6_mostLike_6 (by decide) rfl ?_
  refine z_lv (lv' := [(0, .ref (ad 0)), (1, .int set), (2, .int mask), (3, .int ((m_ml (r 2) set mask 0).1)), (4, .int ((m_ml (r 2) set mask 0).2)), (5, .int (nI 0))]) rfl ?_
  refine z_up (fun k => Z κ (MW θ ad n g r) 8 [(0, .ref (ad 0)), (1, .int set), (2, .int mask), (3, .int ((m_ml (r 2) set mask k).1)), (4, .int ((m_ml (r 2) set mask k).2)), (5, .int (nI k))] []) (n 1) ?_ ?_ 0 (by omega)
  · refine z_iload C dX6_mostLike_8 (show zlk _ 5 = some (.int (nI (n 1))) from rfl) ?_
    refine z_aload_n C dX6_mostLike_10 rfl (show zlk _ 0 = some (.ref (ad 0)) from rfl) ?_
    refine z_mg C hin 1 (by decide) (by decide +kernel) (v := .int (nI (n 1))) mf_1 dX6_mostLike_11 ?_
    refine z_icmp_geT C 72 dX6_mostLike_14 (by decide) (by omega) (by omega) (by omega) ?_
    refine z_iload_n C dX6_mostLike_72 rfl (show zlk _ 3 = some (.int ((m_ml (r 2) set mask (n 1)).1)) from rfl) ?_
    exact E _ _ _ _ (⟨rfl, rfl⟩) (rfl) dX6_mostLike_73
  · intro k hk8 ih8
    refine z_iload C dX6_mostLike_8 (show zlk _ 5 = some (.int (nI k)) from rfl) ?_
    refine z_aload_n C dX6_mostLike_10 rfl (show zlk _ 0 = some (.ref (ad 0)) from rfl) ?_
    refine z_mg C hin 1 (by decide) (by decide +kernel) (v := .int (nI (n 1))) mf_1 dX6_mostLike_11 ?_
    refine z_icmp_geF C 72 dX6_mostLike_14 (by decide) (by omega) (by omega) (by omega) ?_
    refine z_bipush C (v := nI 30) dX6_mostLike_17 (by decide) ?_
    refine z_aload_n C dX6_mostLike_19 rfl (show zlk _ 0 = some (.ref (ad 0)) from rfl) ?_
    refine z_mg C hin 2 (by decide) (by decide +kernel) (v := .ref (ad 2)) mf_2 dX6_mostLike_20 ?_
    refine z_iload C dX6_mostLike_23 (show zlk _ 5 = some (.int (nI k)) from rfl) ?_
    refine z_iald C (f := (r 2)) 1 mr_2 k rfl (by omega) (by decide) dX6_mostLike_25 ?_
    refine z_iload_n C dX6_mostLike_26 rfl (show zlk _ 1 = some (.int set) from rfl) ?_
    refine z_ixor C dX6_mostLike_27 ?_
    refine z_iload_n C dX6_mostLike_28 rfl (show zlk _ 2 = some (.int mask) from rfl) ?_
    refine z_iand C dX6_mostLike_29 ?_
    refine z_callSi C (As := [.int ((((r 2) k) ^^^ set) &&& mask)]) (rest := [.int (nI 30)]) (c_X6_ones l θ _ ((((r 2) k) ^^^ set) &&& mask)) gX6_mostLike_X6_ones rfl 1 (by decide +kernel) (by decide) (by decide) rfl rfl (Nat.le_of_ble_eq_true rfl) dX6_mostLike_30 ?_
    rintro _ _ ⟨rfl, rfl⟩
    refine z_isub C dX6_mostLike_33 ?_
    refine z_top (v' := .int (m_its (r 2) set mask k)) (rfl) ?_
    refine z_istore C [(6, .int (m_its (r 2) set mask k)), (0, .ref (ad 0)), (1, .int set), (2, .int mask), (3, .int ((m_ml (r 2) set mask k).1)), (4, .int ((m_ml (r 2) set mask k).2)), (5, .int (nI k))] dX6_mostLike_34 (by decide) rfl ?_
    refine z_iload C dX6_mostLike_36 (show zlk _ 6 = some (.int (m_its (r 2) set mask k)) from rfl) ?_
    refine z_iload C dX6_mostLike_38 (show zlk _ 4 = some (.int ((m_ml (r 2) set mask k).2)) from rfl) ?_
    refine z_icmp_le C 48 dX6_mostLike_40 (by decide) (fun h40t_1 => ?_) (fun h40n_1 => ?_)
    · refine z_iload_n C dX6_mostLike_48 rfl (show zlk _ 3 = some (.int ((m_ml (r 2) set mask k).1)) from rfl) ?_
      refine z_istore_n C [(3, .int ((m_ml (r 2) set mask k).1)), (6, .int (m_its (r 2) set mask k)), (0, .ref (ad 0)), (1, .int set), (2, .int mask), (4, .int ((m_ml (r 2) set mask k).2)), (5, .int (nI k))] dX6_mostLike_49 rfl (by decide) rfl ?_
      refine z_iload C dX6_mostLike_50 (show zlk _ 6 = some (.int (m_its (r 2) set mask k)) from rfl) ?_
      refine z_iload C dX6_mostLike_52 (show zlk _ 4 = some (.int ((m_ml (r 2) set mask k).2)) from rfl) ?_
      refine z_icmp_le C 62 dX6_mostLike_54 (by decide) (fun h54t_2 => ?_) (fun h54t_2 => absurd h54t_2 (fun z => z h40t_1))
      refine z_iload C dX6_mostLike_62 (show zlk _ 4 = some (.int ((m_ml (r 2) set mask k).2)) from rfl) ?_
      refine z_istore C [(4, .int ((m_ml (r 2) set mask k).2)), (3, .int ((m_ml (r 2) set mask k).1)), (6, .int (m_its (r 2) set mask k)), (0, .ref (ad 0)), (1, .int set), (2, .int mask), (5, .int (nI k))] dX6_mostLike_64 (by decide) rfl ?_
      refine z_iincN C [(5, .int (nI (k + 1))), (4, .int ((m_ml (r 2) set mask k).2)), (3, .int ((m_ml (r 2) set mask k).1)), (6, .int (m_its (r 2) set mask k)), (0, .ref (ad 0)), (1, .int set), (2, .int mask)] dX6_mostLike_66 rfl (by decide) rfl ?_
      refine z_goto C 8 dX6_mostLike_69 (by decide) ?_
      exact z_to (ih8) (rfl) (by simp [zlk, m_ml, h40t_1, h54t_2])
    · refine z_iload C dX6_mostLike_43 (show zlk _ 5 = some (.int (nI k)) from rfl) ?_
      refine z_goto C 49 dX6_mostLike_45 (by decide) ?_
      refine z_istore_n C [(3, .int (nI k)), (6, .int (m_its (r 2) set mask k)), (0, .ref (ad 0)), (1, .int set), (2, .int mask), (4, .int ((m_ml (r 2) set mask k).2)), (5, .int (nI k))] dX6_mostLike_49 rfl (by decide) rfl ?_
      refine z_iload C dX6_mostLike_50 (show zlk _ 6 = some (.int (m_its (r 2) set mask k)) from rfl) ?_
      refine z_iload C dX6_mostLike_52 (show zlk _ 4 = some (.int ((m_ml (r 2) set mask k).2)) from rfl) ?_
      refine z_icmp_le C 62 dX6_mostLike_54 (by decide) (fun h54n_3 => absurd h54n_3 (h40n_1)) (fun h54n_3 => ?_)
      refine z_iload C dX6_mostLike_57 (show zlk _ 6 = some (.int (m_its (r 2) set mask k)) from rfl) ?_
      refine z_goto C 64 dX6_mostLike_59 (by decide) ?_
      refine z_istore C [(4, .int (m_its (r 2) set mask k)), (3, .int (nI k)), (6, .int (m_its (r 2) set mask k)), (0, .ref (ad 0)), (1, .int set), (2, .int mask), (5, .int (nI k))] dX6_mostLike_64 (by decide) rfl ?_
      refine z_iincN C [(5, .int (nI (k + 1))), (4, .int (m_its (r 2) set mask k)), (3, .int (nI k)), (6, .int (m_its (r 2) set mask k)), (0, .ref (ad 0)), (1, .int set), (2, .int mask)] dX6_mostLike_66 rfl (by decide) rfl ?_
      refine z_goto C 8 dX6_mostLike_69 (by decide) ?_
      exact z_to (ih8) (rfl) (by simp [zlk, m_ml, h40n_1, h54n_3])

def m_oft (f : Nat → Int32) (s : Int32) : Nat → Int32
  | 0 => nI 0
  | i + 1 => m_oft f s i + (if f (22 + 3 * i + 1) = s then nI 1 else nI 0)
set_option maxHeartbeats 4000000 in
set_option maxRecDepth 100000 in
theorem c_X6_often (l : Launch) (θ : zH) (ad : Nat → Nat) (n : Nat → Nat) (g : Int32) (r : Nat → Nat → Int32) (s : Int32) (cnt : Nat) (hc : r 7 21 = nI cnt) (hb : cnt ≤ 20) : cI l yX6_often wsX6_often 0 θ [.ref (ad 0), .int s] (MW θ ad n g r) (fun r0 Y => r0 = m_oft (r 7) s cnt ∧ Y = MW θ ad n g r) := by
  refine z_cI (by decide) rfl rfl (Nat.le_of_ble_eq_true rfl) (lv := [(0, .ref (ad 0)), (1, .int s)]) rfl (fun κ C E => ?_)
  have hin : ∀ w ∈ wsX60, w ∈ wsX6_often := by decide +kernel
  refine z_iconst C (v := nI 0) dX6_often_0 (by decide) ?_
  refine z_istore_n C [(2, .int (nI 0)), (0, .ref (ad 0)), (1, .int s)] dX6_often_1 rfl (by decide) rfl ?_
  refine z_iconst C (v := nI 0) dX6_often_2 (by decide) ?_
  refine z_istore_n C [(3, .int (nI 0)), (2, .int (nI 0)), (0, .ref (ad 0)), (1, .int s)] dX6_often_3 rfl (by decide) rfl ?_
  refine z_lv (lv' := [(0, .ref (ad 0)), (1, .int s), (2, .int (m_oft (r 7) s 0)), (3, .int (nI 0))]) rfl ?_
  refine z_up (fun i => Z κ (MW θ ad n g r) 4 [(0, .ref (ad 0)), (1, .int s), (2, .int (m_oft (r 7) s i)), (3, .int (nI i))] []) (cnt) ?_ ?_ 0 (by omega)
  · refine z_iload_n C dX6_often_4 rfl (show zlk _ 3 = some (.int (nI cnt)) from rfl) ?_
    refine z_aload_n C dX6_often_5 rfl (show zlk _ 0 = some (.ref (ad 0)) from rfl) ?_
    refine z_mg C hin 7 (by decide) (by decide +kernel) (v := .ref (ad 7)) mf_7 dX6_often_6 ?_
    refine z_bipush C (v := nI 21) dX6_often_9 (by decide) ?_
    refine z_iald C (f := (r 7)) 4 mr_7 21 rfl (by omega) (by decide) dX6_often_11 ?_
    refine z_top (v' := .int (nI cnt)) (by rw [hc]) ?_
    refine z_icmp_geT C 46 dX6_often_12 (by decide) (by omega) (by omega) (by omega) ?_
    refine z_iload_n C dX6_often_46 rfl (show zlk _ 2 = some (.int (m_oft (r 7) s cnt)) from rfl) ?_
    exact E _ _ _ _ (⟨rfl, rfl⟩) (rfl) dX6_often_47
  · intro i hk4 ih4
    refine z_iload_n C dX6_often_4 rfl (show zlk _ 3 = some (.int (nI i)) from rfl) ?_
    refine z_aload_n C dX6_often_5 rfl (show zlk _ 0 = some (.ref (ad 0)) from rfl) ?_
    refine z_mg C hin 7 (by decide) (by decide +kernel) (v := .ref (ad 7)) mf_7 dX6_often_6 ?_
    refine z_bipush C (v := nI 21) dX6_often_9 (by decide) ?_
    refine z_iald C (f := (r 7)) 4 mr_7 21 rfl (by omega) (by decide) dX6_often_11 ?_
    refine z_top (v' := .int (nI cnt)) (by rw [hc]) ?_
    refine z_icmp_geF C 46 dX6_often_12 (by decide) (by omega) (by omega) (by omega) ?_
    refine z_iload_n C dX6_often_15 rfl (show zlk _ 2 = some (.int (m_oft (r 7) s i)) from rfl) ?_
    refine z_aload_n C dX6_often_16 rfl (show zlk _ 0 = some (.ref (ad 0)) from rfl) ?_
    refine z_mg C hin 7 (by decide) (by decide +kernel) (v := .ref (ad 7)) mf_7 dX6_often_17 ?_
    refine z_bipush C (v := nI 22) dX6_often_20 (by decide) ?_
    refine z_iconst C (v := nI 3) dX6_often_22 (by decide) ?_
    refine z_iload_n C dX6_often_23 rfl (show zlk _ 3 = some (.int (nI i)) from rfl) ?_
    refine z_imulN C dX6_often_24 ?_
    refine z_iaddN C dX6_often_25 ?_
    refine z_iconst C (v := nI 1) dX6_often_26 (by decide) ?_
    refine z_iaddN C dX6_often_27 ?_
    refine z_iald C (f := (r 7)) 4 mr_7 (22 + (3 * i) + 1) rfl (by omega) (by decide) dX6_often_28 ?_
    refine z_iload_n C dX6_often_29 rfl (show zlk _ 1 = some (.int s) from rfl) ?_
    refine z_icmp_ne C 37 dX6_often_30 (by decide) (fun h30t_1 => ?_) (fun h30n_1 => ?_)
    · refine z_iconst C (v := nI 0) dX6_often_37 (by decide) ?_
      refine z_iadd C dX6_often_38 ?_
      refine z_istore_n C [(2, .int ((m_oft (r 7) s i) + (nI 0))), (0, .ref (ad 0)), (1, .int s), (3, .int (nI i))] dX6_often_39 rfl (by decide) rfl ?_
      refine z_iincN C [(3, .int (nI (i + 1))), (2, .int ((m_oft (r 7) s i) + (nI 0))), (0, .ref (ad 0)), (1, .int s)] dX6_often_40 rfl (by decide) rfl ?_
      refine z_goto C 4 dX6_often_43 (by decide) ?_
      exact z_to (ih4) (rfl) (by simp [zlk, m_oft, h30t_1])
    · refine z_iconst C (v := nI 1) dX6_often_33 (by decide) ?_
      refine z_goto C 38 dX6_often_34 (by decide) ?_
      refine z_iadd C dX6_often_38 ?_
      refine z_istore_n C [(2, .int ((m_oft (r 7) s i) + (nI 1))), (0, .ref (ad 0)), (1, .int s), (3, .int (nI i))] dX6_often_39 rfl (by decide) rfl ?_
      refine z_iincN C [(3, .int (nI (i + 1))), (2, .int ((m_oft (r 7) s i) + (nI 1))), (0, .ref (ad 0)), (1, .int s)] dX6_often_40 rfl (by decide) rfl ?_
      refine z_goto C 4 dX6_often_43 (by decide) ?_
      exact z_to (ih4) (rfl) (by simp [zlk, m_oft, h30n_1])

def m_vf (n : Nat → Nat) (r : Nat → Nat → Int32) (set s : Int32) : Nat → Int32
  | 0 => nI 0
  | c + 1 => m_vf n r set s c + (if (m_ml (r 2) set (m_mask (r 6 c) 30) (n 1)).1 = s then nI 1 else nI 0)
set_option maxHeartbeats 4000000 in
set_option maxRecDepth 100000 in
theorem c_X6_votesFor (l : Launch) (θ : zH) (ad : Nat → Nat) (n : Nat → Nat) (g : Int32) (r : Nat → Nat → Int32) (set s : Int32) (hS : n 1 ≤ 6) (hc : n 5 ≤ 6) : cI l yX6_votesFor wsX6_votesFor 2 θ [.ref (ad 0), .int set, .int s] (MW θ ad n g r) (fun r0 Y => r0 = m_vf n r set s (n 5) ∧ Y = MW θ ad n g r) := by
  refine z_cI (by decide) rfl rfl (Nat.le_of_ble_eq_true rfl) (lv := [(0, .ref (ad 0)), (1, .int set), (2, .int s)]) rfl (fun κ C E => ?_)
  have hin : ∀ w ∈ wsX60, w ∈ wsX6_votesFor := by decide +kernel
  refine z_iconst C (v := nI 0) dX6_votesFor_0 (by decide) ?_
  refine z_istore_n C [(3, .int (nI 0)), (0, .ref (ad 0)), (1, .int set), (2, .int s)] dX6_votesFor_1 rfl (by decide) rfl ?_
  refine z_iconst C (v := nI 0) dX6_votesFor_2 (by decide) ?_
  refine z_istore C [(4, .int (nI 0)), (3, .int (nI 0)), (0, .ref (ad 0)), (1, .int set), (2, .int s)] dX6_votesFor_3 (by decide) rfl ?_
  refine z_lv (lv' := [(0, .ref (ad 0)), (1, .int set), (2, .int s), (3, .int (m_vf n r set s 0)), (4, .int (nI 0))]) rfl ?_
  refine z_up (fun c => Z κ (MW θ ad n g r) 5 [(0, .ref (ad 0)), (1, .int set), (2, .int s), (3, .int (m_vf n r set s c)), (4, .int (nI c))] []) (n 5) ?_ ?_ 0 (by omega)
  · refine z_iload C dX6_votesFor_5 (show zlk _ 4 = some (.int (nI (n 5))) from rfl) ?_
    refine z_aload_n C dX6_votesFor_7 rfl (show zlk _ 0 = some (.ref (ad 0)) from rfl) ?_
    refine z_mg C hin 5 (by decide) (by decide +kernel) (v := .int (nI (n 5))) mf_5 dX6_votesFor_8 ?_
    refine z_icmp_geT C 47 dX6_votesFor_11 (by decide) (by omega) (by omega) (by omega) ?_
    refine z_iload_n C dX6_votesFor_47 rfl (show zlk _ 3 = some (.int (m_vf n r set s (n 5))) from rfl) ?_
    exact E _ _ _ _ (⟨rfl, rfl⟩) (rfl) dX6_votesFor_48
  · intro c hk5 ih5
    refine z_iload C dX6_votesFor_5 (show zlk _ 4 = some (.int (nI c)) from rfl) ?_
    refine z_aload_n C dX6_votesFor_7 rfl (show zlk _ 0 = some (.ref (ad 0)) from rfl) ?_
    refine z_mg C hin 5 (by decide) (by decide +kernel) (v := .int (nI (n 5))) mf_5 dX6_votesFor_8 ?_
    refine z_icmp_geF C 47 dX6_votesFor_11 (by decide) (by omega) (by omega) (by omega) ?_
    refine z_iload_n C dX6_votesFor_14 rfl (show zlk _ 3 = some (.int (m_vf n r set s c)) from rfl) ?_
    refine z_aload_n C dX6_votesFor_15 rfl (show zlk _ 0 = some (.ref (ad 0)) from rfl) ?_
    refine z_iload_n C dX6_votesFor_16 rfl (show zlk _ 1 = some (.int set) from rfl) ?_
    refine z_aload_n C dX6_votesFor_17 rfl (show zlk _ 0 = some (.ref (ad 0)) from rfl) ?_
    refine z_mg C hin 6 (by decide) (by decide +kernel) (v := .ref (ad 6)) mf_6 dX6_votesFor_18 ?_
    refine z_iload C dX6_votesFor_21 (show zlk _ 4 = some (.int (nI c)) from rfl) ?_
    refine z_iald C (f := (r 6)) 3 mr_6 c rfl (by omega) (by decide) dX6_votesFor_23 ?_
    refine z_callSi C (As := [.int ((r 6) c)]) (rest := [.int set, .ref (ad 0), .int (m_vf n r set s c)]) (c_X6_maskOf l θ _ ((r 6) c)) gX6_votesFor_X6_maskOf rfl 1 (by decide +kernel) (by decide) (by decide) rfl rfl (Nat.le_of_ble_eq_true rfl) dX6_votesFor_24 ?_
    rintro _ _ ⟨rfl, rfl⟩
    refine z_callVi C (As := [.int set, .int (m_mask ((r 6) c) 30)]) (rest := [.int (m_vf n r set s c)]) (c_X6_mostLike l θ ad n g r set (m_mask ((r 6) c) 30) (hS)) gX6_votesFor_X6_mostLike rfl 2 (by decide +kernel) (by decide) (by decide) 0 rfl rfl rfl rfl rfl (Nat.le_of_ble_eq_true rfl) dX6_votesFor_27 ?_
    rintro _ _ ⟨rfl, rfl⟩
    refine z_iload_n C dX6_votesFor_30 rfl (show zlk _ 2 = some (.int s) from rfl) ?_
    refine z_icmp_ne C 38 dX6_votesFor_31 (by decide) (fun h31t_1 => ?_) (fun h31n_1 => ?_)
    · refine z_iconst C (v := nI 0) dX6_votesFor_38 (by decide) ?_
      refine z_iadd C dX6_votesFor_39 ?_
      refine z_istore_n C [(3, .int ((m_vf n r set s c) + (nI 0))), (0, .ref (ad 0)), (1, .int set), (2, .int s), (4, .int (nI c))] dX6_votesFor_40 rfl (by decide) rfl ?_
      refine z_iincN C [(4, .int (nI (c + 1))), (3, .int ((m_vf n r set s c) + (nI 0))), (0, .ref (ad 0)), (1, .int set), (2, .int s)] dX6_votesFor_41 rfl (by decide) rfl ?_
      refine z_goto C 5 dX6_votesFor_44 (by decide) ?_
      exact z_to (ih5) (rfl) (by simp [zlk, m_vf, h31t_1])
    · refine z_iconst C (v := nI 1) dX6_votesFor_34 (by decide) ?_
      refine z_goto C 39 dX6_votesFor_35 (by decide) ?_
      refine z_iadd C dX6_votesFor_39 ?_
      refine z_istore_n C [(3, .int ((m_vf n r set s c) + (nI 1))), (0, .ref (ad 0)), (1, .int set), (2, .int s), (4, .int (nI c))] dX6_votesFor_40 rfl (by decide) rfl ?_
      refine z_iincN C [(4, .int (nI (c + 1))), (3, .int ((m_vf n r set s c) + (nI 1))), (0, .ref (ad 0)), (1, .int set), (2, .int s)] dX6_votesFor_41 rfl (by decide) rfl ?_
      refine z_goto C 5 dX6_votesFor_44 (by decide) ?_
      exact z_to (ih5) (rfl) (by simp [zlk, m_vf, h31n_1])

def m_so (set : Int32) (dt it : Nat → Int32) : Nat → Bool
  | 0 => true
  | k + 1 => m_so set dt it k && decide ((set >>> (dt k &&& 31)) &&& nI 1 = it k)
set_option maxHeartbeats 4000000 in
set_option maxRecDepth 100000 in
theorem c_X6_isSo (l : Launch) (θ : zH) (ad : Nat → Nat) (n : Nat → Nat) (g : Int32) (r : Nat → Nat → Int32) (set : Int32) (ht : n 27 ≤ 6) : cI l yX6_isSo wsX6_isSo 0 θ [.ref (ad 0), .int set] (MW θ ad n g r) (fun r0 Y => r0 = bI (m_so set (r 28) (r 29) (n 27)) ∧ Y = MW θ ad n g r) := by
  refine z_cI (by decide) rfl rfl (Nat.le_of_ble_eq_true rfl) (lv := [(0, .ref (ad 0)), (1, .int set)]) rfl (fun κ C E => ?_)
  have hin : ∀ w ∈ wsX60, w ∈ wsX6_isSo := by decide +kernel
  refine z_iconst C (v := nI 1) dX6_isSo_0 (by decide) ?_
  refine z_istore_n C [(2, .int (nI 1)), (0, .ref (ad 0)), (1, .int set)] dX6_isSo_1 rfl (by decide) rfl ?_
  refine z_iconst C (v := nI 0) dX6_isSo_2 (by decide) ?_
  refine z_istore_n C [(3, .int (nI 0)), (2, .int (nI 1)), (0, .ref (ad 0)), (1, .int set)] dX6_isSo_3 rfl (by decide) rfl ?_
  refine z_lv (lv' := [(0, .ref (ad 0)), (1, .int set), (2, .int (bI (m_so set (r 28) (r 29) 0))), (3, .int (nI 0))]) rfl ?_
  refine z_up (fun k => Z κ (MW θ ad n g r) 4 [(0, .ref (ad 0)), (1, .int set), (2, .int (bI (m_so set (r 28) (r 29) k))), (3, .int (nI k))] []) (n 27) ?_ ?_ 0 (by omega)
  · refine z_iload_n C dX6_isSo_4 rfl (show zlk _ 3 = some (.int (nI (n 27))) from rfl) ?_
    refine z_aload_n C dX6_isSo_5 rfl (show zlk _ 0 = some (.ref (ad 0)) from rfl) ?_
    refine z_mg C hin 27 (by decide) (by decide +kernel) (v := .int (nI (n 27))) mf_27 dX6_isSo_6 ?_
    refine z_icmp_geT C 47 dX6_isSo_9 (by decide) (by omega) (by omega) (by omega) ?_
    refine z_iload_n C dX6_isSo_47 rfl (show zlk _ 2 = some (.int (bI (m_so set (r 28) (r 29) (n 27)))) from rfl) ?_
    exact E _ _ _ _ (⟨rfl, rfl⟩) (bI_n _) dX6_isSo_48
  · intro k hk4 ih4
    refine z_iload_n C dX6_isSo_4 rfl (show zlk _ 3 = some (.int (nI k)) from rfl) ?_
    refine z_aload_n C dX6_isSo_5 rfl (show zlk _ 0 = some (.ref (ad 0)) from rfl) ?_
    refine z_mg C hin 27 (by decide) (by decide +kernel) (v := .int (nI (n 27))) mf_27 dX6_isSo_6 ?_
    refine z_icmp_geF C 47 dX6_isSo_9 (by decide) (by omega) (by omega) (by omega) ?_
    refine z_iload_n C dX6_isSo_12 rfl (show zlk _ 2 = some (.int (bI (m_so set (r 28) (r 29) k))) from rfl) ?_
    refine z_if_eqB C 39 dX6_isSo_13 (by decide) (fun h13t_1 => ?_) (fun h13n_1 => ?_)
    · refine z_iconst C (v := nI 0) dX6_isSo_39 (by decide) ?_
      refine z_istore_n C [(2, .int (nI 0)), (0, .ref (ad 0)), (1, .int set), (3, .int (nI k))] dX6_isSo_40 rfl (by decide) rfl ?_
      refine z_iincN C [(3, .int (nI (k + 1))), (2, .int (nI 0)), (0, .ref (ad 0)), (1, .int set)] dX6_isSo_41 rfl (by decide) rfl ?_
      refine z_goto C 4 dX6_isSo_44 (by decide) ?_
      exact z_to (ih4) (rfl) (by simp [zlk, m_so, bI, h13t_1]; try rfl)
    · refine z_iload_n C dX6_isSo_16 rfl (show zlk _ 1 = some (.int set) from rfl) ?_
      refine z_aload_n C dX6_isSo_17 rfl (show zlk _ 0 = some (.ref (ad 0)) from rfl) ?_
      refine z_mg C hin 28 (by decide) (by decide +kernel) (v := .ref (ad 28)) mf_28 dX6_isSo_18 ?_
      refine z_iload_n C dX6_isSo_21 rfl (show zlk _ 3 = some (.int (nI k)) from rfl) ?_
      refine z_iald C (f := (r 28)) 13 mr_28 k rfl (by omega) (by decide) dX6_isSo_22 ?_
      refine z_ishr C dX6_isSo_23 ?_
      refine z_iconst C (v := nI 1) dX6_isSo_24 (by decide) ?_
      refine z_iand C dX6_isSo_25 ?_
      refine z_aload_n C dX6_isSo_26 rfl (show zlk _ 0 = some (.ref (ad 0)) from rfl) ?_
      refine z_mg C hin 29 (by decide) (by decide +kernel) (v := .ref (ad 29)) mf_29 dX6_isSo_27 ?_
      refine z_iload_n C dX6_isSo_30 rfl (show zlk _ 3 = some (.int (nI k)) from rfl) ?_
      refine z_iald C (f := (r 29)) 14 mr_29 k rfl (by omega) (by decide) dX6_isSo_31 ?_
      refine z_icmp_ne C 39 dX6_isSo_32 (by decide) (fun h32t_2 => ?_) (fun h32n_2 => ?_)
      · refine z_iconst C (v := nI 0) dX6_isSo_39 (by decide) ?_
        refine z_istore_n C [(2, .int (nI 0)), (0, .ref (ad 0)), (1, .int set), (3, .int (nI k))] dX6_isSo_40 rfl (by decide) rfl ?_
        refine z_iincN C [(3, .int (nI (k + 1))), (2, .int (nI 0)), (0, .ref (ad 0)), (1, .int set)] dX6_isSo_41 rfl (by decide) rfl ?_
        refine z_goto C 4 dX6_isSo_44 (by decide) ?_
        exact z_to (ih4) (rfl) (by simp [zlk, m_so, bI, h13n_1, h32t_2]; try rfl)
      · refine z_iconst C (v := nI 1) dX6_isSo_35 (by decide) ?_
        refine z_goto C 40 dX6_isSo_36 (by decide) ?_
        refine z_istore_n C [(2, .int (nI 1)), (0, .ref (ad 0)), (1, .int set), (3, .int (nI k))] dX6_isSo_40 rfl (by decide) rfl ?_
        refine z_iincN C [(3, .int (nI (k + 1))), (2, .int (nI 1)), (0, .ref (ad 0)), (1, .int set)] dX6_isSo_41 rfl (by decide) rfl ?_
        refine z_goto C 4 dX6_isSo_44 (by decide) ?_
        exact z_to (ih4) (rfl) (by simp [zlk, m_so, bI, h13n_1, h32n_2]; try rfl)

def m_mb2 (n : Nat → Nat) (r : Nat → Nat → Int32) (s : Nat) (a : Int32) : Nat → Int32
  | 0 => a
  | x + 1 => m_mb2 n r s a x ||| (bif m_so (m_sh (r 2 s) (nI x) 30) (r 28) (r 29) (n 27) then nI 1 <<< (nI s &&& 31) else nI 0)
def m_mb (n : Nat → Nat) (r : Nat → Nat → Int32) : Nat → Int32
  | 0 => nI 0
  | s + 1 => m_mb2 n r s (m_mb n r s) 6
set_option maxHeartbeats 4000000 in
set_option maxRecDepth 100000 in
theorem c_X6_mayBe (l : Launch) (θ : zH) (ad : Nat → Nat) (n : Nat → Nat) (g : Int32) (r : Nat → Nat → Int32)  (hS : n 1 ≤ 6) (ht : n 27 ≤ 6) : cI l yX6_mayBe wsX6_mayBe 2 θ [.ref (ad 0)] (MW θ ad n g r) (fun r0 Y => r0 = m_mb n r (n 1) ∧ Y = MW θ ad n g r) := by
  refine z_cI (by decide) rfl rfl (Nat.le_of_ble_eq_true rfl) (lv := [(0, .ref (ad 0))]) rfl (fun κ C E => ?_)
  have hin : ∀ w ∈ wsX60, w ∈ wsX6_mayBe := by decide +kernel
  refine z_iconst C (v := nI 0) dX6_mayBe_0 (by decide) ?_
  refine z_istore_n C [(1, .int (nI 0)), (0, .ref (ad 0))] dX6_mayBe_1 rfl (by decide) rfl ?_
  refine z_iconst C (v := nI 0) dX6_mayBe_2 (by decide) ?_
  refine z_istore_n C [(2, .int (nI 0)), (1, .int (nI 0)), (0, .ref (ad 0))] dX6_mayBe_3 rfl (by decide) rfl ?_
  refine z_lv (lv' := [(0, .ref (ad 0)), (1, .int (m_mb n r 0)), (2, .int (nI 0))]) rfl ?_
  refine z_up (fun s => Z κ (MW θ ad n g r) 4 [(0, .ref (ad 0)), (1, .int (m_mb n r s)), (2, .int (nI s))] []) (n 1) ?_ ?_ 0 (by omega)
  · refine z_iload_n C dX6_mayBe_4 rfl (show zlk _ 2 = some (.int (nI (n 1))) from rfl) ?_
    refine z_aload_n C dX6_mayBe_5 rfl (show zlk _ 0 = some (.ref (ad 0)) from rfl) ?_
    refine z_mg C hin 1 (by decide) (by decide +kernel) (v := .int (nI (n 1))) mf_1 dX6_mayBe_6 ?_
    refine z_icmp_geT C 59 dX6_mayBe_9 (by decide) (by omega) (by omega) (by omega) ?_
    refine z_iload_n C dX6_mayBe_59 rfl (show zlk _ 1 = some (.int (m_mb n r (n 1))) from rfl) ?_
    exact E _ _ _ _ (⟨rfl, rfl⟩) (rfl) dX6_mayBe_60
  · intro s hk4 ih4
    refine z_iload_n C dX6_mayBe_4 rfl (show zlk _ 2 = some (.int (nI s)) from rfl) ?_
    refine z_aload_n C dX6_mayBe_5 rfl (show zlk _ 0 = some (.ref (ad 0)) from rfl) ?_
    refine z_mg C hin 1 (by decide) (by decide +kernel) (v := .int (nI (n 1))) mf_1 dX6_mayBe_6 ?_
    refine z_icmp_geF C 59 dX6_mayBe_9 (by decide) (by omega) (by omega) (by omega) ?_
    refine z_iconst C (v := nI 0) dX6_mayBe_12 (by decide) ?_
    refine z_istore_n C [(3, .int (nI 0)), (0, .ref (ad 0)), (1, .int (m_mb n r s)), (2, .int (nI s))] dX6_mayBe_13 rfl (by decide) rfl ?_
    refine z_lv (lv' := [(0, .ref (ad 0)), (1, .int (m_mb2 n r s (m_mb n r s) 0)), (2, .int (nI s)), (3, .int (nI 0))]) rfl ?_
    refine z_up (fun x => Z κ (MW θ ad n g r) 14 [(0, .ref (ad 0)), (1, .int (m_mb2 n r s (m_mb n r s) x)), (2, .int (nI s)), (3, .int (nI x))] []) (6) ?_ ?_ 0 (by omega)
    · refine z_iload_n C dX6_mayBe_14 rfl (show zlk _ 3 = some (.int (nI 6)) from rfl) ?_
      refine z_bipush C (v := nI 6) dX6_mayBe_15 (by decide) ?_
      refine z_icmp_geT C 53 dX6_mayBe_17 (by decide) (by omega) (by omega) (by omega) ?_
      refine z_iincN C [(2, .int (nI (s + 1))), (0, .ref (ad 0)), (1, .int (m_mb2 n r s (m_mb n r s) 6)), (3, .int (nI 6))] dX6_mayBe_53 rfl (by decide) rfl ?_
      refine z_goto C 4 dX6_mayBe_56 (by decide) ?_
      exact z_to (ih4) (rfl) (rfl)
    · intro x hk14 ih14
      refine z_iload_n C dX6_mayBe_14 rfl (show zlk _ 3 = some (.int (nI x)) from rfl) ?_
      refine z_bipush C (v := nI 6) dX6_mayBe_15 (by decide) ?_
      refine z_icmp_geF C 53 dX6_mayBe_17 (by decide) (by omega) (by omega) (by omega) ?_
      refine z_iload_n C dX6_mayBe_20 rfl (show zlk _ 1 = some (.int (m_mb2 n r s (m_mb n r s) x)) from rfl) ?_
      refine z_aload_n C dX6_mayBe_21 rfl (show zlk _ 0 = some (.ref (ad 0)) from rfl) ?_
      refine z_aload_n C dX6_mayBe_22 rfl (show zlk _ 0 = some (.ref (ad 0)) from rfl) ?_
      refine z_mg C hin 2 (by decide) (by decide +kernel) (v := .ref (ad 2)) mf_2 dX6_mayBe_23 ?_
      refine z_iload_n C dX6_mayBe_26 rfl (show zlk _ 2 = some (.int (nI s)) from rfl) ?_
      refine z_iald C (f := (r 2)) 1 mr_2 s rfl (by omega) (by decide) dX6_mayBe_27 ?_
      refine z_iload_n C dX6_mayBe_28 rfl (show zlk _ 3 = some (.int (nI x)) from rfl) ?_
      refine z_callSi C (As := [.int ((r 2) s), .int (nI x)]) (rest := [.ref (ad 0), .int (m_mb2 n r s (m_mb n r s) x)]) (c_X6_shifted l θ _ ((r 2) s) (nI x)) gX6_mayBe_X6_shifted rfl 2 (by decide +kernel) (by decide) (by decide) rfl rfl (Nat.le_of_ble_eq_true rfl) dX6_mayBe_29 ?_
      rintro _ _ ⟨rfl, rfl⟩
      refine z_callVi C (As := [.int (m_sh ((r 2) s) (nI x) 30)]) (rest := [.int (m_mb2 n r s (m_mb n r s) x)]) (c_X6_isSo l θ ad n g r (m_sh ((r 2) s) (nI x) 30) (ht)) gX6_mayBe_X6_isSo rfl 1 (by decide +kernel) (by decide) (by decide) 0 rfl rfl rfl rfl rfl (Nat.le_of_ble_eq_true rfl) dX6_mayBe_32 ?_
      rintro _ _ ⟨rfl, rfl⟩
      refine z_if_eqB C 44 dX6_mayBe_35 (by decide) (fun h35t_1 => ?_) (fun h35n_1 => ?_)
      · refine z_iconst C (v := nI 0) dX6_mayBe_44 (by decide) ?_
        refine z_ior C dX6_mayBe_45 ?_
        refine z_istore_n C [(1, .int ((m_mb2 n r s (m_mb n r s) x) ||| (nI 0))), (0, .ref (ad 0)), (2, .int (nI s)), (3, .int (nI x))] dX6_mayBe_46 rfl (by decide) rfl ?_
        refine z_iincN C [(3, .int (nI (x + 1))), (1, .int ((m_mb2 n r s (m_mb n r s) x) ||| (nI 0))), (0, .ref (ad 0)), (2, .int (nI s))] dX6_mayBe_47 rfl (by decide) rfl ?_
        refine z_goto C 14 dX6_mayBe_50 (by decide) ?_
        exact z_to (ih14) (rfl) (by simp [zlk, m_mb2, h35t_1])
      · refine z_iconst C (v := nI 1) dX6_mayBe_38 (by decide) ?_
        refine z_iload_n C dX6_mayBe_39 rfl (show zlk _ 2 = some (.int (nI s)) from rfl) ?_
        refine z_ishl C dX6_mayBe_40 ?_
        refine z_goto C 45 dX6_mayBe_41 (by decide) ?_
        refine z_ior C dX6_mayBe_45 ?_
        refine z_istore_n C [(1, .int ((m_mb2 n r s (m_mb n r s) x) ||| ((nI 1) <<< ((nI s) &&& 31)))), (0, .ref (ad 0)), (2, .int (nI s)), (3, .int (nI x))] dX6_mayBe_46 rfl (by decide) rfl ?_
        refine z_iincN C [(3, .int (nI (x + 1))), (1, .int ((m_mb2 n r s (m_mb n r s) x) ||| ((nI 1) <<< ((nI s) &&& 31)))), (0, .ref (ad 0)), (2, .int (nI s))] dX6_mayBe_47 rfl (by decide) rfl ?_
        refine z_goto C 14 dX6_mayBe_50 (by decide) ?_
        exact z_to (ih14) (rfl) (by simp [zlk, m_mb2, h35n_1])
end
section
def scanF (c : Nat → Bool) (L : Nat) : Nat → Nat → Nat
  | 0, p => p
  | d + 1, p => if p < L ∧ c p = true then scanF c L d (p + 1) else p
def scan (c : Nat → Bool) (L p : Nat) : Nat := scanF c L (L - p) p
theorem scan_step {c : Nat → Bool} {L p : Nat} (h : p < L) (hc : c p = true) : scan c L p = scan c L (p + 1) := by
  unfold scan
  obtain ⟨d, hd⟩ : ∃ d, L - p = d + 1 := ⟨L - p - 1, by omega⟩
  rw [hd, show L - (p + 1) = d by omega]
  simp [scanF, h, hc]
theorem scan_stop {c : Nat → Bool} {L p : Nat} (h : ¬ (p < L ∧ c p = true)) : scan c L p = p := by
  unfold scan
  cases hd : L - p with
  | zero => rfl
  | succ d => simp only [scanF]; rw [if_neg h]
theorem scan_ind {c : Nat → Bool} {L : Nat} : ∀ (d p : Nat), L - p = d → p ≤ L → p ≤ scan c L p ∧ scan c L p ≤ L ∧ (scan c L p < L → c (scan c L p) = false) ∧ ∀ q, p ≤ q → q < scan c L p → c q = true := by
  intro d
  induction d with
  | zero =>
    intro p h hp
    have e : p = L := by omega
    rw [scan_stop (by omega)]
    exact ⟨Nat.le_refl _, hp, fun h => by omega, fun q h1 h2 => by omega⟩
  | succ d ih =>
    intro p h hp
    by_cases hc : c p = true
    · rw [scan_step (by omega) hc]
      obtain ⟨h1, h2, h3, h4⟩ := ih (p + 1) (by omega) (by omega)
      refine ⟨by omega, h2, h3, fun q q1 q2 => ?_⟩
      by_cases e : q = p
      · rw [e]; exact hc
      · exact h4 q (by omega) q2
    · rw [scan_stop (fun z => hc z.2)]
      exact ⟨Nat.le_refl _, hp, fun _ => by simpa using hc, fun q h1 h2 => by omega⟩
theorem scan_le {c : Nat → Bool} {L p : Nat} (h : p ≤ L) : p ≤ scan c L p ∧ scan c L p ≤ L := ⟨(scan_ind _ p rfl h).1, (scan_ind _ p rfl h).2.1⟩
def sk (f : Nat → Int32) (L p : Nat) : Nat := scan (fun q => decide (f q = nI 32)) L p
def dgt (c : Int32) : Bool := m_in (Int32.toInt64 c) 48 57
def dE (f : Nat → Int32) (L p : Nat) : Nat := scan (fun q => dgt (f q)) L p
def m_hr (f : Nat → Int32) (L p : Nat) : Int32 := if p < L then f p else (-1)
theorem sk_le {f : Nat → Int32} {L p : Nat} (h : p ≤ L) : p ≤ sk f L p ∧ sk f L p ≤ L := scan_le h
theorem dE_le {f : Nat → Int32} {L p : Nat} (h : p ≤ L) : p ≤ dE f L p ∧ dE f L p ≤ L := scan_le h
def dig (c : Int32) : Nat := (c.toInt - 48).toNat
theorem dgt_int {c : Int32} (h : dgt c = true) : 48 ≤ c.toInt ∧ c.toInt ≤ 57 := by
  unfold dgt m_in at h
  rw [Int32.toInt_toInt64] at h
  simp only [Bool.and_eq_true, decide_eq_true_eq] at h
  have e1 : Int64.toInt 48 = 48 := by decide
  have e2 : Int64.toInt 57 = 57 := by decide
  rw [e1, e2] at h
  exact h
theorem dig_nI {c : Int32} (h : dgt c = true) : c = nI (48 + dig c) ∧ dig c ≤ 9 := by
  obtain ⟨h1, h2⟩ := dgt_int h
  unfold dig
  refine ⟨?_, by omega⟩
  rw [zf_eq, nI_toInt (by omega)]
  omega
theorem dig_add {c : Int32} (a : Nat) (h : dgt c = true) : nI a + c - nI 48 = nI (a + dig c) := by
  have e := (dig_nI h).1
  rw [e, nI_add, pk_sub (by omega)]
  congr 1
  have : dig (nI (48 + dig c)) = dig c := by rw [← e]
  omega
def m_num (f : Nat → Int32) (p : Nat) : Nat → Nat
  | 0 => 0
  | k + 1 => if m_num f p k ≤ 10000 then 10 * m_num f p k + dig (f (p + k)) else m_num f p k
set_option maxHeartbeats 4000000 in
set_option maxRecDepth 100000 in
theorem c_X6_here (l : Launch) (θ : zH) (ad : Nat → Nat) (n : Nat → Nat) (g : Int32) (r : Nat → Nat → Int32)  (hp : n 12 ≤ n 10) (hL : n 10 ≤ 240) : cI l yX6_here wsX6_here 0 θ [.ref (ad 0)] (MW θ ad n g r) (fun r0 Y => ∃ p1, p1 = sk (r 9) (n 10) (n 12) ∧ r0 = m_hr (r 9) (n 10) p1 ∧ Y = MW θ ad (va_up n 12 p1) g r) := by
  refine z_cI (by decide) rfl rfl (Nat.le_of_ble_eq_true rfl) (lv := [(0, .ref (ad 0))]) rfl (fun κ C E => ?_)
  have hin : ∀ w ∈ wsX60, w ∈ wsX6_here := by decide +kernel
  refine z_lv (lv' := [(0, .ref (ad 0))]) rfl ?_
  refine z_X (Y := MW θ ad (nv (n 0) (n 1) (n 3) (n 5) (n 8) (n 10) (n 12) (n 13) (n 14) (n 15) (n 16) (n 18) (n 20) (n 22) (n 27)) g r) (mw_eq rfl rfl rfl rfl rfl rfl rfl rfl rfl rfl rfl rfl rfl rfl rfl rfl rfl rfl rfl rfl rfl rfl rfl rfl rfl rfl rfl rfl rfl rfl rfl rfl) ?_
  refine z_up (fun p => sk (r 9) (n 10) p = sk (r 9) (n 10) (n 12) → Z κ (MW θ ad (nv (n 0) (n 1) (n 3) (n 5) (n 8) (n 10) p (n 13) (n 14) (n 15) (n 16) (n 18) (n 20) (n 22) (n 27)) g r) 0 [(0, .ref (ad 0))] []) (n 10) ?_ ?_ (n 12) (by omega) (rfl)
  · intro hinv0
    refine z_aload_n C dX6_here_0 rfl (show zlk _ 0 = some (.ref (ad 0)) from rfl) ?_
    refine z_mg C hin 12 (by decide) (by decide +kernel) (v := .int (nI (n 10))) mfv_12 dX6_here_1 ?_
    refine z_aload_n C dX6_here_4 rfl (show zlk _ 0 = some (.ref (ad 0)) from rfl) ?_
    refine z_mg C hin 10 (by decide) (by decide +kernel) (v := .int (nI (n 10))) mfv_10 dX6_here_5 ?_
    refine z_icmp_geT C 38 dX6_here_8 (by decide) (by omega) (by omega) (by omega) ?_
    have hq := hinv0.symm.trans (scan_stop (c := fun q => decide (r 9 q = nI 32)) (L := n 10) (p := n 10) (by simp))
    refine z_aload_n C dX6_here_38 rfl (show zlk _ 0 = some (.ref (ad 0)) from rfl) ?_
    refine z_mg C hin 12 (by decide) (by decide +kernel) (v := .int (nI (n 10))) mfv_12 dX6_here_39 ?_
    refine z_aload_n C dX6_here_42 rfl (show zlk _ 0 = some (.ref (ad 0)) from rfl) ?_
    refine z_mg C hin 10 (by decide) (by decide +kernel) (v := .int (nI (n 10))) mfv_10 dX6_here_43 ?_
    refine z_icmp_geN C 61 dX6_here_46 (by decide) (by omega) (by omega) (fun h46t_1 => ?_) (fun h46n_1 => ?_)
    · refine z_iconst C (v := (-1)) dX6_here_61 (by decide) ?_
      exact E _ _ _ _ (⟨_, rfl, by rw [hq]; unfold m_hr; rw [if_neg (by omega)], by rw [hq]; exact (mw_eq rfl rfl rfl rfl rfl rfl rfl rfl rfl rfl rfl rfl rfl rfl rfl rfl rfl rfl rfl rfl rfl rfl rfl rfl rfl rfl rfl rfl rfl rfl rfl rfl)⟩) (rfl) dX6_here_62
    · refine z_aload_n C dX6_here_49 rfl (show zlk _ 0 = some (.ref (ad 0)) from rfl) ?_
      refine z_mg C hin 9 (by decide) (by decide +kernel) (v := .ref (ad 9)) mf_9 dX6_here_50 ?_
      refine z_aload_n C dX6_here_53 rfl (show zlk _ 0 = some (.ref (ad 0)) from rfl) ?_
      refine z_mg C hin 12 (by decide) (by decide +kernel) (v := .int (nI (n 10))) mfv_12 dX6_here_54 ?_
      refine z_iald C (f := (r 9)) 5 mr_9 (n 10) rfl (by omega) (by decide) dX6_here_57 ?_
      refine z_goto C 62 dX6_here_58 (by decide) ?_
      exact E _ _ _ _ (⟨_, rfl, by rw [hq]; unfold m_hr; rw [if_pos (by omega)], by rw [hq]; exact (mw_eq rfl rfl rfl rfl rfl rfl rfl rfl rfl rfl rfl rfl rfl rfl rfl rfl rfl rfl rfl rfl rfl rfl rfl rfl rfl rfl rfl rfl rfl rfl rfl rfl)⟩) (rfl) dX6_here_62
  · intro p hk0 ih0
    intro hinv0
    refine z_aload_n C dX6_here_0 rfl (show zlk _ 0 = some (.ref (ad 0)) from rfl) ?_
    refine z_mg C hin 12 (by decide) (by decide +kernel) (v := .int (nI p)) mfv_12 dX6_here_1 ?_
    refine z_aload_n C dX6_here_4 rfl (show zlk _ 0 = some (.ref (ad 0)) from rfl) ?_
    refine z_mg C hin 10 (by decide) (by decide +kernel) (v := .int (nI (n 10))) mfv_10 dX6_here_5 ?_
    refine z_icmp_geF C 38 dX6_here_8 (by decide) (by omega) (by omega) (by omega) ?_
    refine z_aload_n C dX6_here_11 rfl (show zlk _ 0 = some (.ref (ad 0)) from rfl) ?_
    refine z_mg C hin 9 (by decide) (by decide +kernel) (v := .ref (ad 9)) mf_9 dX6_here_12 ?_
    refine z_aload_n C dX6_here_15 rfl (show zlk _ 0 = some (.ref (ad 0)) from rfl) ?_
    refine z_mg C hin 12 (by decide) (by decide +kernel) (v := .int (nI p)) mfv_12 dX6_here_16 ?_
    refine z_iald C (f := (r 9)) 5 mr_9 p rfl (by omega) (by decide) dX6_here_19 ?_
    refine z_bipush C (v := nI 32) dX6_here_20 (by decide) ?_
    refine z_icmp_ne C 38 dX6_here_22 (by decide) (fun h22t_2 => ?_) (fun h22n_2 => ?_)
    · have hq := hinv0.symm.trans (scan_stop (c := fun q => decide (r 9 q = nI 32)) (L := n 10) (p := p) (by simp [h22t_2]))
      refine z_aload_n C dX6_here_38 rfl (show zlk _ 0 = some (.ref (ad 0)) from rfl) ?_
      refine z_mg C hin 12 (by decide) (by decide +kernel) (v := .int (nI p)) mfv_12 dX6_here_39 ?_
      refine z_aload_n C dX6_here_42 rfl (show zlk _ 0 = some (.ref (ad 0)) from rfl) ?_
      refine z_mg C hin 10 (by decide) (by decide +kernel) (v := .int (nI (n 10))) mfv_10 dX6_here_43 ?_
      refine z_icmp_geN C 61 dX6_here_46 (by decide) (by omega) (by omega) (fun h46t_3 => ?_) (fun h46n_3 => ?_)
      · refine z_iconst C (v := (-1)) dX6_here_61 (by decide) ?_
        exact E _ _ _ _ (⟨_, rfl, by rw [hq]; unfold m_hr; rw [if_neg (by omega)], by rw [hq]; exact (mw_eq rfl rfl rfl rfl rfl rfl rfl rfl rfl rfl rfl rfl rfl rfl rfl rfl rfl rfl rfl rfl rfl rfl rfl rfl rfl rfl rfl rfl rfl rfl rfl rfl)⟩) (rfl) dX6_here_62
      · refine z_aload_n C dX6_here_49 rfl (show zlk _ 0 = some (.ref (ad 0)) from rfl) ?_
        refine z_mg C hin 9 (by decide) (by decide +kernel) (v := .ref (ad 9)) mf_9 dX6_here_50 ?_
        refine z_aload_n C dX6_here_53 rfl (show zlk _ 0 = some (.ref (ad 0)) from rfl) ?_
        refine z_mg C hin 12 (by decide) (by decide +kernel) (v := .int (nI p)) mfv_12 dX6_here_54 ?_
        refine z_iald C (f := (r 9)) 5 mr_9 p rfl (by omega) (by decide) dX6_here_57 ?_
        refine z_goto C 62 dX6_here_58 (by decide) ?_
        exact E _ _ _ _ (⟨_, rfl, by rw [hq]; unfold m_hr; rw [if_pos (by omega)], by rw [hq]; exact (mw_eq rfl rfl rfl rfl rfl rfl rfl rfl rfl rfl rfl rfl rfl rfl rfl rfl rfl rfl rfl rfl rfl rfl rfl rfl rfl rfl rfl rfl rfl rfl rfl rfl)⟩) (rfl) dX6_here_62
    · refine z_aload_n C dX6_here_25 rfl (show zlk _ 0 = some (.ref (ad 0)) from rfl) ?_
      refine z_dup C dX6_here_26 rfl ?_
      refine z_mg C hin 12 (by decide) (by decide +kernel) (v := .int (nI p)) mfv_12 dX6_here_27 ?_
      refine z_iconst C (v := nI 1) dX6_here_30 (by decide) ?_
      refine z_iaddN C dX6_here_31 ?_
      refine z_mp C hin 12 (by decide) (by decide +kernel) rfl rfl mpv_12 dX6_here_32 ?_
      refine z_goto C 0 dX6_here_35 (by decide) ?_
      exact z_to (ih0 (by rw [← hinv0]; exact (scan_step (c := fun q => decide (r 9 q = nI 32)) (by omega) (by simp [hinv0, h22n_2])).symm)) ((mw_eq rfl rfl rfl rfl rfl rfl rfl rfl rfl rfl rfl rfl rfl rfl rfl rfl rfl rfl rfl rfl rfl rfl rfl rfl rfl rfl rfl rfl rfl rfl rfl rfl)) (rfl)

set_option maxHeartbeats 4000000 in
set_option maxRecDepth 100000 in
theorem c_X6_fails (l : Launch) (θ : zH) (ad : Nat → Nat) (n : Nat → Nat) (g : Int32) (r : Nat → Nat → Int32) (c p : Nat) : cI l yX6_fails wsX6_fails 0 θ [.ref (ad 0), .int (nI c), .int (nI p)] (MW θ ad n g r) (fun r0 Y => r0 = nI c ∧ Y = MW θ ad n (nI p) r) := by
  refine z_cI (by decide) rfl rfl (Nat.le_of_ble_eq_true rfl) (lv := [(0, .ref (ad 0)), (1, .int (nI c)), (2, .int (nI p))]) rfl (fun κ C E => ?_)
  have hin : ∀ w ∈ wsX60, w ∈ wsX6_fails := by decide +kernel
  refine z_aload_n C dX6_fails_0 rfl (show zlk _ 0 = some (.ref (ad 0)) from rfl) ?_
  refine z_iload_n C dX6_fails_1 rfl (show zlk _ 2 = some (.int (nI p)) from rfl) ?_
  refine z_mp C hin 11 (by decide) (by decide +kernel) rfl rfl mp_11 dX6_fails_2 ?_
  refine z_iload_n C dX6_fails_5 rfl (show zlk _ 1 = some (.int (nI c)) from rfl) ?_
  exact E _ _ _ _ (⟨rfl, rfl⟩) (rfl) dX6_fails_6

theorem dgt_m1 : dgt (-1) = false := by decide
theorem m_num_le (f : Nat → Int32) (p : Nat) : ∀ k, (∀ i, i < k → dgt (f (p + i)) = true) → m_num f p k ≤ 100009
  | 0, _ => by unfold m_num; omega
  | k + 1, h => by
    have h1 := m_num_le f p k (fun i hi => h i (by omega))
    have h2 := (dig_nI (h k (by omega))).2
    unfold m_num
    split <;> omega
/-- the end of a number at p, its value -/
def nE (f : Nat → Int32) (L p : Nat) : Nat := dE f L (sk f L p)
def nV (f : Nat → Int32) (L p : Nat) : Nat := m_num f (sk f L p) (nE f L p - sk f L p)
def nOk (f : Nat → Int32) (L p : Nat) : Bool := dgt (m_hr f L (sk f L p))
def nBad (f : Nat → Int32) (L p lo hi : Nat) : Prop := 3 < nE f L p - sk f L p ∨ nV f L p < lo ∨ hi < nV f L p
theorem m_in_nI {v lo hi : Nat} (h1 : v < 2 ^ 31) (h2 : lo < 2 ^ 31) (h3 : hi < 2 ^ 31) : m_in (Int32.toInt64 (nI v)) (Int32.toInt64 (nI lo)) (Int32.toInt64 (nI hi)) = (decide (lo ≤ v) && decide (v ≤ hi)) := by
  unfold m_in
  rw [Int32.toInt_toInt64, Int32.toInt_toInt64, Int32.toInt_toInt64, nI_toInt h1, nI_toInt h2, nI_toInt h3]
  simp
theorem nBad_of {a v lo hi : Nat} (_ : ¬ 3 < a) (h2 : lo < 2 ^ 31) (h3 : hi < 2 ^ 31) (h1 : v ≤ 100009) (h : m_in (Int32.toInt64 (nI v)) (Int32.toInt64 (nI lo)) (Int32.toInt64 (nI hi)) = false) : 3 < a ∨ v < lo ∨ hi < v := by
  rw [m_in_nI (by omega) h2 h3] at h
  simp only [Bool.and_eq_false_iff, decide_eq_false_iff_not] at h
  omega
theorem nGood_of {a v lo hi : Nat} (h0 : ¬ 3 < a) (h2 : lo < 2 ^ 31) (h3 : hi < 2 ^ 31) (h1 : v ≤ 100009) (h : m_in (Int32.toInt64 (nI v)) (Int32.toInt64 (nI lo)) (Int32.toInt64 (nI hi)) = true) : ¬ (3 < a ∨ v < lo ∨ hi < v) := by
  rw [m_in_nI (by omega) h2 h3] at h
  simp only [Bool.and_eq_true, decide_eq_true_eq] at h
  omega
set_option maxHeartbeats 4000000 in
set_option maxRecDepth 100000 in
theorem c_X6_takeNumber (l : Launch) (θ : zH) (ad : Nat → Nat) (n : Nat → Nat) (g : Int32) (r : Nat → Nat → Int32) (lo hi : Nat) (hp : n 12 ≤ n 10) (hL : n 10 ≤ 240) (hlo : lo < 2 ^ 31) (hhi : hi < 2 ^ 31) : cI l yX6_takeNumber wsX6_takeNumber 1 θ [.ref (ad 0), .int (nI lo), .int (nI hi)] (MW θ ad n g r) (fun r0 Y => ∃ p1 p2 v, p1 = sk (r 9) (n 10) (n 12) ∧ p2 = nE (r 9) (n 10) (n 12) ∧ v = nV (r 9) (n 10) (n 12) ∧ ((nOk (r 9) (n 10) (n 12) = false ∧ r0 = nI 1 ∧ Y = MW θ ad (va_up n 12 p1) (nI p1) r) ∨ (nOk (r 9) (n 10) (n 12) = true ∧ nBad (r 9) (n 10) (n 12) lo hi ∧ r0 = nI 2 ∧ Y = MW θ ad (va_up (va_up (va_up n 12 p2) 13 v) 14 p1) (nI p1) r) ∨ (nOk (r 9) (n 10) (n 12) = true ∧ ¬ nBad (r 9) (n 10) (n 12) lo hi ∧ r0 = nI 0 ∧ Y = MW θ ad (va_up (va_up (va_up n 12 p2) 13 v) 14 p1) g r))) := by
  refine z_cI (by decide) rfl rfl (Nat.le_of_ble_eq_true rfl) (lv := [(0, .ref (ad 0)), (1, .int (nI lo)), (2, .int (nI hi))]) rfl (fun κ C E => ?_)
  have hin : ∀ w ∈ wsX60, w ∈ wsX6_takeNumber := by decide +kernel
  refine z_aload_n C dX6_takeNumber_0 rfl (show zlk _ 0 = some (.ref (ad 0)) from rfl) ?_
  refine z_callVi C (As := []) (rest := []) (c_X6_here l θ ad n g r (show n 12 ≤ n 10 by omega) (hL)) gX6_takeNumber_X6_here rfl 0 (by decide +kernel) (by decide) (by decide) 0 rfl rfl rfl rfl rfl (Nat.le_of_ble_eq_true rfl) dX6_takeNumber_1 ?_
  rintro _ _ ⟨ph1, eh1, rfl, rfl⟩
  replace eh1 : ph1 = sk (r 9) (n 10) (n 12) := eh1
  have lh1 : ph1 ≤ n 10 := by rw [eh1]; exact (sk_le (by omega)).2
  refine z_X (Y := MW θ ad (nv (n 0) (n 1) (n 3) (n 5) (n 8) (n 10) ph1 (n 13) (n 14) (n 15) (n 16) (n 18) (n 20) (n 22) (n 27)) g r) (mw_eq rfl rfl rfl rfl rfl rfl rfl rfl rfl rfl rfl rfl rfl rfl rfl rfl rfl rfl rfl rfl rfl rfl rfl rfl rfl rfl rfl rfl rfl rfl rfl rfl) ?_
  refine z_istore_n C [(3, .int (m_hr (r 9) (n 10) ph1)), (0, .ref (ad 0)), (1, .int (nI lo)), (2, .int (nI hi))] dX6_takeNumber_4 rfl (by decide) rfl ?_
  refine z_iload_n C dX6_takeNumber_5 rfl (show zlk _ 3 = some (.int (m_hr (r 9) (n 10) ph1)) from rfl) ?_
  refine z_i2l C dX6_takeNumber_6 ?_
  refine z_ldc2 C (v := 48) (by decide +kernel) dX6_takeNumber_7 ?_
  refine z_ldc2 C (v := 57) (by decide +kernel) dX6_takeNumber_10 ?_
  refine z_callSi C (As := [.long (Int32.toInt64 (m_hr (r 9) (n 10) ph1)), .long (48), .long (57)]) (rest := []) (c_X6_in l θ _ (Int32.toInt64 (m_hr (r 9) (n 10) ph1)) (48) (57)) gX6_takeNumber_X6_in rfl 3 (by decide +kernel) (by decide) (by decide) rfl rfl (Nat.le_of_ble_eq_true rfl) dX6_takeNumber_13 ?_
  rintro _ _ ⟨rfl, rfl⟩
  refine z_top (v' := .int (bI (m_in (Int32.toInt64 (m_hr (r 9) (n 10) ph1)) (48) (57)))) rfl ?_
  refine z_if_neB C 29 dX6_takeNumber_16 (by decide) (fun h16t_1 => ?_) (fun h16n_1 => ?_)
  · have hsk := sk_le (f := r 9) (L := n 10) hp
    rw [← eh1] at hsk
    have hok : nOk (r 9) (n 10) (n 12) = true := by unfold nOk; rw [← eh1]; exact h16t_1
    refine z_aload_n C dX6_takeNumber_29 rfl (show zlk _ 0 = some (.ref (ad 0)) from rfl) ?_
    refine z_aload_n C dX6_takeNumber_30 rfl (show zlk _ 0 = some (.ref (ad 0)) from rfl) ?_
    refine z_mg C hin 12 (by decide) (by decide +kernel) (v := .int (nI ph1)) mfv_12 dX6_takeNumber_31 ?_
    refine z_mp C hin 14 (by decide) (by decide +kernel) rfl rfl mpv_14 dX6_takeNumber_34 ?_
    refine z_aload_n C dX6_takeNumber_37 rfl (show zlk _ 0 = some (.ref (ad 0)) from rfl) ?_
    refine z_iconst C (v := nI 0) dX6_takeNumber_38 (by decide) ?_
    refine z_mp C hin 13 (by decide) (by decide +kernel) rfl rfl mpv_13 dX6_takeNumber_39 ?_
    refine z_lv (lv' := [(0, .ref (ad 0)), (1, .int (nI lo)), (2, .int (nI hi))]) rfl ?_
    refine z_X (Y := MW θ ad (nv (n 0) (n 1) (n 3) (n 5) (n 8) (n 10) ph1 (m_num (r 9) (ph1) (ph1 - ph1)) ph1 (n 15) (n 16) (n 18) (n 20) (n 22) (n 27)) g r) (by rw [Nat.sub_self]; exact (mw_eq rfl rfl rfl rfl rfl rfl rfl rfl rfl rfl rfl rfl rfl rfl rfl rfl rfl rfl rfl rfl rfl rfl rfl rfl rfl rfl rfl rfl rfl rfl rfl rfl)) ?_
    refine z_up (fun p => dE (r 9) (n 10) p = nE (r 9) (n 10) (n 12) ∧ ph1 ≤ p ∧ (∀ q, ph1 ≤ q → q < p → dgt (r 9 q) = true) → Z κ (MW θ ad (nv (n 0) (n 1) (n 3) (n 5) (n 8) (n 10) p (m_num (r 9) (ph1) (p - ph1)) ph1 (n 15) (n 16) (n 18) (n 20) (n 22) (n 27)) g r) 42 [(0, .ref (ad 0)), (1, .int (nI lo)), (2, .int (nI hi))] []) (n 10) ?_ ?_ ph1 (by omega) (⟨by rw [eh1]; rfl, Nat.le_refl _, fun q q1 q2 => by omega⟩)
    · intro hinv42
      refine z_aload_n C dX6_takeNumber_42 rfl (show zlk _ 0 = some (.ref (ad 0)) from rfl) ?_
      refine z_mg C hin 12 (by decide) (by decide +kernel) (v := .int (nI (n 10))) mfv_12 dX6_takeNumber_43 ?_
      refine z_aload_n C dX6_takeNumber_46 rfl (show zlk _ 0 = some (.ref (ad 0)) from rfl) ?_
      refine z_mg C hin 10 (by decide) (by decide +kernel) (v := .int (nI (n 10))) mfv_10 dX6_takeNumber_47 ?_
      refine z_icmp_geT C 129 dX6_takeNumber_50 (by decide) (by omega) (by omega) (by omega) ?_
      have hq : nE (r 9) (n 10) (n 12) = n 10 := hinv42.1.symm.trans (scan_stop (c := fun q => dgt (r 9 q)) (L := n 10) (p := n 10) (by simp))
      have hnl : m_num (r 9) (ph1) (n 10 - ph1) ≤ 100009 := m_num_le _ _ _ (fun i hi => hinv42.2.2 _ (by omega) (by omega))
      refine z_aload_n C dX6_takeNumber_129 rfl (show zlk _ 0 = some (.ref (ad 0)) from rfl) ?_
      refine z_mg C hin 12 (by decide) (by decide +kernel) (v := .int (nI (n 10))) mfv_12 dX6_takeNumber_130 ?_
      refine z_aload_n C dX6_takeNumber_133 rfl (show zlk _ 0 = some (.ref (ad 0)) from rfl) ?_
      refine z_mg C hin 14 (by decide) (by decide +kernel) (v := .int (nI ph1)) mfv_14 dX6_takeNumber_134 ?_
      refine z_isubN C dX6_takeNumber_137 (by omega) ?_
      refine z_iconst C (v := nI 3) dX6_takeNumber_138 (by decide) ?_
      refine z_icmp_gtN C 157 dX6_takeNumber_139 (by decide) (by omega) (by omega) (fun h139t_2 => ?_) (fun h139n_2 => ?_)
      · refine z_aload_n C dX6_takeNumber_157 rfl (show zlk _ 0 = some (.ref (ad 0)) from rfl) ?_
        refine z_iconst C (v := nI 2) dX6_takeNumber_158 (by decide) ?_
        refine z_aload_n C dX6_takeNumber_159 rfl (show zlk _ 0 = some (.ref (ad 0)) from rfl) ?_
        refine z_mg C hin 14 (by decide) (by decide +kernel) (v := .int (nI ph1)) mfv_14 dX6_takeNumber_160 ?_
        refine z_callVi C (As := [.int (nI 2), .int (nI ph1)]) (rest := []) (c_X6_fails l θ ad (nv (n 0) (n 1) (n 3) (n 5) (n 8) (n 10) (n 10) (m_num (r 9) (ph1) (n 10 - ph1)) ph1 (n 15) (n 16) (n 18) (n 20) (n 22) (n 27)) g r 2 ph1) gX6_takeNumber_X6_fails rfl 2 (by decide +kernel) (by decide) (by decide) 0 rfl rfl rfl rfl rfl (Nat.le_of_ble_eq_true rfl) dX6_takeNumber_163 ?_
        rintro _ _ ⟨rfl, rfl⟩
        refine z_top (v' := .int (nI 2)) rfl ?_
        refine z_X (Y := MW θ ad (nv (n 0) (n 1) (n 3) (n 5) (n 8) (n 10) (n 10) (m_num (r 9) (ph1) (n 10 - ph1)) ph1 (n 15) (n 16) (n 18) (n 20) (n 22) (n 27)) (nI ph1) r) (mw_eq rfl rfl rfl rfl rfl rfl rfl rfl rfl rfl rfl rfl rfl rfl rfl rfl rfl rfl rfl rfl rfl rfl rfl rfl rfl rfl rfl rfl rfl rfl rfl rfl) ?_
        refine z_goto C 170 dX6_takeNumber_166 (by decide) ?_
        exact E _ _ _ _ (⟨_, _, _, eh1, rfl, by rw [nV, hq, ← eh1], Or.inr (Or.inl ⟨hok, by unfold nBad nV; rw [hq, ← eh1]; exact Or.inl h139t_2, rfl, by rw [hq]; exact (mw_eq rfl rfl rfl rfl rfl rfl rfl rfl rfl rfl rfl rfl rfl rfl rfl rfl rfl rfl rfl rfl rfl rfl rfl rfl rfl rfl rfl rfl rfl rfl rfl rfl)⟩)⟩) (rfl) dX6_takeNumber_170
      · refine z_aload_n C dX6_takeNumber_142 rfl (show zlk _ 0 = some (.ref (ad 0)) from rfl) ?_
        refine z_mg C hin 13 (by decide) (by decide +kernel) (v := .int (nI (m_num (r 9) (ph1) (n 10 - ph1)))) mfv_13 dX6_takeNumber_143 ?_
        refine z_i2l C dX6_takeNumber_146 ?_
        refine z_iload_n C dX6_takeNumber_147 rfl (show zlk _ 1 = some (.int (nI lo)) from rfl) ?_
        refine z_i2l C dX6_takeNumber_148 ?_
        refine z_iload_n C dX6_takeNumber_149 rfl (show zlk _ 2 = some (.int (nI hi)) from rfl) ?_
        refine z_i2l C dX6_takeNumber_150 ?_
        refine z_callSi C (As := [.long (Int32.toInt64 (nI (m_num (r 9) (ph1) (n 10 - ph1)))), .long (Int32.toInt64 (nI lo)), .long (Int32.toInt64 (nI hi))]) (rest := []) (c_X6_in l θ _ (Int32.toInt64 (nI (m_num (r 9) (ph1) (n 10 - ph1)))) (Int32.toInt64 (nI lo)) (Int32.toInt64 (nI hi))) gX6_takeNumber_X6_in rfl 3 (by decide +kernel) (by decide) (by decide) rfl rfl (Nat.le_of_ble_eq_true rfl) dX6_takeNumber_151 ?_
        rintro _ _ ⟨rfl, rfl⟩
        refine z_top (v' := .int (bI (m_in (Int32.toInt64 (nI (m_num (r 9) (ph1) (n 10 - ph1)))) (Int32.toInt64 (nI lo)) (Int32.toInt64 (nI hi))))) rfl ?_
        refine z_if_neB C 169 dX6_takeNumber_154 (by decide) (fun h154t_3 => ?_) (fun h154n_3 => ?_)
        · refine z_iconst C (v := nI 0) dX6_takeNumber_169 (by decide) ?_
          exact E _ _ _ _ (⟨_, _, _, eh1, rfl, by rw [nV, hq, ← eh1], Or.inr (Or.inr ⟨hok, by unfold nBad nV; rw [hq, ← eh1]; exact nGood_of (by omega) hlo hhi hnl h154t_3, rfl, by rw [hq]; exact (mw_eq rfl rfl rfl rfl rfl rfl rfl rfl rfl rfl rfl rfl rfl rfl rfl rfl rfl rfl rfl rfl rfl rfl rfl rfl rfl rfl rfl rfl rfl rfl rfl rfl)⟩)⟩) (rfl) dX6_takeNumber_170
        · refine z_aload_n C dX6_takeNumber_157 rfl (show zlk _ 0 = some (.ref (ad 0)) from rfl) ?_
          refine z_iconst C (v := nI 2) dX6_takeNumber_158 (by decide) ?_
          refine z_aload_n C dX6_takeNumber_159 rfl (show zlk _ 0 = some (.ref (ad 0)) from rfl) ?_
          refine z_mg C hin 14 (by decide) (by decide +kernel) (v := .int (nI ph1)) mfv_14 dX6_takeNumber_160 ?_
          refine z_callVi C (As := [.int (nI 2), .int (nI ph1)]) (rest := []) (c_X6_fails l θ ad (nv (n 0) (n 1) (n 3) (n 5) (n 8) (n 10) (n 10) (m_num (r 9) (ph1) (n 10 - ph1)) ph1 (n 15) (n 16) (n 18) (n 20) (n 22) (n 27)) g r 2 ph1) gX6_takeNumber_X6_fails rfl 2 (by decide +kernel) (by decide) (by decide) 0 rfl rfl rfl rfl rfl (Nat.le_of_ble_eq_true rfl) dX6_takeNumber_163 ?_
          rintro _ _ ⟨rfl, rfl⟩
          refine z_top (v' := .int (nI 2)) rfl ?_
          refine z_X (Y := MW θ ad (nv (n 0) (n 1) (n 3) (n 5) (n 8) (n 10) (n 10) (m_num (r 9) (ph1) (n 10 - ph1)) ph1 (n 15) (n 16) (n 18) (n 20) (n 22) (n 27)) (nI ph1) r) (mw_eq rfl rfl rfl rfl rfl rfl rfl rfl rfl rfl rfl rfl rfl rfl rfl rfl rfl rfl rfl rfl rfl rfl rfl rfl rfl rfl rfl rfl rfl rfl rfl rfl) ?_
          refine z_goto C 170 dX6_takeNumber_166 (by decide) ?_
          exact E _ _ _ _ (⟨_, _, _, eh1, rfl, by rw [nV, hq, ← eh1], Or.inr (Or.inl ⟨hok, by unfold nBad nV; rw [hq, ← eh1]; exact nBad_of (by omega) hlo hhi hnl h154n_3, rfl, by rw [hq]; exact (mw_eq rfl rfl rfl rfl rfl rfl rfl rfl rfl rfl rfl rfl rfl rfl rfl rfl rfl rfl rfl rfl rfl rfl rfl rfl rfl rfl rfl rfl rfl rfl rfl rfl)⟩)⟩) (rfl) dX6_takeNumber_170
    · intro p hk42 ih42
      intro hinv42
      refine z_aload_n C dX6_takeNumber_42 rfl (show zlk _ 0 = some (.ref (ad 0)) from rfl) ?_
      refine z_mg C hin 12 (by decide) (by decide +kernel) (v := .int (nI p)) mfv_12 dX6_takeNumber_43 ?_
      refine z_aload_n C dX6_takeNumber_46 rfl (show zlk _ 0 = some (.ref (ad 0)) from rfl) ?_
      refine z_mg C hin 10 (by decide) (by decide +kernel) (v := .int (nI (n 10))) mfv_10 dX6_takeNumber_47 ?_
      refine z_icmp_geF C 129 dX6_takeNumber_50 (by decide) (by omega) (by omega) (by omega) ?_
      refine z_aload_n C dX6_takeNumber_53 rfl (show zlk _ 0 = some (.ref (ad 0)) from rfl) ?_
      refine z_mg C hin 9 (by decide) (by decide +kernel) (v := .ref (ad 9)) mf_9 dX6_takeNumber_54 ?_
      refine z_aload_n C dX6_takeNumber_57 rfl (show zlk _ 0 = some (.ref (ad 0)) from rfl) ?_
      refine z_mg C hin 12 (by decide) (by decide +kernel) (v := .int (nI p)) mfv_12 dX6_takeNumber_58 ?_
      refine z_iald C (f := (r 9)) 5 mr_9 p rfl (by omega) (by decide) dX6_takeNumber_61 ?_
      refine z_i2l C dX6_takeNumber_62 ?_
      refine z_ldc2 C (v := 48) (by decide +kernel) dX6_takeNumber_63 ?_
      refine z_ldc2 C (v := 57) (by decide +kernel) dX6_takeNumber_66 ?_
      refine z_callSi C (As := [.long (Int32.toInt64 ((r 9) p)), .long (48), .long (57)]) (rest := []) (c_X6_in l θ _ (Int32.toInt64 ((r 9) p)) (48) (57)) gX6_takeNumber_X6_in rfl 3 (by decide +kernel) (by decide) (by decide) rfl rfl (Nat.le_of_ble_eq_true rfl) dX6_takeNumber_69 ?_
      rintro _ _ ⟨rfl, rfl⟩
      refine z_top (v' := .int (bI (m_in (Int32.toInt64 ((r 9) p)) (48) (57)))) rfl ?_
      refine z_if_eqB C 129 dX6_takeNumber_72 (by decide) (fun h72t_4 => ?_) (fun h72n_4 => ?_)
      · have hq : nE (r 9) (n 10) (n 12) = p := hinv42.1.symm.trans (scan_stop (c := fun q => dgt (r 9 q)) (L := n 10) (p := p) (by simp [dgt, h72t_4]))
        have hnl : m_num (r 9) (ph1) (p - ph1) ≤ 100009 := m_num_le _ _ _ (fun i hi => hinv42.2.2 _ (by omega) (by omega))
        refine z_aload_n C dX6_takeNumber_129 rfl (show zlk _ 0 = some (.ref (ad 0)) from rfl) ?_
        refine z_mg C hin 12 (by decide) (by decide +kernel) (v := .int (nI p)) mfv_12 dX6_takeNumber_130 ?_
        refine z_aload_n C dX6_takeNumber_133 rfl (show zlk _ 0 = some (.ref (ad 0)) from rfl) ?_
        refine z_mg C hin 14 (by decide) (by decide +kernel) (v := .int (nI ph1)) mfv_14 dX6_takeNumber_134 ?_
        refine z_isubN C dX6_takeNumber_137 (by omega) ?_
        refine z_iconst C (v := nI 3) dX6_takeNumber_138 (by decide) ?_
        refine z_icmp_gtN C 157 dX6_takeNumber_139 (by decide) (by omega) (by omega) (fun h139t_5 => ?_) (fun h139n_5 => ?_)
        · refine z_aload_n C dX6_takeNumber_157 rfl (show zlk _ 0 = some (.ref (ad 0)) from rfl) ?_
          refine z_iconst C (v := nI 2) dX6_takeNumber_158 (by decide) ?_
          refine z_aload_n C dX6_takeNumber_159 rfl (show zlk _ 0 = some (.ref (ad 0)) from rfl) ?_
          refine z_mg C hin 14 (by decide) (by decide +kernel) (v := .int (nI ph1)) mfv_14 dX6_takeNumber_160 ?_
          refine z_callVi C (As := [.int (nI 2), .int (nI ph1)]) (rest := []) (c_X6_fails l θ ad (nv (n 0) (n 1) (n 3) (n 5) (n 8) (n 10) p (m_num (r 9) (ph1) (p - ph1)) ph1 (n 15) (n 16) (n 18) (n 20) (n 22) (n 27)) g r 2 ph1) gX6_takeNumber_X6_fails rfl 2 (by decide +kernel) (by decide) (by decide) 0 rfl rfl rfl rfl rfl (Nat.le_of_ble_eq_true rfl) dX6_takeNumber_163 ?_
          rintro _ _ ⟨rfl, rfl⟩
          refine z_top (v' := .int (nI 2)) rfl ?_
          refine z_X (Y := MW θ ad (nv (n 0) (n 1) (n 3) (n 5) (n 8) (n 10) p (m_num (r 9) (ph1) (p - ph1)) ph1 (n 15) (n 16) (n 18) (n 20) (n 22) (n 27)) (nI ph1) r) (mw_eq rfl rfl rfl rfl rfl rfl rfl rfl rfl rfl rfl rfl rfl rfl rfl rfl rfl rfl rfl rfl rfl rfl rfl rfl rfl rfl rfl rfl rfl rfl rfl rfl) ?_
          refine z_goto C 170 dX6_takeNumber_166 (by decide) ?_
          exact E _ _ _ _ (⟨_, _, _, eh1, rfl, by rw [nV, hq, ← eh1], Or.inr (Or.inl ⟨hok, by unfold nBad nV; rw [hq, ← eh1]; exact Or.inl h139t_5, rfl, by rw [hq]; exact (mw_eq rfl rfl rfl rfl rfl rfl rfl rfl rfl rfl rfl rfl rfl rfl rfl rfl rfl rfl rfl rfl rfl rfl rfl rfl rfl rfl rfl rfl rfl rfl rfl rfl)⟩)⟩) (rfl) dX6_takeNumber_170
        · refine z_aload_n C dX6_takeNumber_142 rfl (show zlk _ 0 = some (.ref (ad 0)) from rfl) ?_
          refine z_mg C hin 13 (by decide) (by decide +kernel) (v := .int (nI (m_num (r 9) (ph1) (p - ph1)))) mfv_13 dX6_takeNumber_143 ?_
          refine z_i2l C dX6_takeNumber_146 ?_
          refine z_iload_n C dX6_takeNumber_147 rfl (show zlk _ 1 = some (.int (nI lo)) from rfl) ?_
          refine z_i2l C dX6_takeNumber_148 ?_
          refine z_iload_n C dX6_takeNumber_149 rfl (show zlk _ 2 = some (.int (nI hi)) from rfl) ?_
          refine z_i2l C dX6_takeNumber_150 ?_
          refine z_callSi C (As := [.long (Int32.toInt64 (nI (m_num (r 9) (ph1) (p - ph1)))), .long (Int32.toInt64 (nI lo)), .long (Int32.toInt64 (nI hi))]) (rest := []) (c_X6_in l θ _ (Int32.toInt64 (nI (m_num (r 9) (ph1) (p - ph1)))) (Int32.toInt64 (nI lo)) (Int32.toInt64 (nI hi))) gX6_takeNumber_X6_in rfl 3 (by decide +kernel) (by decide) (by decide) rfl rfl (Nat.le_of_ble_eq_true rfl) dX6_takeNumber_151 ?_
          rintro _ _ ⟨rfl, rfl⟩
          refine z_top (v' := .int (bI (m_in (Int32.toInt64 (nI (m_num (r 9) (ph1) (p - ph1)))) (Int32.toInt64 (nI lo)) (Int32.toInt64 (nI hi))))) rfl ?_
          refine z_if_neB C 169 dX6_takeNumber_154 (by decide) (fun h154t_6 => ?_) (fun h154n_6 => ?_)
          · refine z_iconst C (v := nI 0) dX6_takeNumber_169 (by decide) ?_
            exact E _ _ _ _ (⟨_, _, _, eh1, rfl, by rw [nV, hq, ← eh1], Or.inr (Or.inr ⟨hok, by unfold nBad nV; rw [hq, ← eh1]; exact nGood_of (by omega) hlo hhi hnl h154t_6, rfl, by rw [hq]; exact (mw_eq rfl rfl rfl rfl rfl rfl rfl rfl rfl rfl rfl rfl rfl rfl rfl rfl rfl rfl rfl rfl rfl rfl rfl rfl rfl rfl rfl rfl rfl rfl rfl rfl)⟩)⟩) (rfl) dX6_takeNumber_170
          · refine z_aload_n C dX6_takeNumber_157 rfl (show zlk _ 0 = some (.ref (ad 0)) from rfl) ?_
            refine z_iconst C (v := nI 2) dX6_takeNumber_158 (by decide) ?_
            refine z_aload_n C dX6_takeNumber_159 rfl (show zlk _ 0 = some (.ref (ad 0)) from rfl) ?_
            refine z_mg C hin 14 (by decide) (by decide +kernel) (v := .int (nI ph1)) mfv_14 dX6_takeNumber_160 ?_
            refine z_callVi C (As := [.int (nI 2), .int (nI ph1)]) (rest := []) (c_X6_fails l θ ad (nv (n 0) (n 1) (n 3) (n 5) (n 8) (n 10) p (m_num (r 9) (ph1) (p - ph1)) ph1 (n 15) (n 16) (n 18) (n 20) (n 22) (n 27)) g r 2 ph1) gX6_takeNumber_X6_fails rfl 2 (by decide +kernel) (by decide) (by decide) 0 rfl rfl rfl rfl rfl (Nat.le_of_ble_eq_true rfl) dX6_takeNumber_163 ?_
            rintro _ _ ⟨rfl, rfl⟩
            refine z_top (v' := .int (nI 2)) rfl ?_
            refine z_X (Y := MW θ ad (nv (n 0) (n 1) (n 3) (n 5) (n 8) (n 10) p (m_num (r 9) (ph1) (p - ph1)) ph1 (n 15) (n 16) (n 18) (n 20) (n 22) (n 27)) (nI ph1) r) (mw_eq rfl rfl rfl rfl rfl rfl rfl rfl rfl rfl rfl rfl rfl rfl rfl rfl rfl rfl rfl rfl rfl rfl rfl rfl rfl rfl rfl rfl rfl rfl rfl rfl) ?_
            refine z_goto C 170 dX6_takeNumber_166 (by decide) ?_
            exact E _ _ _ _ (⟨_, _, _, eh1, rfl, by rw [nV, hq, ← eh1], Or.inr (Or.inl ⟨hok, by unfold nBad nV; rw [hq, ← eh1]; exact nBad_of (by omega) hlo hhi hnl h154n_6, rfl, by rw [hq]; exact (mw_eq rfl rfl rfl rfl rfl rfl rfl rfl rfl rfl rfl rfl rfl rfl rfl rfl rfl rfl rfl rfl rfl rfl rfl rfl rfl rfl rfl rfl rfl rfl rfl rfl)⟩)⟩) (rfl) dX6_takeNumber_170
      · refine z_aload_n C dX6_takeNumber_75 rfl (show zlk _ 0 = some (.ref (ad 0)) from rfl) ?_
        refine z_aload_n C dX6_takeNumber_76 rfl (show zlk _ 0 = some (.ref (ad 0)) from rfl) ?_
        refine z_mg C hin 13 (by decide) (by decide +kernel) (v := .int (nI (m_num (r 9) (ph1) (p - ph1)))) mfv_13 dX6_takeNumber_77 ?_
        refine z_sipush C (v := nI 10000) dX6_takeNumber_80 (by decide) ?_
        refine z_icmp_leN C 93 dX6_takeNumber_83 (by decide) (by have : m_num (r 9) (ph1) (p - ph1) ≤ 100009 := m_num_le _ _ _ (fun i hi => hinv42.2.2 _ (by omega) (by omega)); omega) (by omega) (fun h83t_7 => ?_) (fun h83n_7 => ?_)
        · refine z_bipush C (v := nI 10) dX6_takeNumber_93 (by decide) ?_
          refine z_aload_n C dX6_takeNumber_95 rfl (show zlk _ 0 = some (.ref (ad 0)) from rfl) ?_
          refine z_mg C hin 13 (by decide) (by decide +kernel) (v := .int (nI (m_num (r 9) (ph1) (p - ph1)))) mfv_13 dX6_takeNumber_96 ?_
          refine z_imulN C dX6_takeNumber_99 ?_
          refine z_aload_n C dX6_takeNumber_100 rfl (show zlk _ 0 = some (.ref (ad 0)) from rfl) ?_
          refine z_mg C hin 9 (by decide) (by decide +kernel) (v := .ref (ad 9)) mf_9 dX6_takeNumber_101 ?_
          refine z_aload_n C dX6_takeNumber_104 rfl (show zlk _ 0 = some (.ref (ad 0)) from rfl) ?_
          refine z_mg C hin 12 (by decide) (by decide +kernel) (v := .int (nI p)) mfv_12 dX6_takeNumber_105 ?_
          refine z_iald C (f := (r 9)) 5 mr_9 p rfl (by omega) (by decide) dX6_takeNumber_108 ?_
          refine z_iadd C dX6_takeNumber_109 ?_
          refine z_bipush C (v := nI 48) dX6_takeNumber_110 (by decide) ?_
          refine z_isub C dX6_takeNumber_112 ?_
          refine z_top (v' := .int (nI (m_num (r 9) (ph1) (p + 1 - ph1)))) (by rw [show p + 1 - ph1 = (p - ph1) + 1 by omega]; simp only [m_num]; rw [if_pos h83t_7, show ph1 + (p - ph1) = p by omega]; exact congrArg Value.int (dig_add _ h72n_4)) ?_
          refine z_mp C hin 13 (by decide) (by decide +kernel) rfl rfl mpv_13 dX6_takeNumber_113 ?_
          refine z_aload_n C dX6_takeNumber_116 rfl (show zlk _ 0 = some (.ref (ad 0)) from rfl) ?_
          refine z_dup C dX6_takeNumber_117 rfl ?_
          refine z_mg C hin 12 (by decide) (by decide +kernel) (v := .int (nI p)) mfv_12 dX6_takeNumber_118 ?_
          refine z_iconst C (v := nI 1) dX6_takeNumber_121 (by decide) ?_
          refine z_iaddN C dX6_takeNumber_122 ?_
          refine z_mp C hin 12 (by decide) (by decide +kernel) rfl rfl mpv_12 dX6_takeNumber_123 ?_
          refine z_goto C 42 dX6_takeNumber_126 (by decide) ?_
          exact z_to (ih42 (⟨by rw [← hinv42.1]; exact (scan_step (c := fun q => dgt (r 9 q)) (by omega) h72n_4).symm, by omega, fun q q1 q2 => by by_cases e : q = p; exact e ▸ h72n_4; exact hinv42.2.2 q q1 (by omega)⟩)) ((mw_eq rfl rfl rfl rfl rfl rfl rfl rfl rfl rfl rfl rfl rfl rfl rfl rfl rfl rfl rfl rfl rfl rfl rfl rfl rfl rfl rfl rfl rfl rfl rfl rfl)) (rfl)
        · refine z_aload_n C dX6_takeNumber_86 rfl (show zlk _ 0 = some (.ref (ad 0)) from rfl) ?_
          refine z_mg C hin 13 (by decide) (by decide +kernel) (v := .int (nI (m_num (r 9) (ph1) (p - ph1)))) mfv_13 dX6_takeNumber_87 ?_
          refine z_goto C 113 dX6_takeNumber_90 (by decide) ?_
          refine z_top (v' := .int (nI (m_num (r 9) (ph1) (p + 1 - ph1)))) (by rw [show p + 1 - ph1 = (p - ph1) + 1 by omega]; simp only [m_num]; rw [if_neg h83n_7]) ?_
          refine z_mp C hin 13 (by decide) (by decide +kernel) rfl rfl mpv_13 dX6_takeNumber_113 ?_
          refine z_aload_n C dX6_takeNumber_116 rfl (show zlk _ 0 = some (.ref (ad 0)) from rfl) ?_
          refine z_dup C dX6_takeNumber_117 rfl ?_
          refine z_mg C hin 12 (by decide) (by decide +kernel) (v := .int (nI p)) mfv_12 dX6_takeNumber_118 ?_
          refine z_iconst C (v := nI 1) dX6_takeNumber_121 (by decide) ?_
          refine z_iaddN C dX6_takeNumber_122 ?_
          refine z_mp C hin 12 (by decide) (by decide +kernel) rfl rfl mpv_12 dX6_takeNumber_123 ?_
          refine z_goto C 42 dX6_takeNumber_126 (by decide) ?_
          exact z_to (ih42 (⟨by rw [← hinv42.1]; exact (scan_step (c := fun q => dgt (r 9 q)) (by omega) h72n_4).symm, by omega, fun q q1 q2 => by by_cases e : q = p; exact e ▸ h72n_4; exact hinv42.2.2 q q1 (by omega)⟩)) ((mw_eq rfl rfl rfl rfl rfl rfl rfl rfl rfl rfl rfl rfl rfl rfl rfl rfl rfl rfl rfl rfl rfl rfl rfl rfl rfl rfl rfl rfl rfl rfl rfl rfl)) (rfl)
  · refine z_aload_n C dX6_takeNumber_19 rfl (show zlk _ 0 = some (.ref (ad 0)) from rfl) ?_
    refine z_iconst C (v := nI 1) dX6_takeNumber_20 (by decide) ?_
    refine z_aload_n C dX6_takeNumber_21 rfl (show zlk _ 0 = some (.ref (ad 0)) from rfl) ?_
    refine z_mg C hin 12 (by decide) (by decide +kernel) (v := .int (nI ph1)) mfv_12 dX6_takeNumber_22 ?_
    refine z_callVi C (As := [.int (nI 1), .int (nI ph1)]) (rest := []) (c_X6_fails l θ ad (nv (n 0) (n 1) (n 3) (n 5) (n 8) (n 10) ph1 (n 13) (n 14) (n 15) (n 16) (n 18) (n 20) (n 22) (n 27)) g r 1 ph1) gX6_takeNumber_X6_fails rfl 2 (by decide +kernel) (by decide) (by decide) 0 rfl rfl rfl rfl rfl (Nat.le_of_ble_eq_true rfl) dX6_takeNumber_25 ?_
    rintro _ _ ⟨rfl, rfl⟩
    refine z_top (v' := .int (nI 1)) rfl ?_
    refine z_X (Y := MW θ ad (nv (n 0) (n 1) (n 3) (n 5) (n 8) (n 10) ph1 (n 13) (n 14) (n 15) (n 16) (n 18) (n 20) (n 22) (n 27)) (nI ph1) r) (mw_eq rfl rfl rfl rfl rfl rfl rfl rfl rfl rfl rfl rfl rfl rfl rfl rfl rfl rfl rfl rfl rfl rfl rfl rfl rfl rfl rfl rfl rfl rfl rfl rfl) ?_
    exact E _ _ _ _ (⟨_, _, _, eh1, rfl, rfl, Or.inl ⟨by unfold nOk; rw [← eh1]; exact h16n_1, rfl, (mw_eq rfl rfl rfl rfl rfl rfl rfl rfl rfl rfl rfl rfl rfl rfl rfl rfl rfl rfl rfl rfl rfl rfl rfl rfl rfl rfl rfl rfl rfl rfl rfl rfl)⟩⟩) (rfl) dX6_takeNumber_28
end
section
/-- what a reading of a text leaves behind that nobody sees -/
def mJ (n n1 : Nat → Nat) (r r1 : Nat → Nat → Int32) : Prop := n1 0 = n 0 ∧ n1 1 = n 1 ∧ n1 3 = n 3 ∧ n1 5 = n 5 ∧ n1 8 = n 8 ∧ n1 10 = n 10 ∧ n1 22 = n 22 ∧ n1 27 = n 27 ∧ r1 2 = r 2 ∧ r1 4 = r 4 ∧ r1 6 = r 6 ∧ r1 7 = r 7 ∧ r1 9 = r 9 ∧ r1 23 = r 23 ∧ r1 24 = r 24 ∧ r1 25 = r 25 ∧ r1 26 = r 26 ∧ r1 28 = r 28 ∧ r1 29 = r 29 ∧ r1 30 = r 30 ∧ r1 31 = r 31 ∧ r1 32 = r 32
theorem mJ_of {θ : zH} {ad : Nat → Nat} {n n1 : Nat → Nat} {r r1 : Nat → Nat → Int32} {g : Int32} (h0 : n1 0 = n 0) (h1 : n1 1 = n 1) (h3 : n1 3 = n 3) (h5 : n1 5 = n 5) (h8 : n1 8 = n 8) (h10 : n1 10 = n 10) (h22 : n1 22 = n 22) (h27 : n1 27 = n 27) (k2 : r1 2 = r 2) (k4 : r1 4 = r 4) (k6 : r1 6 = r 6) (k7 : r1 7 = r 7) (k9 : r1 9 = r 9) (k23 : r1 23 = r 23) (k24 : r1 24 = r 24) (k25 : r1 25 = r 25) (k26 : r1 26 = r 26) (k28 : r1 28 = r 28) (k29 : r1 29 = r 29) (k30 : r1 30 = r 30) (k31 : r1 31 = r 31) (k32 : r1 32 = r 32) : ∃ n2 r2, mJ n n2 r r2 ∧ MW θ ad n1 g r1 = MW θ ad n2 g r2 := ⟨n1, r1, ⟨h0, h1, h3, h5, h8, h10, h22, h27, k2, k4, k6, k7, k9, k23, k24, k25, k26, k28, k29, k30, k31, k32⟩, rfl⟩
/-- the fault of a number at p, and of a sign: its kind (0: none), its place -/
def nF (f : Nat → Int32) (L p lo hi : Nat) : Nat × Nat := if nOk f L p = false then (1, sk f L p) else if 3 < nE f L p - sk f L p ∨ nV f L p < lo ∨ hi < nV f L p then (2, sk f L p) else (0, 0)
def sF (f : Nat → Int32) (L p : Nat) (c : Int32) : Nat × Nat := if m_hr f L (sk f L p) = c then (0, 0) else (1, sk f L p)
/-- where row i's number begins; the rows' fault; the rows' dots -/
def rwq (f : Nat → Int32) (L p : Nat) : Nat → Nat
  | 0 => p
  | i + 1 => sk f L (nE f L (rwq f L p i)) + 1
def rF (f : Nat → Int32) (L p : Nat) : Nat → Nat × Nat
  | 0 => (0, 0)
  | 1 => nF f L p 0 63
  | i + 2 => if (rF f L p (i + 1)).1 = 0 then (if (sF f L (nE f L (rwq f L p i)) (nI 44)).1 = 0 then nF f L (rwq f L p (i + 1)) 0 63 else sF f L (nE f L (rwq f L p i)) (nI 44)) else rF f L p (i + 1)
def rS (f : Nat → Int32) (L p : Nat) : Nat → Int32
  | 0 => nI 0
  | i + 1 => rS f L p i ||| (nI (nV f L (rwq f L p i)) <<< (nI (6 * i) &&& 31))
theorem nE_le {f : Nat → Int32} {L p : Nat} (h : p ≤ L) : p ≤ nE f L p ∧ nE f L p ≤ L := by
  have h1 := sk_le (f := f) h
  have h2 := dE_le (f := f) h1.2
  unfold nE
  omega
theorem hr_lt {f : Nat → Int32} {L p : Nat} {c : Int32} (h : m_hr f L p = c) (hc : ¬ c = (-1)) : p < L := by
  unfold m_hr at h
  by_cases e : p < L
  · exact e
  · rw [if_neg e] at h; exact absurd h.symm hc
theorem nF_le (f : Nat → Int32) (L p lo hi : Nat) : (nF f L p lo hi).1 ≤ 2 := by
  unfold nF; split <;> (try split) <;> simp
theorem rF_le (f : Nat → Int32) (L p : Nat) : ∀ i, (rF f L p i).1 ≤ 2
  | 0 => by simp [rF]
  | 1 => nF_le _ _ _ _ _
  | i + 2 => by
    have h1 := rF_le f L p (i + 1)
    unfold rF
    split
    · split
      · exact nF_le _ _ _ _ _
      · unfold sF; split <;> simp
    · exact h1
theorem nF_A {f : Nat → Int32} {L p lo hi : Nat} (h : nOk f L p = false) : nF f L p lo hi = (1, sk f L p) := by unfold nF; rw [if_pos h]
theorem nF_B {f : Nat → Int32} {L p lo hi : Nat} (h : nOk f L p = true) (hb : nBad f L p lo hi) : nF f L p lo hi = (2, sk f L p) := by unfold nF; rw [if_neg (by rw [h]; decide)]; exact if_pos hb
theorem nF_C {f : Nat → Int32} {L p lo hi : Nat} (h : nOk f L p = true) (hb : ¬ nBad f L p lo hi) : nF f L p lo hi = (0, 0) := by unfold nF; rw [if_neg (by rw [h]; decide)]; exact if_neg hb
set_option maxHeartbeats 4000000 in
set_option maxRecDepth 100000 in
theorem c_X6_takeGnats (l : Launch) (θ : zH) (ad : Nat → Nat) (n : Nat → Nat) (g : Int32) (r : Nat → Nat → Int32)  (hp : n 12 ≤ n 10) (hL : n 10 ≤ 240)  : cI l yX6_takeGnats wsX6_takeGnats 2 θ [.ref (ad 0)] (MW θ ad n g r) (fun r0 Y => (¬ (nF (r 9) (n 10) (n 12) 1 30).1 = 0 ∧ r0 = nI (nF (r 9) (n 10) (n 12) 1 30).1 ∧ ∃ n1 r1, mJ n n1 r r1 ∧ Y = MW θ ad n1 (nI (nF (r 9) (n 10) (n 12) 1 30).2) r1) ∨ ((nF (r 9) (n 10) (n 12) 1 30).1 = 0 ∧ r0 = nI 0 ∧ ∃ p1 p2 v, p2 = nE (r 9) (n 10) (n 12) ∧ v = nV (r 9) (n 10) (n 12) ∧ Y = MW θ ad (nv (n 0) (n 1) (n 3) (n 5) (n 8) (n 10) p2 v p1 v (n 16) (n 18) (n 20) (n 22) (n 27)) g r)) := by
  refine z_cI (by decide) rfl rfl (Nat.le_of_ble_eq_true rfl) (lv := [(0, .ref (ad 0))]) rfl (fun κ C E => ?_)
  have hin : ∀ w ∈ wsX60, w ∈ wsX6_takeGnats := by decide +kernel
  refine z_aload_n C dX6_takeGnats_0 rfl (show zlk _ 0 = some (.ref (ad 0)) from rfl) ?_
  refine z_iconst C (v := nI 1) dX6_takeGnats_1 (by decide) ?_
  refine z_bipush C (v := nI 30) dX6_takeGnats_2 (by decide) ?_
  refine z_callVi C (As := [.int (nI 1), .int (nI 30)]) (rest := []) (c_X6_takeNumber l θ ad n g r 1 30 (show n 12 ≤ n 10 by omega) (hL) (by decide) (by decide)) gX6_takeGnats_X6_takeNumber rfl 2 (by decide +kernel) (by decide) (by decide) 0 rfl rfl rfl rfl rfl (Nat.le_of_ble_eq_true rfl) dX6_takeGnats_4 ?_
  rintro _ _ ⟨pa1, pb1, vv1, ea1, eb1, ev1, (⟨hA1, rfl, rfl⟩ | ⟨hA1, hB1, rfl, rfl⟩ | ⟨hA1, hB1, rfl, rfl⟩)⟩
  · replace ea1 : pa1 = sk (r 9) (n 10) (n 12) := ea1
    replace eb1 : pb1 = nE (r 9) (n 10) (n 12) := eb1
    replace ev1 : vv1 = nV (r 9) (n 10) (n 12) := ev1
    replace hA1 : nOk (r 9) (n 10) (n 12) = false := hA1
    refine z_X (Y := MW θ ad (nv (n 0) (n 1) (n 3) (n 5) (n 8) (n 10) pa1 (n 13) (n 14) (n 15) (n 16) (n 18) (n 20) (n 22) (n 27)) (nI pa1) r) (mw_eq rfl rfl rfl rfl rfl rfl rfl rfl rfl rfl rfl rfl rfl rfl rfl rfl rfl rfl rfl rfl rfl rfl rfl rfl rfl rfl rfl rfl rfl rfl rfl rfl) ?_
    refine z_istore_n C [(1, .int (nI 1)), (0, .ref (ad 0))] dX6_takeGnats_7 rfl (by decide) rfl ?_
    refine z_aload_n C dX6_takeGnats_8 rfl (show zlk _ 0 = some (.ref (ad 0)) from rfl) ?_
    refine z_aload_n C dX6_takeGnats_9 rfl (show zlk _ 0 = some (.ref (ad 0)) from rfl) ?_
    refine z_mg C hin 13 (by decide) (by decide +kernel) (v := .int (nI (n 13))) mfv_13 dX6_takeGnats_10 ?_
    refine z_mp C hin 15 (by decide) (by decide +kernel) rfl rfl mpv_15 dX6_takeGnats_13 ?_
    refine z_iload_n C dX6_takeGnats_16 rfl (show zlk _ 1 = some (.int (nI 1)) from rfl) ?_
    exact E _ _ _ _ (Or.inl (by rw [nF_A (lo := 1) (hi := 30) hA1, ← ea1]; exact ⟨by simp, rfl, mJ_of rfl rfl rfl rfl rfl rfl rfl rfl rfl rfl rfl rfl rfl rfl rfl rfl rfl rfl rfl rfl rfl rfl⟩)) (rfl) dX6_takeGnats_17
  · replace ea1 : pa1 = sk (r 9) (n 10) (n 12) := ea1
    replace eb1 : pb1 = nE (r 9) (n 10) (n 12) := eb1
    replace ev1 : vv1 = nV (r 9) (n 10) (n 12) := ev1
    replace hA1 : nOk (r 9) (n 10) (n 12) = true := hA1
    replace hB1 : nBad (r 9) (n 10) (n 12) 1 30 := hB1
    refine z_X (Y := MW θ ad (nv (n 0) (n 1) (n 3) (n 5) (n 8) (n 10) pb1 vv1 pa1 (n 15) (n 16) (n 18) (n 20) (n 22) (n 27)) (nI pa1) r) (mw_eq rfl rfl rfl rfl rfl rfl rfl rfl rfl rfl rfl rfl rfl rfl rfl rfl rfl rfl rfl rfl rfl rfl rfl rfl rfl rfl rfl rfl rfl rfl rfl rfl) ?_
    refine z_istore_n C [(1, .int (nI 2)), (0, .ref (ad 0))] dX6_takeGnats_7 rfl (by decide) rfl ?_
    refine z_aload_n C dX6_takeGnats_8 rfl (show zlk _ 0 = some (.ref (ad 0)) from rfl) ?_
    refine z_aload_n C dX6_takeGnats_9 rfl (show zlk _ 0 = some (.ref (ad 0)) from rfl) ?_
    refine z_mg C hin 13 (by decide) (by decide +kernel) (v := .int (nI vv1)) mfv_13 dX6_takeGnats_10 ?_
    refine z_mp C hin 15 (by decide) (by decide +kernel) rfl rfl mpv_15 dX6_takeGnats_13 ?_
    refine z_iload_n C dX6_takeGnats_16 rfl (show zlk _ 1 = some (.int (nI 2)) from rfl) ?_
    exact E _ _ _ _ (Or.inl (by rw [nF_B (lo := 1) (hi := 30) hA1 hB1, ← ea1]; exact ⟨by simp, rfl, mJ_of rfl rfl rfl rfl rfl rfl rfl rfl rfl rfl rfl rfl rfl rfl rfl rfl rfl rfl rfl rfl rfl rfl⟩)) (rfl) dX6_takeGnats_17
  · replace ea1 : pa1 = sk (r 9) (n 10) (n 12) := ea1
    replace eb1 : pb1 = nE (r 9) (n 10) (n 12) := eb1
    replace ev1 : vv1 = nV (r 9) (n 10) (n 12) := ev1
    replace hA1 : nOk (r 9) (n 10) (n 12) = true := hA1
    replace hB1 : ¬ nBad (r 9) (n 10) (n 12) 1 30 := hB1
    have lb1 : pb1 ≤ n 10 := by rw [eb1]; exact (nE_le (show n 12 ≤ n 10 by omega)).2
    refine z_X (Y := MW θ ad (nv (n 0) (n 1) (n 3) (n 5) (n 8) (n 10) pb1 vv1 pa1 (n 15) (n 16) (n 18) (n 20) (n 22) (n 27)) g r) (mw_eq rfl rfl rfl rfl rfl rfl rfl rfl rfl rfl rfl rfl rfl rfl rfl rfl rfl rfl rfl rfl rfl rfl rfl rfl rfl rfl rfl rfl rfl rfl rfl rfl) ?_
    refine z_istore_n C [(1, .int (nI 0)), (0, .ref (ad 0))] dX6_takeGnats_7 rfl (by decide) rfl ?_
    refine z_aload_n C dX6_takeGnats_8 rfl (show zlk _ 0 = some (.ref (ad 0)) from rfl) ?_
    refine z_aload_n C dX6_takeGnats_9 rfl (show zlk _ 0 = some (.ref (ad 0)) from rfl) ?_
    refine z_mg C hin 13 (by decide) (by decide +kernel) (v := .int (nI vv1)) mfv_13 dX6_takeGnats_10 ?_
    refine z_mp C hin 15 (by decide) (by decide +kernel) rfl rfl mpv_15 dX6_takeGnats_13 ?_
    refine z_iload_n C dX6_takeGnats_16 rfl (show zlk _ 1 = some (.int (nI 0)) from rfl) ?_
    exact E _ _ _ _ (Or.inr ⟨by rw [nF_C (lo := 1) (hi := 30) hA1 hB1], rfl, _, _, _, eb1, ev1, (mw_eq rfl rfl rfl rfl rfl rfl rfl rfl rfl rfl rfl rfl rfl rfl rfl rfl rfl rfl rfl rfl rfl rfl rfl rfl rfl rfl rfl rfl rfl rfl rfl rfl)⟩) (rfl) dX6_takeGnats_17

set_option maxHeartbeats 4000000 in
set_option maxRecDepth 100000 in
theorem c_X6_takeWindow (l : Launch) (θ : zH) (ad : Nat → Nat) (n : Nat → Nat) (g : Int32) (r : Nat → Nat → Int32)  (hp : n 12 ≤ n 10) (hL : n 10 ≤ 240) (hc : n 18 < 5) : cI l yX6_takeWindow wsX6_takeWindow 2 θ [.ref (ad 0)] (MW θ ad n g r) (fun r0 Y => (¬ (nF (r 9) (n 10) (n 12) 0 5).1 = 0 ∧ r0 = nI (nF (r 9) (n 10) (n 12) 0 5).1 ∧ ∃ n1 r1, mJ n n1 r r1 ∧ Y = MW θ ad n1 (nI (nF (r 9) (n 10) (n 12) 0 5).2) r1) ∨ ((nF (r 9) (n 10) (n 12) 0 5).1 = 0 ∧ r0 = nI 0 ∧ ∃ p1 p2 v, p2 = nE (r 9) (n 10) (n 12) ∧ v = nV (r 9) (n 10) (n 12) ∧ Y = MW θ ad (nv (n 0) (n 1) (n 3) (n 5) (n 8) (n 10) p2 v p1 (n 15) (n 16) (n 18 + 1) (n 20) (n 22) (n 27)) g (rv (r 2) (r 4) (r 6) (r 7) (r 9) (r 17) (upd (r 19) (n 18) (nI v)) (r 21) (r 23) (r 24) (r 25) (r 26) (r 28) (r 29) (r 30) (r 31) (r 32)))) := by
  refine z_cI (by decide) rfl rfl (Nat.le_of_ble_eq_true rfl) (lv := [(0, .ref (ad 0))]) rfl (fun κ C E => ?_)
  have hin : ∀ w ∈ wsX60, w ∈ wsX6_takeWindow := by decide +kernel
  refine z_aload_n C dX6_takeWindow_0 rfl (show zlk _ 0 = some (.ref (ad 0)) from rfl) ?_
  refine z_iconst C (v := nI 0) dX6_takeWindow_1 (by decide) ?_
  refine z_iconst C (v := nI 5) dX6_takeWindow_2 (by decide) ?_
  refine z_callVi C (As := [.int (nI 0), .int (nI 5)]) (rest := []) (c_X6_takeNumber l θ ad n g r 0 5 (show n 12 ≤ n 10 by omega) (hL) (by decide) (by decide)) gX6_takeWindow_X6_takeNumber rfl 2 (by decide +kernel) (by decide) (by decide) 0 rfl rfl rfl rfl rfl (Nat.le_of_ble_eq_true rfl) dX6_takeWindow_3 ?_
  rintro _ _ ⟨pa2, pb2, vv2, ea2, eb2, ev2, (⟨hA2, rfl, rfl⟩ | ⟨hA2, hB2, rfl, rfl⟩ | ⟨hA2, hB2, rfl, rfl⟩)⟩
  · replace ea2 : pa2 = sk (r 9) (n 10) (n 12) := ea2
    replace eb2 : pb2 = nE (r 9) (n 10) (n 12) := eb2
    replace ev2 : vv2 = nV (r 9) (n 10) (n 12) := ev2
    replace hA2 : nOk (r 9) (n 10) (n 12) = false := hA2
    refine z_X (Y := MW θ ad (nv (n 0) (n 1) (n 3) (n 5) (n 8) (n 10) pa2 (n 13) (n 14) (n 15) (n 16) (n 18) (n 20) (n 22) (n 27)) (nI pa2) r) (mw_eq rfl rfl rfl rfl rfl rfl rfl rfl rfl rfl rfl rfl rfl rfl rfl rfl rfl rfl rfl rfl rfl rfl rfl rfl rfl rfl rfl rfl rfl rfl rfl rfl) ?_
    refine z_istore_n C [(1, .int (nI 1)), (0, .ref (ad 0))] dX6_takeWindow_6 rfl (by decide) rfl ?_
    refine z_aload_n C dX6_takeWindow_7 rfl (show zlk _ 0 = some (.ref (ad 0)) from rfl) ?_
    refine z_mg C hin 19 (by decide) (by decide +kernel) (v := .ref (ad 19)) mf_19 dX6_takeWindow_8 ?_
    refine z_aload_n C dX6_takeWindow_11 rfl (show zlk _ 0 = some (.ref (ad 0)) from rfl) ?_
    refine z_mg C hin 18 (by decide) (by decide +kernel) (v := .int (nI (n 18))) mfv_18 dX6_takeWindow_12 ?_
    refine z_aload_n C dX6_takeWindow_15 rfl (show zlk _ 0 = some (.ref (ad 0)) from rfl) ?_
    refine z_mg C hin 13 (by decide) (by decide +kernel) (v := .int (nI (n 13))) mfv_13 dX6_takeWindow_16 ?_
    refine z_iast C (f := (r 19)) 7 mr_19 (n 18) rfl (by omega) (by decide) _ msn_19 dX6_takeWindow_19 ?_
    refine z_aload_n C dX6_takeWindow_20 rfl (show zlk _ 0 = some (.ref (ad 0)) from rfl) ?_
    refine z_dup C dX6_takeWindow_21 rfl ?_
    refine z_mg C hin 18 (by decide) (by decide +kernel) (v := .int (nI (n 18))) mfv_18 dX6_takeWindow_22 ?_
    refine z_iconst C (v := nI 1) dX6_takeWindow_25 (by decide) ?_
    refine z_iaddN C dX6_takeWindow_26 ?_
    refine z_mp C hin 18 (by decide) (by decide +kernel) rfl rfl mpv_18 dX6_takeWindow_27 ?_
    refine z_iload_n C dX6_takeWindow_30 rfl (show zlk _ 1 = some (.int (nI 1)) from rfl) ?_
    exact E _ _ _ _ (Or.inl (by rw [nF_A (lo := 0) (hi := 5) hA2, ← ea2]; exact ⟨by simp, rfl, mJ_of rfl rfl rfl rfl rfl rfl rfl rfl rfl rfl rfl rfl rfl rfl rfl rfl rfl rfl rfl rfl rfl rfl⟩)) (rfl) dX6_takeWindow_31
  · replace ea2 : pa2 = sk (r 9) (n 10) (n 12) := ea2
    replace eb2 : pb2 = nE (r 9) (n 10) (n 12) := eb2
    replace ev2 : vv2 = nV (r 9) (n 10) (n 12) := ev2
    replace hA2 : nOk (r 9) (n 10) (n 12) = true := hA2
    replace hB2 : nBad (r 9) (n 10) (n 12) 0 5 := hB2
    refine z_X (Y := MW θ ad (nv (n 0) (n 1) (n 3) (n 5) (n 8) (n 10) pb2 vv2 pa2 (n 15) (n 16) (n 18) (n 20) (n 22) (n 27)) (nI pa2) r) (mw_eq rfl rfl rfl rfl rfl rfl rfl rfl rfl rfl rfl rfl rfl rfl rfl rfl rfl rfl rfl rfl rfl rfl rfl rfl rfl rfl rfl rfl rfl rfl rfl rfl) ?_
    refine z_istore_n C [(1, .int (nI 2)), (0, .ref (ad 0))] dX6_takeWindow_6 rfl (by decide) rfl ?_
    refine z_aload_n C dX6_takeWindow_7 rfl (show zlk _ 0 = some (.ref (ad 0)) from rfl) ?_
    refine z_mg C hin 19 (by decide) (by decide +kernel) (v := .ref (ad 19)) mf_19 dX6_takeWindow_8 ?_
    refine z_aload_n C dX6_takeWindow_11 rfl (show zlk _ 0 = some (.ref (ad 0)) from rfl) ?_
    refine z_mg C hin 18 (by decide) (by decide +kernel) (v := .int (nI (n 18))) mfv_18 dX6_takeWindow_12 ?_
    refine z_aload_n C dX6_takeWindow_15 rfl (show zlk _ 0 = some (.ref (ad 0)) from rfl) ?_
    refine z_mg C hin 13 (by decide) (by decide +kernel) (v := .int (nI vv2)) mfv_13 dX6_takeWindow_16 ?_
    refine z_iast C (f := (r 19)) 7 mr_19 (n 18) rfl (by omega) (by decide) _ msn_19 dX6_takeWindow_19 ?_
    refine z_aload_n C dX6_takeWindow_20 rfl (show zlk _ 0 = some (.ref (ad 0)) from rfl) ?_
    refine z_dup C dX6_takeWindow_21 rfl ?_
    refine z_mg C hin 18 (by decide) (by decide +kernel) (v := .int (nI (n 18))) mfv_18 dX6_takeWindow_22 ?_
    refine z_iconst C (v := nI 1) dX6_takeWindow_25 (by decide) ?_
    refine z_iaddN C dX6_takeWindow_26 ?_
    refine z_mp C hin 18 (by decide) (by decide +kernel) rfl rfl mpv_18 dX6_takeWindow_27 ?_
    refine z_iload_n C dX6_takeWindow_30 rfl (show zlk _ 1 = some (.int (nI 2)) from rfl) ?_
    exact E _ _ _ _ (Or.inl (by rw [nF_B (lo := 0) (hi := 5) hA2 hB2, ← ea2]; exact ⟨by simp, rfl, mJ_of rfl rfl rfl rfl rfl rfl rfl rfl rfl rfl rfl rfl rfl rfl rfl rfl rfl rfl rfl rfl rfl rfl⟩)) (rfl) dX6_takeWindow_31
  · replace ea2 : pa2 = sk (r 9) (n 10) (n 12) := ea2
    replace eb2 : pb2 = nE (r 9) (n 10) (n 12) := eb2
    replace ev2 : vv2 = nV (r 9) (n 10) (n 12) := ev2
    replace hA2 : nOk (r 9) (n 10) (n 12) = true := hA2
    replace hB2 : ¬ nBad (r 9) (n 10) (n 12) 0 5 := hB2
    have lb2 : pb2 ≤ n 10 := by rw [eb2]; exact (nE_le (show n 12 ≤ n 10 by omega)).2
    refine z_X (Y := MW θ ad (nv (n 0) (n 1) (n 3) (n 5) (n 8) (n 10) pb2 vv2 pa2 (n 15) (n 16) (n 18) (n 20) (n 22) (n 27)) g r) (mw_eq rfl rfl rfl rfl rfl rfl rfl rfl rfl rfl rfl rfl rfl rfl rfl rfl rfl rfl rfl rfl rfl rfl rfl rfl rfl rfl rfl rfl rfl rfl rfl rfl) ?_
    refine z_istore_n C [(1, .int (nI 0)), (0, .ref (ad 0))] dX6_takeWindow_6 rfl (by decide) rfl ?_
    refine z_aload_n C dX6_takeWindow_7 rfl (show zlk _ 0 = some (.ref (ad 0)) from rfl) ?_
    refine z_mg C hin 19 (by decide) (by decide +kernel) (v := .ref (ad 19)) mf_19 dX6_takeWindow_8 ?_
    refine z_aload_n C dX6_takeWindow_11 rfl (show zlk _ 0 = some (.ref (ad 0)) from rfl) ?_
    refine z_mg C hin 18 (by decide) (by decide +kernel) (v := .int (nI (n 18))) mfv_18 dX6_takeWindow_12 ?_
    refine z_aload_n C dX6_takeWindow_15 rfl (show zlk _ 0 = some (.ref (ad 0)) from rfl) ?_
    refine z_mg C hin 13 (by decide) (by decide +kernel) (v := .int (nI vv2)) mfv_13 dX6_takeWindow_16 ?_
    refine z_iast C (f := (r 19)) 7 mr_19 (n 18) rfl (by omega) (by decide) _ msn_19 dX6_takeWindow_19 ?_
    refine z_aload_n C dX6_takeWindow_20 rfl (show zlk _ 0 = some (.ref (ad 0)) from rfl) ?_
    refine z_dup C dX6_takeWindow_21 rfl ?_
    refine z_mg C hin 18 (by decide) (by decide +kernel) (v := .int (nI (n 18))) mfv_18 dX6_takeWindow_22 ?_
    refine z_iconst C (v := nI 1) dX6_takeWindow_25 (by decide) ?_
    refine z_iaddN C dX6_takeWindow_26 ?_
    refine z_mp C hin 18 (by decide) (by decide +kernel) rfl rfl mpv_18 dX6_takeWindow_27 ?_
    refine z_iload_n C dX6_takeWindow_30 rfl (show zlk _ 1 = some (.int (nI 0)) from rfl) ?_
    exact E _ _ _ _ (Or.inr ⟨by rw [nF_C (lo := 0) (hi := 5) hA2 hB2], rfl, _, _, _, eb2, ev2, (mw_eq rfl rfl rfl rfl rfl rfl rfl rfl rfl rfl rfl rfl rfl rfl rfl rfl rfl rfl rfl rfl rfl rfl rfl rfl rfl rfl rfl rfl rfl rfl rfl rfl)⟩) (rfl) dX6_takeWindow_31

set_option maxHeartbeats 4000000 in
set_option maxRecDepth 100000 in
theorem c_X6_takeCritic (l : Launch) (θ : zH) (ad : Nat → Nat) (n : Nat → Nat) (g : Int32) (r : Nat → Nat → Int32)  (hp : n 12 ≤ n 10) (hL : n 10 ≤ 240) (hc : n 20 < 6) : cI l yX6_takeCritic wsX6_takeCritic 2 θ [.ref (ad 0)] (MW θ ad n g r) (fun r0 Y => (¬ (nF (r 9) (n 10) (n 12) 1 63).1 = 0 ∧ r0 = nI (nF (r 9) (n 10) (n 12) 1 63).1 ∧ ∃ n1 r1, mJ n n1 r r1 ∧ Y = MW θ ad n1 (nI (nF (r 9) (n 10) (n 12) 1 63).2) r1) ∨ ((nF (r 9) (n 10) (n 12) 1 63).1 = 0 ∧ r0 = nI 0 ∧ ∃ p1 p2 v, p2 = nE (r 9) (n 10) (n 12) ∧ v = nV (r 9) (n 10) (n 12) ∧ Y = MW θ ad (nv (n 0) (n 1) (n 3) (n 5) (n 8) (n 10) p2 v p1 (n 15) (n 16) (n 18) (n 20 + 1) (n 22) (n 27)) g (rv (r 2) (r 4) (r 6) (r 7) (r 9) (r 17) (r 19) (upd (r 21) (n 20) (nI v)) (r 23) (r 24) (r 25) (r 26) (r 28) (r 29) (r 30) (r 31) (r 32)))) := by
  refine z_cI (by decide) rfl rfl (Nat.le_of_ble_eq_true rfl) (lv := [(0, .ref (ad 0))]) rfl (fun κ C E => ?_)
  have hin : ∀ w ∈ wsX60, w ∈ wsX6_takeCritic := by decide +kernel
  refine z_aload_n C dX6_takeCritic_0 rfl (show zlk _ 0 = some (.ref (ad 0)) from rfl) ?_
  refine z_iconst C (v := nI 1) dX6_takeCritic_1 (by decide) ?_
  refine z_bipush C (v := nI 63) dX6_takeCritic_2 (by decide) ?_
  refine z_callVi C (As := [.int (nI 1), .int (nI 63)]) (rest := []) (c_X6_takeNumber l θ ad n g r 1 63 (show n 12 ≤ n 10 by omega) (hL) (by decide) (by decide)) gX6_takeCritic_X6_takeNumber rfl 2 (by decide +kernel) (by decide) (by decide) 0 rfl rfl rfl rfl rfl (Nat.le_of_ble_eq_true rfl) dX6_takeCritic_4 ?_
  rintro _ _ ⟨pa3, pb3, vv3, ea3, eb3, ev3, (⟨hA3, rfl, rfl⟩ | ⟨hA3, hB3, rfl, rfl⟩ | ⟨hA3, hB3, rfl, rfl⟩)⟩
  · replace ea3 : pa3 = sk (r 9) (n 10) (n 12) := ea3
    replace eb3 : pb3 = nE (r 9) (n 10) (n 12) := eb3
    replace ev3 : vv3 = nV (r 9) (n 10) (n 12) := ev3
    replace hA3 : nOk (r 9) (n 10) (n 12) = false := hA3
    refine z_X (Y := MW θ ad (nv (n 0) (n 1) (n 3) (n 5) (n 8) (n 10) pa3 (n 13) (n 14) (n 15) (n 16) (n 18) (n 20) (n 22) (n 27)) (nI pa3) r) (mw_eq rfl rfl rfl rfl rfl rfl rfl rfl rfl rfl rfl rfl rfl rfl rfl rfl rfl rfl rfl rfl rfl rfl rfl rfl rfl rfl rfl rfl rfl rfl rfl rfl) ?_
    refine z_istore_n C [(1, .int (nI 1)), (0, .ref (ad 0))] dX6_takeCritic_7 rfl (by decide) rfl ?_
    refine z_aload_n C dX6_takeCritic_8 rfl (show zlk _ 0 = some (.ref (ad 0)) from rfl) ?_
    refine z_mg C hin 21 (by decide) (by decide +kernel) (v := .ref (ad 21)) mf_21 dX6_takeCritic_9 ?_
    refine z_aload_n C dX6_takeCritic_12 rfl (show zlk _ 0 = some (.ref (ad 0)) from rfl) ?_
    refine z_mg C hin 20 (by decide) (by decide +kernel) (v := .int (nI (n 20))) mfv_20 dX6_takeCritic_13 ?_
    refine z_aload_n C dX6_takeCritic_16 rfl (show zlk _ 0 = some (.ref (ad 0)) from rfl) ?_
    refine z_mg C hin 13 (by decide) (by decide +kernel) (v := .int (nI (n 13))) mfv_13 dX6_takeCritic_17 ?_
    refine z_iast C (f := (r 21)) 8 mr_21 (n 20) rfl (by omega) (by decide) _ msn_21 dX6_takeCritic_20 ?_
    refine z_aload_n C dX6_takeCritic_21 rfl (show zlk _ 0 = some (.ref (ad 0)) from rfl) ?_
    refine z_dup C dX6_takeCritic_22 rfl ?_
    refine z_mg C hin 20 (by decide) (by decide +kernel) (v := .int (nI (n 20))) mfv_20 dX6_takeCritic_23 ?_
    refine z_iconst C (v := nI 1) dX6_takeCritic_26 (by decide) ?_
    refine z_iaddN C dX6_takeCritic_27 ?_
    refine z_mp C hin 20 (by decide) (by decide +kernel) rfl rfl mpv_20 dX6_takeCritic_28 ?_
    refine z_iload_n C dX6_takeCritic_31 rfl (show zlk _ 1 = some (.int (nI 1)) from rfl) ?_
    exact E _ _ _ _ (Or.inl (by rw [nF_A (lo := 1) (hi := 63) hA3, ← ea3]; exact ⟨by simp, rfl, mJ_of rfl rfl rfl rfl rfl rfl rfl rfl rfl rfl rfl rfl rfl rfl rfl rfl rfl rfl rfl rfl rfl rfl⟩)) (rfl) dX6_takeCritic_32
  · replace ea3 : pa3 = sk (r 9) (n 10) (n 12) := ea3
    replace eb3 : pb3 = nE (r 9) (n 10) (n 12) := eb3
    replace ev3 : vv3 = nV (r 9) (n 10) (n 12) := ev3
    replace hA3 : nOk (r 9) (n 10) (n 12) = true := hA3
    replace hB3 : nBad (r 9) (n 10) (n 12) 1 63 := hB3
    refine z_X (Y := MW θ ad (nv (n 0) (n 1) (n 3) (n 5) (n 8) (n 10) pb3 vv3 pa3 (n 15) (n 16) (n 18) (n 20) (n 22) (n 27)) (nI pa3) r) (mw_eq rfl rfl rfl rfl rfl rfl rfl rfl rfl rfl rfl rfl rfl rfl rfl rfl rfl rfl rfl rfl rfl rfl rfl rfl rfl rfl rfl rfl rfl rfl rfl rfl) ?_
    refine z_istore_n C [(1, .int (nI 2)), (0, .ref (ad 0))] dX6_takeCritic_7 rfl (by decide) rfl ?_
    refine z_aload_n C dX6_takeCritic_8 rfl (show zlk _ 0 = some (.ref (ad 0)) from rfl) ?_
    refine z_mg C hin 21 (by decide) (by decide +kernel) (v := .ref (ad 21)) mf_21 dX6_takeCritic_9 ?_
    refine z_aload_n C dX6_takeCritic_12 rfl (show zlk _ 0 = some (.ref (ad 0)) from rfl) ?_
    refine z_mg C hin 20 (by decide) (by decide +kernel) (v := .int (nI (n 20))) mfv_20 dX6_takeCritic_13 ?_
    refine z_aload_n C dX6_takeCritic_16 rfl (show zlk _ 0 = some (.ref (ad 0)) from rfl) ?_
    refine z_mg C hin 13 (by decide) (by decide +kernel) (v := .int (nI vv3)) mfv_13 dX6_takeCritic_17 ?_
    refine z_iast C (f := (r 21)) 8 mr_21 (n 20) rfl (by omega) (by decide) _ msn_21 dX6_takeCritic_20 ?_
    refine z_aload_n C dX6_takeCritic_21 rfl (show zlk _ 0 = some (.ref (ad 0)) from rfl) ?_
    refine z_dup C dX6_takeCritic_22 rfl ?_
    refine z_mg C hin 20 (by decide) (by decide +kernel) (v := .int (nI (n 20))) mfv_20 dX6_takeCritic_23 ?_
    refine z_iconst C (v := nI 1) dX6_takeCritic_26 (by decide) ?_
    refine z_iaddN C dX6_takeCritic_27 ?_
    refine z_mp C hin 20 (by decide) (by decide +kernel) rfl rfl mpv_20 dX6_takeCritic_28 ?_
    refine z_iload_n C dX6_takeCritic_31 rfl (show zlk _ 1 = some (.int (nI 2)) from rfl) ?_
    exact E _ _ _ _ (Or.inl (by rw [nF_B (lo := 1) (hi := 63) hA3 hB3, ← ea3]; exact ⟨by simp, rfl, mJ_of rfl rfl rfl rfl rfl rfl rfl rfl rfl rfl rfl rfl rfl rfl rfl rfl rfl rfl rfl rfl rfl rfl⟩)) (rfl) dX6_takeCritic_32
  · replace ea3 : pa3 = sk (r 9) (n 10) (n 12) := ea3
    replace eb3 : pb3 = nE (r 9) (n 10) (n 12) := eb3
    replace ev3 : vv3 = nV (r 9) (n 10) (n 12) := ev3
    replace hA3 : nOk (r 9) (n 10) (n 12) = true := hA3
    replace hB3 : ¬ nBad (r 9) (n 10) (n 12) 1 63 := hB3
    have lb3 : pb3 ≤ n 10 := by rw [eb3]; exact (nE_le (show n 12 ≤ n 10 by omega)).2
    refine z_X (Y := MW θ ad (nv (n 0) (n 1) (n 3) (n 5) (n 8) (n 10) pb3 vv3 pa3 (n 15) (n 16) (n 18) (n 20) (n 22) (n 27)) g r) (mw_eq rfl rfl rfl rfl rfl rfl rfl rfl rfl rfl rfl rfl rfl rfl rfl rfl rfl rfl rfl rfl rfl rfl rfl rfl rfl rfl rfl rfl rfl rfl rfl rfl) ?_
    refine z_istore_n C [(1, .int (nI 0)), (0, .ref (ad 0))] dX6_takeCritic_7 rfl (by decide) rfl ?_
    refine z_aload_n C dX6_takeCritic_8 rfl (show zlk _ 0 = some (.ref (ad 0)) from rfl) ?_
    refine z_mg C hin 21 (by decide) (by decide +kernel) (v := .ref (ad 21)) mf_21 dX6_takeCritic_9 ?_
    refine z_aload_n C dX6_takeCritic_12 rfl (show zlk _ 0 = some (.ref (ad 0)) from rfl) ?_
    refine z_mg C hin 20 (by decide) (by decide +kernel) (v := .int (nI (n 20))) mfv_20 dX6_takeCritic_13 ?_
    refine z_aload_n C dX6_takeCritic_16 rfl (show zlk _ 0 = some (.ref (ad 0)) from rfl) ?_
    refine z_mg C hin 13 (by decide) (by decide +kernel) (v := .int (nI vv3)) mfv_13 dX6_takeCritic_17 ?_
    refine z_iast C (f := (r 21)) 8 mr_21 (n 20) rfl (by omega) (by decide) _ msn_21 dX6_takeCritic_20 ?_
    refine z_aload_n C dX6_takeCritic_21 rfl (show zlk _ 0 = some (.ref (ad 0)) from rfl) ?_
    refine z_dup C dX6_takeCritic_22 rfl ?_
    refine z_mg C hin 20 (by decide) (by decide +kernel) (v := .int (nI (n 20))) mfv_20 dX6_takeCritic_23 ?_
    refine z_iconst C (v := nI 1) dX6_takeCritic_26 (by decide) ?_
    refine z_iaddN C dX6_takeCritic_27 ?_
    refine z_mp C hin 20 (by decide) (by decide +kernel) rfl rfl mpv_20 dX6_takeCritic_28 ?_
    refine z_iload_n C dX6_takeCritic_31 rfl (show zlk _ 1 = some (.int (nI 0)) from rfl) ?_
    exact E _ _ _ _ (Or.inr ⟨by rw [nF_C (lo := 1) (hi := 63) hA3 hB3], rfl, _, _, _, eb3, ev3, (mw_eq rfl rfl rfl rfl rfl rfl rfl rfl rfl rfl rfl rfl rfl rfl rfl rfl rfl rfl rfl rfl rfl rfl rfl rfl rfl rfl rfl rfl rfl rfl rfl rfl)⟩) (rfl) dX6_takeCritic_32

def rE (f : Nat → Int32) (L p : Nat) : Nat → Nat
  | 0 => p
  | i + 1 => nE f L (rwq f L p i)
theorem rF_step {f : Nat → Int32} {L p i : Nat} (h : (rF f L p (i + 1)).1 = 0) (hs : m_hr f L (sk f L (rE f L p (i + 1))) = nI 44) : rF f L p (i + 2) = nF f L (rwq f L p (i + 1)) 0 63 := by
  have e : sF f L (nE f L (rwq f L p i)) (nI 44) = (0, 0) := by unfold sF; exact if_pos hs
  show (if _ then _ else _) = _
  rw [if_pos h, e]
  rfl
theorem rF_sign {f : Nat → Int32} {L p i : Nat} (h : (rF f L p (i + 1)).1 = 0) (hs : ¬ m_hr f L (sk f L (rE f L p (i + 1))) = nI 44) : rF f L p (i + 2) = (1, sk f L (rE f L p (i + 1))) := by
  have e : sF f L (nE f L (rwq f L p i)) (nI 44) = (1, sk f L (rE f L p (i + 1))) := by unfold sF; exact if_neg hs
  show (if _ then _ else _) = _
  rw [if_pos h, e]
  rfl
theorem rF_up {f : Nat → Int32} {L p : Nat} : ∀ {i j : Nat}, i ≤ j → ¬ (rF f L p i).1 = 0 → rF f L p j = rF f L p i := by
  intro i j hij h
  induction j with
  | zero => have : i = 0 := by omega
            subst this; rfl
  | succ j ih =>
    by_cases e : i = j + 1
    · rw [e]
    · have hj := ih (by omega)
      cases j with
      | zero => have : i = 0 := by omega
                subst this; exact absurd rfl h
      | succ j =>
        show (if _ then _ else _) = _
        rw [if_neg (by rw [hj]; exact h), hj]
theorem z_nmN {κ : zX} {X : va_W} {pc : Nat} {lv : List (Nat × Value)} {st : List Value} {e : Nat} (k : ∀ a : Nat, a = e → Z κ X pc lv (.int (nI a) :: st)) : Z κ X pc lv (.int (nI e) :: st) := k e rfl
set_option maxHeartbeats 4000000 in
set_option maxRecDepth 100000 in
theorem c_X6_takeSitter (l : Launch) (θ : zH) (ad : Nat → Nat) (n : Nat → Nat) (g : Int32) (r : Nat → Nat → Int32)  (hp : n 12 ≤ n 10) (hL : n 10 ≤ 240) (hc : n 16 < 6) : cI l yX6_takeSitter wsX6_takeSitter 2 θ [.ref (ad 0)] (MW θ ad n g r) (fun r0 Y => (¬ (rF (r 9) (n 10) (n 12) 5).1 = 0 ∧ r0 = nI (rF (r 9) (n 10) (n 12) 5).1 ∧ ∃ n1 r1, mJ n n1 r r1 ∧ Y = MW θ ad n1 (nI (rF (r 9) (n 10) (n 12) 5).2) r1) ∨ ((rF (r 9) (n 10) (n 12) 5).1 = 0 ∧ r0 = nI 0 ∧ ∃ p1 p2 v s, p2 = nE (r 9) (n 10) (rwq (r 9) (n 10) (n 12) 4) ∧ s = rS (r 9) (n 10) (n 12) 5 ∧ Y = MW θ ad (nv (n 0) (n 1) (n 3) (n 5) (n 8) (n 10) p2 v p1 (n 15) (n 16 + 1) (n 18) (n 20) (n 22) (n 27)) g (rv (r 2) (r 4) (r 6) (r 7) (r 9) (upd (r 17) (n 16) s) (r 19) (r 21) (r 23) (r 24) (r 25) (r 26) (r 28) (r 29) (r 30) (r 31) (r 32)))) := by
  refine z_cI (by decide) rfl rfl (Nat.le_of_ble_eq_true rfl) (lv := [(0, .ref (ad 0))]) rfl (fun κ C E => ?_)
  have hin : ∀ w ∈ wsX60, w ∈ wsX6_takeSitter := by decide +kernel
  refine z_iconst C (v := nI 0) dX6_takeSitter_0 (by decide) ?_
  refine z_istore_n C [(1, .int (nI 0)), (0, .ref (ad 0))] dX6_takeSitter_1 rfl (by decide) rfl ?_
  refine z_iconst C (v := nI 0) dX6_takeSitter_2 (by decide) ?_
  refine z_istore_n C [(2, .int (nI 0)), (1, .int (nI 0)), (0, .ref (ad 0))] dX6_takeSitter_3 rfl (by decide) rfl ?_
  refine z_iload_n C dX6_takeSitter_4 rfl (show zlk _ 2 = some (.int (nI 0)) from rfl) ?_
  refine z_iconst C (v := nI 5) dX6_takeSitter_5 (by decide) ?_
  refine z_icmp_geF C 74 dX6_takeSitter_6 (by decide) (by omega) (by omega) (by decide) ?_
  have hq0 : n 12 = rwq (r 9) (n 10) (n 12) 0 := rfl
  have lq0 := hp
  refine z_iload_n C dX6_takeSitter_9 rfl (show zlk _ 2 = some (.int (nI 0)) from rfl) ?_
  refine z_if_leN C 42 dX6_takeSitter_10 (by decide) (by decide) (fun _ => ?_) (fun h => absurd h (by decide))
  refine z_aload_n C dX6_takeSitter_42 rfl (show zlk _ 0 = some (.ref (ad 0)) from rfl) ?_
  refine z_iconst C (v := nI 0) dX6_takeSitter_43 (by decide) ?_
  refine z_bipush C (v := nI 63) dX6_takeSitter_44 (by decide) ?_
  refine z_callVi C (As := [.int (nI 0), .int (nI 63)]) (rest := []) (c_X6_takeNumber l θ ad n g r 0 63 (lq0) (hL) (by decide) (by decide)) gX6_takeSitter_X6_takeNumber rfl 2 (by decide +kernel) (by decide) (by decide) 0 rfl rfl rfl rfl rfl (Nat.le_of_ble_eq_true rfl) dX6_takeSitter_46 ?_
  rintro _ _ ⟨pa4, pb4, vv4, ea4, eb4, ev4, (⟨hA4, rfl, rfl⟩ | ⟨hA4, hB4, rfl, rfl⟩ | ⟨hA4, hB4, rfl, rfl⟩)⟩
  · replace ea4 : pa4 = sk (r 9) (n 10) (n 12) := ea4
    replace eb4 : pb4 = nE (r 9) (n 10) (n 12) := eb4
    replace ev4 : vv4 = nV (r 9) (n 10) (n 12) := ev4
    replace hA4 : nOk (r 9) (n 10) (n 12) = false := hA4
    refine z_X (Y := MW θ ad (nv (n 0) (n 1) (n 3) (n 5) (n 8) (n 10) pa4 (n 13) (n 14) (n 15) (n 16) (n 18) (n 20) (n 22) (n 27)) (nI pa4) r) (mw_eq rfl rfl rfl rfl rfl rfl rfl rfl rfl rfl rfl rfl rfl rfl rfl rfl rfl rfl rfl rfl rfl rfl rfl rfl rfl rfl rfl rfl rfl rfl rfl rfl) ?_
    refine z_istore_n C [(3, .int (nI 1)), (2, .int (nI 0)), (1, .int (nI 0)), (0, .ref (ad 0))] dX6_takeSitter_49 rfl (by decide) rfl ?_
    refine z_iload_n C dX6_takeSitter_50 rfl (show zlk _ 3 = some (.int (nI 1)) from rfl) ?_
    refine z_if_leN C 56 dX6_takeSitter_51 (by decide) (by decide) (fun h => absurd h (by decide)) (fun _ => ?_)
    refine z_iload_n C dX6_takeSitter_54 rfl (show zlk _ 3 = some (.int (nI 1)) from rfl) ?_
    exact E _ _ _ _ (Or.inl (by have hFn : rF (r 9) (n 10) (n 12) 1 = (1, pa4) := (show nF (r 9) (n 10) (n 12) 0 63 = (1, pa4) by rw [ea4]; exact nF_A hA4); rw [rF_up (i := 1) (by decide) (by rw [hFn]; simp), hFn]; exact ⟨by simp, rfl, mJ_of rfl rfl rfl rfl rfl rfl rfl rfl rfl rfl rfl rfl rfl rfl rfl rfl rfl rfl rfl rfl rfl rfl⟩)) (rfl) dX6_takeSitter_55
  · replace ea4 : pa4 = sk (r 9) (n 10) (n 12) := ea4
    replace eb4 : pb4 = nE (r 9) (n 10) (n 12) := eb4
    replace ev4 : vv4 = nV (r 9) (n 10) (n 12) := ev4
    replace hA4 : nOk (r 9) (n 10) (n 12) = true := hA4
    replace hB4 : nBad (r 9) (n 10) (n 12) 0 63 := hB4
    refine z_X (Y := MW θ ad (nv (n 0) (n 1) (n 3) (n 5) (n 8) (n 10) pb4 vv4 pa4 (n 15) (n 16) (n 18) (n 20) (n 22) (n 27)) (nI pa4) r) (mw_eq rfl rfl rfl rfl rfl rfl rfl rfl rfl rfl rfl rfl rfl rfl rfl rfl rfl rfl rfl rfl rfl rfl rfl rfl rfl rfl rfl rfl rfl rfl rfl rfl) ?_
    refine z_istore_n C [(3, .int (nI 2)), (2, .int (nI 0)), (1, .int (nI 0)), (0, .ref (ad 0))] dX6_takeSitter_49 rfl (by decide) rfl ?_
    refine z_iload_n C dX6_takeSitter_50 rfl (show zlk _ 3 = some (.int (nI 2)) from rfl) ?_
    refine z_if_leN C 56 dX6_takeSitter_51 (by decide) (by decide) (fun h => absurd h (by decide)) (fun _ => ?_)
    refine z_iload_n C dX6_takeSitter_54 rfl (show zlk _ 3 = some (.int (nI 2)) from rfl) ?_
    exact E _ _ _ _ (Or.inl (by have hFn : rF (r 9) (n 10) (n 12) 1 = (2, pa4) := (show nF (r 9) (n 10) (n 12) 0 63 = (2, pa4) by rw [ea4]; exact nF_B hA4 hB4); rw [rF_up (i := 1) (by decide) (by rw [hFn]; simp), hFn]; exact ⟨by simp, rfl, mJ_of rfl rfl rfl rfl rfl rfl rfl rfl rfl rfl rfl rfl rfl rfl rfl rfl rfl rfl rfl rfl rfl rfl⟩)) (rfl) dX6_takeSitter_55
  · replace ea4 : pa4 = sk (r 9) (n 10) (n 12) := ea4
    replace eb4 : pb4 = nE (r 9) (n 10) (n 12) := eb4
    replace ev4 : vv4 = nV (r 9) (n 10) (n 12) := ev4
    replace hA4 : nOk (r 9) (n 10) (n 12) = true := hA4
    replace hB4 : ¬ nBad (r 9) (n 10) (n 12) 0 63 := hB4
    have lb4 : pb4 ≤ n 10 := by rw [eb4]; exact (nE_le (lq0)).2
    refine z_X (Y := MW θ ad (nv (n 0) (n 1) (n 3) (n 5) (n 8) (n 10) pb4 vv4 pa4 (n 15) (n 16) (n 18) (n 20) (n 22) (n 27)) g r) (mw_eq rfl rfl rfl rfl rfl rfl rfl rfl rfl rfl rfl rfl rfl rfl rfl rfl rfl rfl rfl rfl rfl rfl rfl rfl rfl rfl rfl rfl rfl rfl rfl rfl) ?_
    refine z_istore_n C [(3, .int (nI 0)), (2, .int (nI 0)), (1, .int (nI 0)), (0, .ref (ad 0))] dX6_takeSitter_49 rfl (by decide) rfl ?_
    refine z_iload_n C dX6_takeSitter_50 rfl (show zlk _ 3 = some (.int (nI 0)) from rfl) ?_
    refine z_if_leN C 56 dX6_takeSitter_51 (by decide) (by decide) (fun _ => ?_) (fun h => absurd h (by decide))
    have hF1 : rF (r 9) (n 10) (n 12) 1 = (0, 0) := nF_C hA4 hB4
    refine z_iload_n C dX6_takeSitter_56 rfl (show zlk _ 1 = some (.int (nI 0)) from rfl) ?_
    refine z_aload_n C dX6_takeSitter_57 rfl (show zlk _ 0 = some (.ref (ad 0)) from rfl) ?_
    refine z_mg C hin 13 (by decide) (by decide +kernel) (v := .int (nI vv4)) mfv_13 dX6_takeSitter_58 ?_
    refine z_bipush C (v := nI 6) dX6_takeSitter_61 (by decide) ?_
    refine z_iload_n C dX6_takeSitter_63 rfl (show zlk _ 2 = some (.int (nI 0)) from rfl) ?_
    refine z_imulN C dX6_takeSitter_64 ?_
    refine z_top (v' := .int (nI 0)) rfl ?_
    refine z_ishl C dX6_takeSitter_65 ?_
    refine z_ior C dX6_takeSitter_66 ?_
    refine z_top (v' := .int (rS (r 9) (n 10) (n 12) 1)) (by rw [show vv4 = nV (r 9) (n 10) (rwq (r 9) (n 10) (n 12) 0) by rw [← hq0]; exact ev4]; rfl) ?_
    refine z_istore_n C [(1, .int (rS (r 9) (n 10) (n 12) 1)), (3, .int (nI 0)), (2, .int (nI 0)), (0, .ref (ad 0))] dX6_takeSitter_67 rfl (by decide) rfl ?_
    refine z_iincN C [(2, .int (nI 1)), (1, .int (rS (r 9) (n 10) (n 12) 1)), (3, .int (nI 0)), (0, .ref (ad 0))] dX6_takeSitter_68 rfl (by decide) rfl ?_
    refine z_goto C 4 dX6_takeSitter_71 (by decide) ?_
    refine z_iload_n C dX6_takeSitter_4 rfl (show zlk _ 2 = some (.int (nI 1)) from rfl) ?_
    refine z_iconst C (v := nI 5) dX6_takeSitter_5 (by decide) ?_
    refine z_icmp_geF C 74 dX6_takeSitter_6 (by decide) (by omega) (by omega) (by decide) ?_
    refine z_iload_n C dX6_takeSitter_9 rfl (show zlk _ 2 = some (.int (nI 1)) from rfl) ?_
    refine z_if_leN C 42 dX6_takeSitter_10 (by decide) (by decide) (fun h => absurd h (by decide)) (fun _ => ?_)
    refine z_aload_n C dX6_takeSitter_13 rfl (show zlk _ 0 = some (.ref (ad 0)) from rfl) ?_
    refine z_callVi C (As := []) (rest := []) (c_X6_here l θ ad (nv (n 0) (n 1) (n 3) (n 5) (n 8) (n 10) pb4 vv4 pa4 (n 15) (n 16) (n 18) (n 20) (n 22) (n 27)) g r (show pb4 ≤ n 10 by omega) (hL)) gX6_takeSitter_X6_here rfl 0 (by decide +kernel) (by decide) (by decide) 0 rfl rfl rfl rfl rfl (Nat.le_of_ble_eq_true rfl) dX6_takeSitter_14 ?_
    rintro _ _ ⟨ph2, eh2, rfl, rfl⟩
    replace eh2 : ph2 = sk (r 9) (n 10) (pb4) := eh2
    have lh2 : ph2 ≤ n 10 := by rw [eh2]; exact (sk_le (by omega)).2
    refine z_top (v' := .int (m_hr (r 9) (n 10) ph2)) rfl ?_
    refine z_X (Y := MW θ ad (nv (n 0) (n 1) (n 3) (n 5) (n 8) (n 10) ph2 vv4 pa4 (n 15) (n 16) (n 18) (n 20) (n 22) (n 27)) g r) (mw_eq rfl rfl rfl rfl rfl rfl rfl rfl rfl rfl rfl rfl rfl rfl rfl rfl rfl rfl rfl rfl rfl rfl rfl rfl rfl rfl rfl rfl rfl rfl rfl rfl) ?_
    refine z_bipush C (v := nI 44) dX6_takeSitter_17 (by decide) ?_
    refine z_icmp_eq C 32 dX6_takeSitter_19 (by decide) (fun h19t_1 => ?_) (fun h19n_1 => ?_)
    · refine z_aload_n C dX6_takeSitter_32 rfl (show zlk _ 0 = some (.ref (ad 0)) from rfl) ?_
      refine z_dup C dX6_takeSitter_33 rfl ?_
      refine z_mg C hin 12 (by decide) (by decide +kernel) (v := .int (nI ph2)) mfv_12 dX6_takeSitter_34 ?_
      refine z_iconst C (v := nI 1) dX6_takeSitter_37 (by decide) ?_
      refine z_iaddN C dX6_takeSitter_38 ?_
      refine z_nmN (fun q1 eq1 => ?_)
      have E1 : ph2 = sk (r 9) (n 10) (nE (r 9) (n 10) (n 12)) := by rw [← eb4]; exact eh2
      have hq1 : q1 = rwq (r 9) (n 10) (n 12) 1 := by rw [eq1, E1, hq0]; rfl
      have lq1 : q1 ≤ n 10 := by rw [eq1]; exact hr_lt h19t_1 (by decide)
      refine z_mp C hin 12 (by decide) (by decide +kernel) rfl rfl mpv_12 dX6_takeSitter_39 ?_
      refine z_aload_n C dX6_takeSitter_42 rfl (show zlk _ 0 = some (.ref (ad 0)) from rfl) ?_
      refine z_iconst C (v := nI 0) dX6_takeSitter_43 (by decide) ?_
      refine z_bipush C (v := nI 63) dX6_takeSitter_44 (by decide) ?_
      refine z_callVi C (As := [.int (nI 0), .int (nI 63)]) (rest := []) (c_X6_takeNumber l θ ad (nv (n 0) (n 1) (n 3) (n 5) (n 8) (n 10) q1 vv4 pa4 (n 15) (n 16) (n 18) (n 20) (n 22) (n 27)) g r 0 63 (lq1) (hL) (by decide) (by decide)) gX6_takeSitter_X6_takeNumber rfl 2 (by decide +kernel) (by decide) (by decide) 0 rfl rfl rfl rfl rfl (Nat.le_of_ble_eq_true rfl) dX6_takeSitter_46 ?_
      rintro _ _ ⟨pa5, pb5, vv5, ea5, eb5, ev5, (⟨hA5, rfl, rfl⟩ | ⟨hA5, hB5, rfl, rfl⟩ | ⟨hA5, hB5, rfl, rfl⟩)⟩
      · replace ea5 : pa5 = sk (r 9) (n 10) (q1) := ea5
        replace eb5 : pb5 = nE (r 9) (n 10) (q1) := eb5
        replace ev5 : vv5 = nV (r 9) (n 10) (q1) := ev5
        replace hA5 : nOk (r 9) (n 10) (q1) = false := hA5
        refine z_X (Y := MW θ ad (nv (n 0) (n 1) (n 3) (n 5) (n 8) (n 10) pa5 vv4 pa4 (n 15) (n 16) (n 18) (n 20) (n 22) (n 27)) (nI pa5) r) (mw_eq rfl rfl rfl rfl rfl rfl rfl rfl rfl rfl rfl rfl rfl rfl rfl rfl rfl rfl rfl rfl rfl rfl rfl rfl rfl rfl rfl rfl rfl rfl rfl rfl) ?_
        refine z_istore_n C [(3, .int (nI 1)), (2, .int (nI 1)), (1, .int (rS (r 9) (n 10) (n 12) 1)), (0, .ref (ad 0))] dX6_takeSitter_49 rfl (by decide) rfl ?_
        refine z_iload_n C dX6_takeSitter_50 rfl (show zlk _ 3 = some (.int (nI 1)) from rfl) ?_
        refine z_if_leN C 56 dX6_takeSitter_51 (by decide) (by decide) (fun h => absurd h (by decide)) (fun _ => ?_)
        refine z_iload_n C dX6_takeSitter_54 rfl (show zlk _ 3 = some (.int (nI 1)) from rfl) ?_
        exact E _ _ _ _ (Or.inl (by have hFn : rF (r 9) (n 10) (n 12) 2 = (1, pa5) := (rF_step (by rw [hF1]) (by show m_hr (r 9) (n 10) (sk (r 9) (n 10) (nE (r 9) (n 10) (rwq (r 9) (n 10) (n 12) 0))) = nI 44; rw [← hq0, ← E1]; exact h19t_1)).trans (show nF (r 9) (n 10) (rwq (r 9) (n 10) (n 12) 1) 0 63 = (1, pa5) by rw [← hq1, ea5]; exact nF_A hA5); rw [rF_up (i := 2) (by decide) (by rw [hFn]; simp), hFn]; exact ⟨by simp, rfl, mJ_of rfl rfl rfl rfl rfl rfl rfl rfl rfl rfl rfl rfl rfl rfl rfl rfl rfl rfl rfl rfl rfl rfl⟩)) (rfl) dX6_takeSitter_55
      · replace ea5 : pa5 = sk (r 9) (n 10) (q1) := ea5
        replace eb5 : pb5 = nE (r 9) (n 10) (q1) := eb5
        replace ev5 : vv5 = nV (r 9) (n 10) (q1) := ev5
        replace hA5 : nOk (r 9) (n 10) (q1) = true := hA5
        replace hB5 : nBad (r 9) (n 10) (q1) 0 63 := hB5
        refine z_X (Y := MW θ ad (nv (n 0) (n 1) (n 3) (n 5) (n 8) (n 10) pb5 vv5 pa5 (n 15) (n 16) (n 18) (n 20) (n 22) (n 27)) (nI pa5) r) (mw_eq rfl rfl rfl rfl rfl rfl rfl rfl rfl rfl rfl rfl rfl rfl rfl rfl rfl rfl rfl rfl rfl rfl rfl rfl rfl rfl rfl rfl rfl rfl rfl rfl) ?_
        refine z_istore_n C [(3, .int (nI 2)), (2, .int (nI 1)), (1, .int (rS (r 9) (n 10) (n 12) 1)), (0, .ref (ad 0))] dX6_takeSitter_49 rfl (by decide) rfl ?_
        refine z_iload_n C dX6_takeSitter_50 rfl (show zlk _ 3 = some (.int (nI 2)) from rfl) ?_
        refine z_if_leN C 56 dX6_takeSitter_51 (by decide) (by decide) (fun h => absurd h (by decide)) (fun _ => ?_)
        refine z_iload_n C dX6_takeSitter_54 rfl (show zlk _ 3 = some (.int (nI 2)) from rfl) ?_
        exact E _ _ _ _ (Or.inl (by have hFn : rF (r 9) (n 10) (n 12) 2 = (2, pa5) := (rF_step (by rw [hF1]) (by show m_hr (r 9) (n 10) (sk (r 9) (n 10) (nE (r 9) (n 10) (rwq (r 9) (n 10) (n 12) 0))) = nI 44; rw [← hq0, ← E1]; exact h19t_1)).trans (show nF (r 9) (n 10) (rwq (r 9) (n 10) (n 12) 1) 0 63 = (2, pa5) by rw [← hq1, ea5]; exact nF_B hA5 hB5); rw [rF_up (i := 2) (by decide) (by rw [hFn]; simp), hFn]; exact ⟨by simp, rfl, mJ_of rfl rfl rfl rfl rfl rfl rfl rfl rfl rfl rfl rfl rfl rfl rfl rfl rfl rfl rfl rfl rfl rfl⟩)) (rfl) dX6_takeSitter_55
      · replace ea5 : pa5 = sk (r 9) (n 10) (q1) := ea5
        replace eb5 : pb5 = nE (r 9) (n 10) (q1) := eb5
        replace ev5 : vv5 = nV (r 9) (n 10) (q1) := ev5
        replace hA5 : nOk (r 9) (n 10) (q1) = true := hA5
        replace hB5 : ¬ nBad (r 9) (n 10) (q1) 0 63 := hB5
        have lb5 : pb5 ≤ n 10 := by rw [eb5]; exact (nE_le (lq1)).2
        refine z_X (Y := MW θ ad (nv (n 0) (n 1) (n 3) (n 5) (n 8) (n 10) pb5 vv5 pa5 (n 15) (n 16) (n 18) (n 20) (n 22) (n 27)) g r) (mw_eq rfl rfl rfl rfl rfl rfl rfl rfl rfl rfl rfl rfl rfl rfl rfl rfl rfl rfl rfl rfl rfl rfl rfl rfl rfl rfl rfl rfl rfl rfl rfl rfl) ?_
        refine z_istore_n C [(3, .int (nI 0)), (2, .int (nI 1)), (1, .int (rS (r 9) (n 10) (n 12) 1)), (0, .ref (ad 0))] dX6_takeSitter_49 rfl (by decide) rfl ?_
        refine z_iload_n C dX6_takeSitter_50 rfl (show zlk _ 3 = some (.int (nI 0)) from rfl) ?_
        refine z_if_leN C 56 dX6_takeSitter_51 (by decide) (by decide) (fun _ => ?_) (fun h => absurd h (by decide))
        have hF2 : rF (r 9) (n 10) (n 12) 2 = (0, 0) := (rF_step (by rw [hF1]) (by show m_hr (r 9) (n 10) (sk (r 9) (n 10) (nE (r 9) (n 10) (rwq (r 9) (n 10) (n 12) 0))) = nI 44; rw [← hq0, ← E1]; exact h19t_1)).trans (by rw [← hq1]; exact nF_C hA5 hB5)
        refine z_iload_n C dX6_takeSitter_56 rfl (show zlk _ 1 = some (.int (rS (r 9) (n 10) (n 12) 1)) from rfl) ?_
        refine z_aload_n C dX6_takeSitter_57 rfl (show zlk _ 0 = some (.ref (ad 0)) from rfl) ?_
        refine z_mg C hin 13 (by decide) (by decide +kernel) (v := .int (nI vv5)) mfv_13 dX6_takeSitter_58 ?_
        refine z_bipush C (v := nI 6) dX6_takeSitter_61 (by decide) ?_
        refine z_iload_n C dX6_takeSitter_63 rfl (show zlk _ 2 = some (.int (nI 1)) from rfl) ?_
        refine z_imulN C dX6_takeSitter_64 ?_
        refine z_top (v' := .int (nI 6)) rfl ?_
        refine z_ishl C dX6_takeSitter_65 ?_
        refine z_ior C dX6_takeSitter_66 ?_
        refine z_top (v' := .int (rS (r 9) (n 10) (n 12) 2)) (by rw [show vv5 = nV (r 9) (n 10) (rwq (r 9) (n 10) (n 12) 1) by rw [← hq1]; exact ev5]; rfl) ?_
        refine z_istore_n C [(1, .int (rS (r 9) (n 10) (n 12) 2)), (3, .int (nI 0)), (2, .int (nI 1)), (0, .ref (ad 0))] dX6_takeSitter_67 rfl (by decide) rfl ?_
        refine z_iincN C [(2, .int (nI 2)), (1, .int (rS (r 9) (n 10) (n 12) 2)), (3, .int (nI 0)), (0, .ref (ad 0))] dX6_takeSitter_68 rfl (by decide) rfl ?_
        refine z_goto C 4 dX6_takeSitter_71 (by decide) ?_
        refine z_iload_n C dX6_takeSitter_4 rfl (show zlk _ 2 = some (.int (nI 2)) from rfl) ?_
        refine z_iconst C (v := nI 5) dX6_takeSitter_5 (by decide) ?_
        refine z_icmp_geF C 74 dX6_takeSitter_6 (by decide) (by omega) (by omega) (by decide) ?_
        refine z_iload_n C dX6_takeSitter_9 rfl (show zlk _ 2 = some (.int (nI 2)) from rfl) ?_
        refine z_if_leN C 42 dX6_takeSitter_10 (by decide) (by decide) (fun h => absurd h (by decide)) (fun _ => ?_)
        refine z_aload_n C dX6_takeSitter_13 rfl (show zlk _ 0 = some (.ref (ad 0)) from rfl) ?_
        refine z_callVi C (As := []) (rest := []) (c_X6_here l θ ad (nv (n 0) (n 1) (n 3) (n 5) (n 8) (n 10) pb5 vv5 pa5 (n 15) (n 16) (n 18) (n 20) (n 22) (n 27)) g r (show pb5 ≤ n 10 by omega) (hL)) gX6_takeSitter_X6_here rfl 0 (by decide +kernel) (by decide) (by decide) 0 rfl rfl rfl rfl rfl (Nat.le_of_ble_eq_true rfl) dX6_takeSitter_14 ?_
        rintro _ _ ⟨ph3, eh3, rfl, rfl⟩
        replace eh3 : ph3 = sk (r 9) (n 10) (pb5) := eh3
        have lh3 : ph3 ≤ n 10 := by rw [eh3]; exact (sk_le (by omega)).2
        refine z_top (v' := .int (m_hr (r 9) (n 10) ph3)) rfl ?_
        refine z_X (Y := MW θ ad (nv (n 0) (n 1) (n 3) (n 5) (n 8) (n 10) ph3 vv5 pa5 (n 15) (n 16) (n 18) (n 20) (n 22) (n 27)) g r) (mw_eq rfl rfl rfl rfl rfl rfl rfl rfl rfl rfl rfl rfl rfl rfl rfl rfl rfl rfl rfl rfl rfl rfl rfl rfl rfl rfl rfl rfl rfl rfl rfl rfl) ?_
        refine z_bipush C (v := nI 44) dX6_takeSitter_17 (by decide) ?_
        refine z_icmp_eq C 32 dX6_takeSitter_19 (by decide) (fun h19t_2 => ?_) (fun h19n_2 => ?_)
        · refine z_aload_n C dX6_takeSitter_32 rfl (show zlk _ 0 = some (.ref (ad 0)) from rfl) ?_
          refine z_dup C dX6_takeSitter_33 rfl ?_
          refine z_mg C hin 12 (by decide) (by decide +kernel) (v := .int (nI ph3)) mfv_12 dX6_takeSitter_34 ?_
          refine z_iconst C (v := nI 1) dX6_takeSitter_37 (by decide) ?_
          refine z_iaddN C dX6_takeSitter_38 ?_
          refine z_nmN (fun q2 eq2 => ?_)
          have E2 : ph3 = sk (r 9) (n 10) (nE (r 9) (n 10) (q1)) := by rw [← eb5]; exact eh3
          have hq2 : q2 = rwq (r 9) (n 10) (n 12) 2 := by rw [eq2, E2, hq1]; rfl
          have lq2 : q2 ≤ n 10 := by rw [eq2]; exact hr_lt h19t_2 (by decide)
          refine z_mp C hin 12 (by decide) (by decide +kernel) rfl rfl mpv_12 dX6_takeSitter_39 ?_
          refine z_aload_n C dX6_takeSitter_42 rfl (show zlk _ 0 = some (.ref (ad 0)) from rfl) ?_
          refine z_iconst C (v := nI 0) dX6_takeSitter_43 (by decide) ?_
          refine z_bipush C (v := nI 63) dX6_takeSitter_44 (by decide) ?_
          refine z_callVi C (As := [.int (nI 0), .int (nI 63)]) (rest := []) (c_X6_takeNumber l θ ad (nv (n 0) (n 1) (n 3) (n 5) (n 8) (n 10) q2 vv5 pa5 (n 15) (n 16) (n 18) (n 20) (n 22) (n 27)) g r 0 63 (lq2) (hL) (by decide) (by decide)) gX6_takeSitter_X6_takeNumber rfl 2 (by decide +kernel) (by decide) (by decide) 0 rfl rfl rfl rfl rfl (Nat.le_of_ble_eq_true rfl) dX6_takeSitter_46 ?_
          rintro _ _ ⟨pa6, pb6, vv6, ea6, eb6, ev6, (⟨hA6, rfl, rfl⟩ | ⟨hA6, hB6, rfl, rfl⟩ | ⟨hA6, hB6, rfl, rfl⟩)⟩
          · replace ea6 : pa6 = sk (r 9) (n 10) (q2) := ea6
            replace eb6 : pb6 = nE (r 9) (n 10) (q2) := eb6
            replace ev6 : vv6 = nV (r 9) (n 10) (q2) := ev6
            replace hA6 : nOk (r 9) (n 10) (q2) = false := hA6
            refine z_X (Y := MW θ ad (nv (n 0) (n 1) (n 3) (n 5) (n 8) (n 10) pa6 vv5 pa5 (n 15) (n 16) (n 18) (n 20) (n 22) (n 27)) (nI pa6) r) (mw_eq rfl rfl rfl rfl rfl rfl rfl rfl rfl rfl rfl rfl rfl rfl rfl rfl rfl rfl rfl rfl rfl rfl rfl rfl rfl rfl rfl rfl rfl rfl rfl rfl) ?_
            refine z_istore_n C [(3, .int (nI 1)), (2, .int (nI 2)), (1, .int (rS (r 9) (n 10) (n 12) 2)), (0, .ref (ad 0))] dX6_takeSitter_49 rfl (by decide) rfl ?_
            refine z_iload_n C dX6_takeSitter_50 rfl (show zlk _ 3 = some (.int (nI 1)) from rfl) ?_
            refine z_if_leN C 56 dX6_takeSitter_51 (by decide) (by decide) (fun h => absurd h (by decide)) (fun _ => ?_)
            refine z_iload_n C dX6_takeSitter_54 rfl (show zlk _ 3 = some (.int (nI 1)) from rfl) ?_
            exact E _ _ _ _ (Or.inl (by have hFn : rF (r 9) (n 10) (n 12) 3 = (1, pa6) := (rF_step (by rw [hF2]) (by show m_hr (r 9) (n 10) (sk (r 9) (n 10) (nE (r 9) (n 10) (rwq (r 9) (n 10) (n 12) 1))) = nI 44; rw [← hq1, ← E2]; exact h19t_2)).trans (show nF (r 9) (n 10) (rwq (r 9) (n 10) (n 12) 2) 0 63 = (1, pa6) by rw [← hq2, ea6]; exact nF_A hA6); rw [rF_up (i := 3) (by decide) (by rw [hFn]; simp), hFn]; exact ⟨by simp, rfl, mJ_of rfl rfl rfl rfl rfl rfl rfl rfl rfl rfl rfl rfl rfl rfl rfl rfl rfl rfl rfl rfl rfl rfl⟩)) (rfl) dX6_takeSitter_55
          · replace ea6 : pa6 = sk (r 9) (n 10) (q2) := ea6
            replace eb6 : pb6 = nE (r 9) (n 10) (q2) := eb6
            replace ev6 : vv6 = nV (r 9) (n 10) (q2) := ev6
            replace hA6 : nOk (r 9) (n 10) (q2) = true := hA6
            replace hB6 : nBad (r 9) (n 10) (q2) 0 63 := hB6
            refine z_X (Y := MW θ ad (nv (n 0) (n 1) (n 3) (n 5) (n 8) (n 10) pb6 vv6 pa6 (n 15) (n 16) (n 18) (n 20) (n 22) (n 27)) (nI pa6) r) (mw_eq rfl rfl rfl rfl rfl rfl rfl rfl rfl rfl rfl rfl rfl rfl rfl rfl rfl rfl rfl rfl rfl rfl rfl rfl rfl rfl rfl rfl rfl rfl rfl rfl) ?_
            refine z_istore_n C [(3, .int (nI 2)), (2, .int (nI 2)), (1, .int (rS (r 9) (n 10) (n 12) 2)), (0, .ref (ad 0))] dX6_takeSitter_49 rfl (by decide) rfl ?_
            refine z_iload_n C dX6_takeSitter_50 rfl (show zlk _ 3 = some (.int (nI 2)) from rfl) ?_
            refine z_if_leN C 56 dX6_takeSitter_51 (by decide) (by decide) (fun h => absurd h (by decide)) (fun _ => ?_)
            refine z_iload_n C dX6_takeSitter_54 rfl (show zlk _ 3 = some (.int (nI 2)) from rfl) ?_
            exact E _ _ _ _ (Or.inl (by have hFn : rF (r 9) (n 10) (n 12) 3 = (2, pa6) := (rF_step (by rw [hF2]) (by show m_hr (r 9) (n 10) (sk (r 9) (n 10) (nE (r 9) (n 10) (rwq (r 9) (n 10) (n 12) 1))) = nI 44; rw [← hq1, ← E2]; exact h19t_2)).trans (show nF (r 9) (n 10) (rwq (r 9) (n 10) (n 12) 2) 0 63 = (2, pa6) by rw [← hq2, ea6]; exact nF_B hA6 hB6); rw [rF_up (i := 3) (by decide) (by rw [hFn]; simp), hFn]; exact ⟨by simp, rfl, mJ_of rfl rfl rfl rfl rfl rfl rfl rfl rfl rfl rfl rfl rfl rfl rfl rfl rfl rfl rfl rfl rfl rfl⟩)) (rfl) dX6_takeSitter_55
          · replace ea6 : pa6 = sk (r 9) (n 10) (q2) := ea6
            replace eb6 : pb6 = nE (r 9) (n 10) (q2) := eb6
            replace ev6 : vv6 = nV (r 9) (n 10) (q2) := ev6
            replace hA6 : nOk (r 9) (n 10) (q2) = true := hA6
            replace hB6 : ¬ nBad (r 9) (n 10) (q2) 0 63 := hB6
            have lb6 : pb6 ≤ n 10 := by rw [eb6]; exact (nE_le (lq2)).2
            refine z_X (Y := MW θ ad (nv (n 0) (n 1) (n 3) (n 5) (n 8) (n 10) pb6 vv6 pa6 (n 15) (n 16) (n 18) (n 20) (n 22) (n 27)) g r) (mw_eq rfl rfl rfl rfl rfl rfl rfl rfl rfl rfl rfl rfl rfl rfl rfl rfl rfl rfl rfl rfl rfl rfl rfl rfl rfl rfl rfl rfl rfl rfl rfl rfl) ?_
            refine z_istore_n C [(3, .int (nI 0)), (2, .int (nI 2)), (1, .int (rS (r 9) (n 10) (n 12) 2)), (0, .ref (ad 0))] dX6_takeSitter_49 rfl (by decide) rfl ?_
            refine z_iload_n C dX6_takeSitter_50 rfl (show zlk _ 3 = some (.int (nI 0)) from rfl) ?_
            refine z_if_leN C 56 dX6_takeSitter_51 (by decide) (by decide) (fun _ => ?_) (fun h => absurd h (by decide))
            have hF3 : rF (r 9) (n 10) (n 12) 3 = (0, 0) := (rF_step (by rw [hF2]) (by show m_hr (r 9) (n 10) (sk (r 9) (n 10) (nE (r 9) (n 10) (rwq (r 9) (n 10) (n 12) 1))) = nI 44; rw [← hq1, ← E2]; exact h19t_2)).trans (by rw [← hq2]; exact nF_C hA6 hB6)
            refine z_iload_n C dX6_takeSitter_56 rfl (show zlk _ 1 = some (.int (rS (r 9) (n 10) (n 12) 2)) from rfl) ?_
            refine z_aload_n C dX6_takeSitter_57 rfl (show zlk _ 0 = some (.ref (ad 0)) from rfl) ?_
            refine z_mg C hin 13 (by decide) (by decide +kernel) (v := .int (nI vv6)) mfv_13 dX6_takeSitter_58 ?_
            refine z_bipush C (v := nI 6) dX6_takeSitter_61 (by decide) ?_
            refine z_iload_n C dX6_takeSitter_63 rfl (show zlk _ 2 = some (.int (nI 2)) from rfl) ?_
            refine z_imulN C dX6_takeSitter_64 ?_
            refine z_top (v' := .int (nI 12)) rfl ?_
            refine z_ishl C dX6_takeSitter_65 ?_
            refine z_ior C dX6_takeSitter_66 ?_
            refine z_top (v' := .int (rS (r 9) (n 10) (n 12) 3)) (by rw [show vv6 = nV (r 9) (n 10) (rwq (r 9) (n 10) (n 12) 2) by rw [← hq2]; exact ev6]; rfl) ?_
            refine z_istore_n C [(1, .int (rS (r 9) (n 10) (n 12) 3)), (3, .int (nI 0)), (2, .int (nI 2)), (0, .ref (ad 0))] dX6_takeSitter_67 rfl (by decide) rfl ?_
            refine z_iincN C [(2, .int (nI 3)), (1, .int (rS (r 9) (n 10) (n 12) 3)), (3, .int (nI 0)), (0, .ref (ad 0))] dX6_takeSitter_68 rfl (by decide) rfl ?_
            refine z_goto C 4 dX6_takeSitter_71 (by decide) ?_
            refine z_iload_n C dX6_takeSitter_4 rfl (show zlk _ 2 = some (.int (nI 3)) from rfl) ?_
            refine z_iconst C (v := nI 5) dX6_takeSitter_5 (by decide) ?_
            refine z_icmp_geF C 74 dX6_takeSitter_6 (by decide) (by omega) (by omega) (by decide) ?_
            refine z_iload_n C dX6_takeSitter_9 rfl (show zlk _ 2 = some (.int (nI 3)) from rfl) ?_
            refine z_if_leN C 42 dX6_takeSitter_10 (by decide) (by decide) (fun h => absurd h (by decide)) (fun _ => ?_)
            refine z_aload_n C dX6_takeSitter_13 rfl (show zlk _ 0 = some (.ref (ad 0)) from rfl) ?_
            refine z_callVi C (As := []) (rest := []) (c_X6_here l θ ad (nv (n 0) (n 1) (n 3) (n 5) (n 8) (n 10) pb6 vv6 pa6 (n 15) (n 16) (n 18) (n 20) (n 22) (n 27)) g r (show pb6 ≤ n 10 by omega) (hL)) gX6_takeSitter_X6_here rfl 0 (by decide +kernel) (by decide) (by decide) 0 rfl rfl rfl rfl rfl (Nat.le_of_ble_eq_true rfl) dX6_takeSitter_14 ?_
            rintro _ _ ⟨ph4, eh4, rfl, rfl⟩
            replace eh4 : ph4 = sk (r 9) (n 10) (pb6) := eh4
            have lh4 : ph4 ≤ n 10 := by rw [eh4]; exact (sk_le (by omega)).2
            refine z_top (v' := .int (m_hr (r 9) (n 10) ph4)) rfl ?_
            refine z_X (Y := MW θ ad (nv (n 0) (n 1) (n 3) (n 5) (n 8) (n 10) ph4 vv6 pa6 (n 15) (n 16) (n 18) (n 20) (n 22) (n 27)) g r) (mw_eq rfl rfl rfl rfl rfl rfl rfl rfl rfl rfl rfl rfl rfl rfl rfl rfl rfl rfl rfl rfl rfl rfl rfl rfl rfl rfl rfl rfl rfl rfl rfl rfl) ?_
            refine z_bipush C (v := nI 44) dX6_takeSitter_17 (by decide) ?_
            refine z_icmp_eq C 32 dX6_takeSitter_19 (by decide) (fun h19t_3 => ?_) (fun h19n_3 => ?_)
            · refine z_aload_n C dX6_takeSitter_32 rfl (show zlk _ 0 = some (.ref (ad 0)) from rfl) ?_
              refine z_dup C dX6_takeSitter_33 rfl ?_
              refine z_mg C hin 12 (by decide) (by decide +kernel) (v := .int (nI ph4)) mfv_12 dX6_takeSitter_34 ?_
              refine z_iconst C (v := nI 1) dX6_takeSitter_37 (by decide) ?_
              refine z_iaddN C dX6_takeSitter_38 ?_
              refine z_nmN (fun q3 eq3 => ?_)
              have E3 : ph4 = sk (r 9) (n 10) (nE (r 9) (n 10) (q2)) := by rw [← eb6]; exact eh4
              have hq3 : q3 = rwq (r 9) (n 10) (n 12) 3 := by rw [eq3, E3, hq2]; rfl
              have lq3 : q3 ≤ n 10 := by rw [eq3]; exact hr_lt h19t_3 (by decide)
              refine z_mp C hin 12 (by decide) (by decide +kernel) rfl rfl mpv_12 dX6_takeSitter_39 ?_
              refine z_aload_n C dX6_takeSitter_42 rfl (show zlk _ 0 = some (.ref (ad 0)) from rfl) ?_
              refine z_iconst C (v := nI 0) dX6_takeSitter_43 (by decide) ?_
              refine z_bipush C (v := nI 63) dX6_takeSitter_44 (by decide) ?_
              refine z_callVi C (As := [.int (nI 0), .int (nI 63)]) (rest := []) (c_X6_takeNumber l θ ad (nv (n 0) (n 1) (n 3) (n 5) (n 8) (n 10) q3 vv6 pa6 (n 15) (n 16) (n 18) (n 20) (n 22) (n 27)) g r 0 63 (lq3) (hL) (by decide) (by decide)) gX6_takeSitter_X6_takeNumber rfl 2 (by decide +kernel) (by decide) (by decide) 0 rfl rfl rfl rfl rfl (Nat.le_of_ble_eq_true rfl) dX6_takeSitter_46 ?_
              rintro _ _ ⟨pa7, pb7, vv7, ea7, eb7, ev7, (⟨hA7, rfl, rfl⟩ | ⟨hA7, hB7, rfl, rfl⟩ | ⟨hA7, hB7, rfl, rfl⟩)⟩
              · replace ea7 : pa7 = sk (r 9) (n 10) (q3) := ea7
                replace eb7 : pb7 = nE (r 9) (n 10) (q3) := eb7
                replace ev7 : vv7 = nV (r 9) (n 10) (q3) := ev7
                replace hA7 : nOk (r 9) (n 10) (q3) = false := hA7
                refine z_X (Y := MW θ ad (nv (n 0) (n 1) (n 3) (n 5) (n 8) (n 10) pa7 vv6 pa6 (n 15) (n 16) (n 18) (n 20) (n 22) (n 27)) (nI pa7) r) (mw_eq rfl rfl rfl rfl rfl rfl rfl rfl rfl rfl rfl rfl rfl rfl rfl rfl rfl rfl rfl rfl rfl rfl rfl rfl rfl rfl rfl rfl rfl rfl rfl rfl) ?_
                refine z_istore_n C [(3, .int (nI 1)), (2, .int (nI 3)), (1, .int (rS (r 9) (n 10) (n 12) 3)), (0, .ref (ad 0))] dX6_takeSitter_49 rfl (by decide) rfl ?_
                refine z_iload_n C dX6_takeSitter_50 rfl (show zlk _ 3 = some (.int (nI 1)) from rfl) ?_
                refine z_if_leN C 56 dX6_takeSitter_51 (by decide) (by decide) (fun h => absurd h (by decide)) (fun _ => ?_)
                refine z_iload_n C dX6_takeSitter_54 rfl (show zlk _ 3 = some (.int (nI 1)) from rfl) ?_
                exact E _ _ _ _ (Or.inl (by have hFn : rF (r 9) (n 10) (n 12) 4 = (1, pa7) := (rF_step (by rw [hF3]) (by show m_hr (r 9) (n 10) (sk (r 9) (n 10) (nE (r 9) (n 10) (rwq (r 9) (n 10) (n 12) 2))) = nI 44; rw [← hq2, ← E3]; exact h19t_3)).trans (show nF (r 9) (n 10) (rwq (r 9) (n 10) (n 12) 3) 0 63 = (1, pa7) by rw [← hq3, ea7]; exact nF_A hA7); rw [rF_up (i := 4) (by decide) (by rw [hFn]; simp), hFn]; exact ⟨by simp, rfl, mJ_of rfl rfl rfl rfl rfl rfl rfl rfl rfl rfl rfl rfl rfl rfl rfl rfl rfl rfl rfl rfl rfl rfl⟩)) (rfl) dX6_takeSitter_55
              · replace ea7 : pa7 = sk (r 9) (n 10) (q3) := ea7
                replace eb7 : pb7 = nE (r 9) (n 10) (q3) := eb7
                replace ev7 : vv7 = nV (r 9) (n 10) (q3) := ev7
                replace hA7 : nOk (r 9) (n 10) (q3) = true := hA7
                replace hB7 : nBad (r 9) (n 10) (q3) 0 63 := hB7
                refine z_X (Y := MW θ ad (nv (n 0) (n 1) (n 3) (n 5) (n 8) (n 10) pb7 vv7 pa7 (n 15) (n 16) (n 18) (n 20) (n 22) (n 27)) (nI pa7) r) (mw_eq rfl rfl rfl rfl rfl rfl rfl rfl rfl rfl rfl rfl rfl rfl rfl rfl rfl rfl rfl rfl rfl rfl rfl rfl rfl rfl rfl rfl rfl rfl rfl rfl) ?_
                refine z_istore_n C [(3, .int (nI 2)), (2, .int (nI 3)), (1, .int (rS (r 9) (n 10) (n 12) 3)), (0, .ref (ad 0))] dX6_takeSitter_49 rfl (by decide) rfl ?_
                refine z_iload_n C dX6_takeSitter_50 rfl (show zlk _ 3 = some (.int (nI 2)) from rfl) ?_
                refine z_if_leN C 56 dX6_takeSitter_51 (by decide) (by decide) (fun h => absurd h (by decide)) (fun _ => ?_)
                refine z_iload_n C dX6_takeSitter_54 rfl (show zlk _ 3 = some (.int (nI 2)) from rfl) ?_
                exact E _ _ _ _ (Or.inl (by have hFn : rF (r 9) (n 10) (n 12) 4 = (2, pa7) := (rF_step (by rw [hF3]) (by show m_hr (r 9) (n 10) (sk (r 9) (n 10) (nE (r 9) (n 10) (rwq (r 9) (n 10) (n 12) 2))) = nI 44; rw [← hq2, ← E3]; exact h19t_3)).trans (show nF (r 9) (n 10) (rwq (r 9) (n 10) (n 12) 3) 0 63 = (2, pa7) by rw [← hq3, ea7]; exact nF_B hA7 hB7); rw [rF_up (i := 4) (by decide) (by rw [hFn]; simp), hFn]; exact ⟨by simp, rfl, mJ_of rfl rfl rfl rfl rfl rfl rfl rfl rfl rfl rfl rfl rfl rfl rfl rfl rfl rfl rfl rfl rfl rfl⟩)) (rfl) dX6_takeSitter_55
              · replace ea7 : pa7 = sk (r 9) (n 10) (q3) := ea7
                replace eb7 : pb7 = nE (r 9) (n 10) (q3) := eb7
                replace ev7 : vv7 = nV (r 9) (n 10) (q3) := ev7
                replace hA7 : nOk (r 9) (n 10) (q3) = true := hA7
                replace hB7 : ¬ nBad (r 9) (n 10) (q3) 0 63 := hB7
                have lb7 : pb7 ≤ n 10 := by rw [eb7]; exact (nE_le (lq3)).2
                refine z_X (Y := MW θ ad (nv (n 0) (n 1) (n 3) (n 5) (n 8) (n 10) pb7 vv7 pa7 (n 15) (n 16) (n 18) (n 20) (n 22) (n 27)) g r) (mw_eq rfl rfl rfl rfl rfl rfl rfl rfl rfl rfl rfl rfl rfl rfl rfl rfl rfl rfl rfl rfl rfl rfl rfl rfl rfl rfl rfl rfl rfl rfl rfl rfl) ?_
                refine z_istore_n C [(3, .int (nI 0)), (2, .int (nI 3)), (1, .int (rS (r 9) (n 10) (n 12) 3)), (0, .ref (ad 0))] dX6_takeSitter_49 rfl (by decide) rfl ?_
                refine z_iload_n C dX6_takeSitter_50 rfl (show zlk _ 3 = some (.int (nI 0)) from rfl) ?_
                refine z_if_leN C 56 dX6_takeSitter_51 (by decide) (by decide) (fun _ => ?_) (fun h => absurd h (by decide))
                have hF4 : rF (r 9) (n 10) (n 12) 4 = (0, 0) := (rF_step (by rw [hF3]) (by show m_hr (r 9) (n 10) (sk (r 9) (n 10) (nE (r 9) (n 10) (rwq (r 9) (n 10) (n 12) 2))) = nI 44; rw [← hq2, ← E3]; exact h19t_3)).trans (by rw [← hq3]; exact nF_C hA7 hB7)
                refine z_iload_n C dX6_takeSitter_56 rfl (show zlk _ 1 = some (.int (rS (r 9) (n 10) (n 12) 3)) from rfl) ?_
                refine z_aload_n C dX6_takeSitter_57 rfl (show zlk _ 0 = some (.ref (ad 0)) from rfl) ?_
                refine z_mg C hin 13 (by decide) (by decide +kernel) (v := .int (nI vv7)) mfv_13 dX6_takeSitter_58 ?_
                refine z_bipush C (v := nI 6) dX6_takeSitter_61 (by decide) ?_
                refine z_iload_n C dX6_takeSitter_63 rfl (show zlk _ 2 = some (.int (nI 3)) from rfl) ?_
                refine z_imulN C dX6_takeSitter_64 ?_
                refine z_top (v' := .int (nI 18)) rfl ?_
                refine z_ishl C dX6_takeSitter_65 ?_
                refine z_ior C dX6_takeSitter_66 ?_
                refine z_top (v' := .int (rS (r 9) (n 10) (n 12) 4)) (by rw [show vv7 = nV (r 9) (n 10) (rwq (r 9) (n 10) (n 12) 3) by rw [← hq3]; exact ev7]; rfl) ?_
                refine z_istore_n C [(1, .int (rS (r 9) (n 10) (n 12) 4)), (3, .int (nI 0)), (2, .int (nI 3)), (0, .ref (ad 0))] dX6_takeSitter_67 rfl (by decide) rfl ?_
                refine z_iincN C [(2, .int (nI 4)), (1, .int (rS (r 9) (n 10) (n 12) 4)), (3, .int (nI 0)), (0, .ref (ad 0))] dX6_takeSitter_68 rfl (by decide) rfl ?_
                refine z_goto C 4 dX6_takeSitter_71 (by decide) ?_
                refine z_iload_n C dX6_takeSitter_4 rfl (show zlk _ 2 = some (.int (nI 4)) from rfl) ?_
                refine z_iconst C (v := nI 5) dX6_takeSitter_5 (by decide) ?_
                refine z_icmp_geF C 74 dX6_takeSitter_6 (by decide) (by omega) (by omega) (by decide) ?_
                refine z_iload_n C dX6_takeSitter_9 rfl (show zlk _ 2 = some (.int (nI 4)) from rfl) ?_
                refine z_if_leN C 42 dX6_takeSitter_10 (by decide) (by decide) (fun h => absurd h (by decide)) (fun _ => ?_)
                refine z_aload_n C dX6_takeSitter_13 rfl (show zlk _ 0 = some (.ref (ad 0)) from rfl) ?_
                refine z_callVi C (As := []) (rest := []) (c_X6_here l θ ad (nv (n 0) (n 1) (n 3) (n 5) (n 8) (n 10) pb7 vv7 pa7 (n 15) (n 16) (n 18) (n 20) (n 22) (n 27)) g r (show pb7 ≤ n 10 by omega) (hL)) gX6_takeSitter_X6_here rfl 0 (by decide +kernel) (by decide) (by decide) 0 rfl rfl rfl rfl rfl (Nat.le_of_ble_eq_true rfl) dX6_takeSitter_14 ?_
                rintro _ _ ⟨ph5, eh5, rfl, rfl⟩
                replace eh5 : ph5 = sk (r 9) (n 10) (pb7) := eh5
                have lh5 : ph5 ≤ n 10 := by rw [eh5]; exact (sk_le (by omega)).2
                refine z_top (v' := .int (m_hr (r 9) (n 10) ph5)) rfl ?_
                refine z_X (Y := MW θ ad (nv (n 0) (n 1) (n 3) (n 5) (n 8) (n 10) ph5 vv7 pa7 (n 15) (n 16) (n 18) (n 20) (n 22) (n 27)) g r) (mw_eq rfl rfl rfl rfl rfl rfl rfl rfl rfl rfl rfl rfl rfl rfl rfl rfl rfl rfl rfl rfl rfl rfl rfl rfl rfl rfl rfl rfl rfl rfl rfl rfl) ?_
                refine z_bipush C (v := nI 44) dX6_takeSitter_17 (by decide) ?_
                refine z_icmp_eq C 32 dX6_takeSitter_19 (by decide) (fun h19t_4 => ?_) (fun h19n_4 => ?_)
                · refine z_aload_n C dX6_takeSitter_32 rfl (show zlk _ 0 = some (.ref (ad 0)) from rfl) ?_
                  refine z_dup C dX6_takeSitter_33 rfl ?_
                  refine z_mg C hin 12 (by decide) (by decide +kernel) (v := .int (nI ph5)) mfv_12 dX6_takeSitter_34 ?_
                  refine z_iconst C (v := nI 1) dX6_takeSitter_37 (by decide) ?_
                  refine z_iaddN C dX6_takeSitter_38 ?_
                  refine z_nmN (fun q4 eq4 => ?_)
                  have E4 : ph5 = sk (r 9) (n 10) (nE (r 9) (n 10) (q3)) := by rw [← eb7]; exact eh5
                  have hq4 : q4 = rwq (r 9) (n 10) (n 12) 4 := by rw [eq4, E4, hq3]; rfl
                  have lq4 : q4 ≤ n 10 := by rw [eq4]; exact hr_lt h19t_4 (by decide)
                  refine z_mp C hin 12 (by decide) (by decide +kernel) rfl rfl mpv_12 dX6_takeSitter_39 ?_
                  refine z_aload_n C dX6_takeSitter_42 rfl (show zlk _ 0 = some (.ref (ad 0)) from rfl) ?_
                  refine z_iconst C (v := nI 0) dX6_takeSitter_43 (by decide) ?_
                  refine z_bipush C (v := nI 63) dX6_takeSitter_44 (by decide) ?_
                  refine z_callVi C (As := [.int (nI 0), .int (nI 63)]) (rest := []) (c_X6_takeNumber l θ ad (nv (n 0) (n 1) (n 3) (n 5) (n 8) (n 10) q4 vv7 pa7 (n 15) (n 16) (n 18) (n 20) (n 22) (n 27)) g r 0 63 (lq4) (hL) (by decide) (by decide)) gX6_takeSitter_X6_takeNumber rfl 2 (by decide +kernel) (by decide) (by decide) 0 rfl rfl rfl rfl rfl (Nat.le_of_ble_eq_true rfl) dX6_takeSitter_46 ?_
                  rintro _ _ ⟨pa8, pb8, vv8, ea8, eb8, ev8, (⟨hA8, rfl, rfl⟩ | ⟨hA8, hB8, rfl, rfl⟩ | ⟨hA8, hB8, rfl, rfl⟩)⟩
                  · replace ea8 : pa8 = sk (r 9) (n 10) (q4) := ea8
                    replace eb8 : pb8 = nE (r 9) (n 10) (q4) := eb8
                    replace ev8 : vv8 = nV (r 9) (n 10) (q4) := ev8
                    replace hA8 : nOk (r 9) (n 10) (q4) = false := hA8
                    refine z_X (Y := MW θ ad (nv (n 0) (n 1) (n 3) (n 5) (n 8) (n 10) pa8 vv7 pa7 (n 15) (n 16) (n 18) (n 20) (n 22) (n 27)) (nI pa8) r) (mw_eq rfl rfl rfl rfl rfl rfl rfl rfl rfl rfl rfl rfl rfl rfl rfl rfl rfl rfl rfl rfl rfl rfl rfl rfl rfl rfl rfl rfl rfl rfl rfl rfl) ?_
                    refine z_istore_n C [(3, .int (nI 1)), (2, .int (nI 4)), (1, .int (rS (r 9) (n 10) (n 12) 4)), (0, .ref (ad 0))] dX6_takeSitter_49 rfl (by decide) rfl ?_
                    refine z_iload_n C dX6_takeSitter_50 rfl (show zlk _ 3 = some (.int (nI 1)) from rfl) ?_
                    refine z_if_leN C 56 dX6_takeSitter_51 (by decide) (by decide) (fun h => absurd h (by decide)) (fun _ => ?_)
                    refine z_iload_n C dX6_takeSitter_54 rfl (show zlk _ 3 = some (.int (nI 1)) from rfl) ?_
                    exact E _ _ _ _ (Or.inl (by have hFn : rF (r 9) (n 10) (n 12) 5 = (1, pa8) := (rF_step (by rw [hF4]) (by show m_hr (r 9) (n 10) (sk (r 9) (n 10) (nE (r 9) (n 10) (rwq (r 9) (n 10) (n 12) 3))) = nI 44; rw [← hq3, ← E4]; exact h19t_4)).trans (show nF (r 9) (n 10) (rwq (r 9) (n 10) (n 12) 4) 0 63 = (1, pa8) by rw [← hq4, ea8]; exact nF_A hA8); rw [rF_up (i := 5) (by decide) (by rw [hFn]; simp), hFn]; exact ⟨by simp, rfl, mJ_of rfl rfl rfl rfl rfl rfl rfl rfl rfl rfl rfl rfl rfl rfl rfl rfl rfl rfl rfl rfl rfl rfl⟩)) (rfl) dX6_takeSitter_55
                  · replace ea8 : pa8 = sk (r 9) (n 10) (q4) := ea8
                    replace eb8 : pb8 = nE (r 9) (n 10) (q4) := eb8
                    replace ev8 : vv8 = nV (r 9) (n 10) (q4) := ev8
                    replace hA8 : nOk (r 9) (n 10) (q4) = true := hA8
                    replace hB8 : nBad (r 9) (n 10) (q4) 0 63 := hB8
                    refine z_X (Y := MW θ ad (nv (n 0) (n 1) (n 3) (n 5) (n 8) (n 10) pb8 vv8 pa8 (n 15) (n 16) (n 18) (n 20) (n 22) (n 27)) (nI pa8) r) (mw_eq rfl rfl rfl rfl rfl rfl rfl rfl rfl rfl rfl rfl rfl rfl rfl rfl rfl rfl rfl rfl rfl rfl rfl rfl rfl rfl rfl rfl rfl rfl rfl rfl) ?_
                    refine z_istore_n C [(3, .int (nI 2)), (2, .int (nI 4)), (1, .int (rS (r 9) (n 10) (n 12) 4)), (0, .ref (ad 0))] dX6_takeSitter_49 rfl (by decide) rfl ?_
                    refine z_iload_n C dX6_takeSitter_50 rfl (show zlk _ 3 = some (.int (nI 2)) from rfl) ?_
                    refine z_if_leN C 56 dX6_takeSitter_51 (by decide) (by decide) (fun h => absurd h (by decide)) (fun _ => ?_)
                    refine z_iload_n C dX6_takeSitter_54 rfl (show zlk _ 3 = some (.int (nI 2)) from rfl) ?_
                    exact E _ _ _ _ (Or.inl (by have hFn : rF (r 9) (n 10) (n 12) 5 = (2, pa8) := (rF_step (by rw [hF4]) (by show m_hr (r 9) (n 10) (sk (r 9) (n 10) (nE (r 9) (n 10) (rwq (r 9) (n 10) (n 12) 3))) = nI 44; rw [← hq3, ← E4]; exact h19t_4)).trans (show nF (r 9) (n 10) (rwq (r 9) (n 10) (n 12) 4) 0 63 = (2, pa8) by rw [← hq4, ea8]; exact nF_B hA8 hB8); rw [rF_up (i := 5) (by decide) (by rw [hFn]; simp), hFn]; exact ⟨by simp, rfl, mJ_of rfl rfl rfl rfl rfl rfl rfl rfl rfl rfl rfl rfl rfl rfl rfl rfl rfl rfl rfl rfl rfl rfl⟩)) (rfl) dX6_takeSitter_55
                  · replace ea8 : pa8 = sk (r 9) (n 10) (q4) := ea8
                    replace eb8 : pb8 = nE (r 9) (n 10) (q4) := eb8
                    replace ev8 : vv8 = nV (r 9) (n 10) (q4) := ev8
                    replace hA8 : nOk (r 9) (n 10) (q4) = true := hA8
                    replace hB8 : ¬ nBad (r 9) (n 10) (q4) 0 63 := hB8
                    have lb8 : pb8 ≤ n 10 := by rw [eb8]; exact (nE_le (lq4)).2
                    refine z_X (Y := MW θ ad (nv (n 0) (n 1) (n 3) (n 5) (n 8) (n 10) pb8 vv8 pa8 (n 15) (n 16) (n 18) (n 20) (n 22) (n 27)) g r) (mw_eq rfl rfl rfl rfl rfl rfl rfl rfl rfl rfl rfl rfl rfl rfl rfl rfl rfl rfl rfl rfl rfl rfl rfl rfl rfl rfl rfl rfl rfl rfl rfl rfl) ?_
                    refine z_istore_n C [(3, .int (nI 0)), (2, .int (nI 4)), (1, .int (rS (r 9) (n 10) (n 12) 4)), (0, .ref (ad 0))] dX6_takeSitter_49 rfl (by decide) rfl ?_
                    refine z_iload_n C dX6_takeSitter_50 rfl (show zlk _ 3 = some (.int (nI 0)) from rfl) ?_
                    refine z_if_leN C 56 dX6_takeSitter_51 (by decide) (by decide) (fun _ => ?_) (fun h => absurd h (by decide))
                    have hF5 : rF (r 9) (n 10) (n 12) 5 = (0, 0) := (rF_step (by rw [hF4]) (by show m_hr (r 9) (n 10) (sk (r 9) (n 10) (nE (r 9) (n 10) (rwq (r 9) (n 10) (n 12) 3))) = nI 44; rw [← hq3, ← E4]; exact h19t_4)).trans (by rw [← hq4]; exact nF_C hA8 hB8)
                    refine z_iload_n C dX6_takeSitter_56 rfl (show zlk _ 1 = some (.int (rS (r 9) (n 10) (n 12) 4)) from rfl) ?_
                    refine z_aload_n C dX6_takeSitter_57 rfl (show zlk _ 0 = some (.ref (ad 0)) from rfl) ?_
                    refine z_mg C hin 13 (by decide) (by decide +kernel) (v := .int (nI vv8)) mfv_13 dX6_takeSitter_58 ?_
                    refine z_bipush C (v := nI 6) dX6_takeSitter_61 (by decide) ?_
                    refine z_iload_n C dX6_takeSitter_63 rfl (show zlk _ 2 = some (.int (nI 4)) from rfl) ?_
                    refine z_imulN C dX6_takeSitter_64 ?_
                    refine z_top (v' := .int (nI 24)) rfl ?_
                    refine z_ishl C dX6_takeSitter_65 ?_
                    refine z_ior C dX6_takeSitter_66 ?_
                    refine z_top (v' := .int (rS (r 9) (n 10) (n 12) 5)) (by rw [show vv8 = nV (r 9) (n 10) (rwq (r 9) (n 10) (n 12) 4) by rw [← hq4]; exact ev8]; rfl) ?_
                    refine z_istore_n C [(1, .int (rS (r 9) (n 10) (n 12) 5)), (3, .int (nI 0)), (2, .int (nI 4)), (0, .ref (ad 0))] dX6_takeSitter_67 rfl (by decide) rfl ?_
                    refine z_iincN C [(2, .int (nI 5)), (1, .int (rS (r 9) (n 10) (n 12) 5)), (3, .int (nI 0)), (0, .ref (ad 0))] dX6_takeSitter_68 rfl (by decide) rfl ?_
                    refine z_goto C 4 dX6_takeSitter_71 (by decide) ?_
                    refine z_iload_n C dX6_takeSitter_4 rfl (show zlk _ 2 = some (.int (nI 5)) from rfl) ?_
                    refine z_iconst C (v := nI 5) dX6_takeSitter_5 (by decide) ?_
                    refine z_icmp_geT C 74 dX6_takeSitter_6 (by decide) (by omega) (by omega) (by decide) ?_
                    refine z_aload_n C dX6_takeSitter_74 rfl (show zlk _ 0 = some (.ref (ad 0)) from rfl) ?_
                    refine z_mg C hin 17 (by decide) (by decide +kernel) (v := .ref (ad 17)) mf_17 dX6_takeSitter_75 ?_
                    refine z_aload_n C dX6_takeSitter_78 rfl (show zlk _ 0 = some (.ref (ad 0)) from rfl) ?_
                    refine z_mg C hin 16 (by decide) (by decide +kernel) (v := .int (nI (n 16))) mfv_16 dX6_takeSitter_79 ?_
                    refine z_iload_n C dX6_takeSitter_82 rfl (show zlk _ 1 = some (.int (rS (r 9) (n 10) (n 12) 5)) from rfl) ?_
                    refine z_iast C (f := (r 17)) 6 mr_17 (n 16) rfl (by omega) (by decide) _ msn_17 dX6_takeSitter_83 ?_
                    refine z_aload_n C dX6_takeSitter_84 rfl (show zlk _ 0 = some (.ref (ad 0)) from rfl) ?_
                    refine z_dup C dX6_takeSitter_85 rfl ?_
                    refine z_mg C hin 16 (by decide) (by decide +kernel) (v := .int (nI (n 16))) mfv_16 dX6_takeSitter_86 ?_
                    refine z_iconst C (v := nI 1) dX6_takeSitter_89 (by decide) ?_
                    refine z_iaddN C dX6_takeSitter_90 ?_
                    refine z_mp C hin 16 (by decide) (by decide +kernel) rfl rfl mpv_16 dX6_takeSitter_91 ?_
                    refine z_iconst C (v := nI 0) dX6_takeSitter_94 (by decide) ?_
                    exact E _ _ _ _ (Or.inr ⟨by rw [hF5], rfl, _, _, _, _, by rw [← hq4]; exact eb8, rfl, (mw_eq rfl rfl rfl rfl rfl rfl rfl rfl rfl rfl rfl rfl rfl rfl rfl rfl rfl rfl rfl rfl rfl rfl rfl rfl rfl rfl rfl rfl rfl rfl rfl rfl)⟩) (rfl) dX6_takeSitter_95
                · refine z_aload_n C dX6_takeSitter_22 rfl (show zlk _ 0 = some (.ref (ad 0)) from rfl) ?_
                  refine z_iconst C (v := nI 1) dX6_takeSitter_23 (by decide) ?_
                  refine z_aload_n C dX6_takeSitter_24 rfl (show zlk _ 0 = some (.ref (ad 0)) from rfl) ?_
                  refine z_mg C hin 12 (by decide) (by decide +kernel) (v := .int (nI ph5)) mfv_12 dX6_takeSitter_25 ?_
                  refine z_callVi C (As := [.int (nI 1), .int (nI ph5)]) (rest := []) (c_X6_fails l θ ad (nv (n 0) (n 1) (n 3) (n 5) (n 8) (n 10) ph5 vv7 pa7 (n 15) (n 16) (n 18) (n 20) (n 22) (n 27)) g r 1 ph5) gX6_takeSitter_X6_fails rfl 2 (by decide +kernel) (by decide) (by decide) 0 rfl rfl rfl rfl rfl (Nat.le_of_ble_eq_true rfl) dX6_takeSitter_28 ?_
                  rintro _ _ ⟨rfl, rfl⟩
                  refine z_top (v' := .int (nI 1)) rfl ?_
                  refine z_X (Y := MW θ ad (nv (n 0) (n 1) (n 3) (n 5) (n 8) (n 10) ph5 vv7 pa7 (n 15) (n 16) (n 18) (n 20) (n 22) (n 27)) (nI ph5) r) (mw_eq rfl rfl rfl rfl rfl rfl rfl rfl rfl rfl rfl rfl rfl rfl rfl rfl rfl rfl rfl rfl rfl rfl rfl rfl rfl rfl rfl rfl rfl rfl rfl rfl) ?_
                  exact E _ _ _ _ (Or.inl (by have hFn : rF (r 9) (n 10) (n 12) 5 = _ := rF_sign (by rw [hF4]) (by show ¬ m_hr (r 9) (n 10) (sk (r 9) (n 10) (nE (r 9) (n 10) (rwq (r 9) (n 10) (n 12) 3))) = nI 44; rw [← hq3, ← eb7, ← eh5]; exact h19n_4); have EE : sk (r 9) (n 10) (rE (r 9) (n 10) (n 12) 4) = ph5 := (by show sk (r 9) (n 10) (nE (r 9) (n 10) (rwq (r 9) (n 10) (n 12) 3)) = _; rw [← hq3, ← eb7, ← eh5]); rw [EE] at hFn; rw [rF_up (i := 5) (by decide) (by rw [hFn]; simp), hFn]; exact ⟨by simp, rfl, mJ_of rfl rfl rfl rfl rfl rfl rfl rfl rfl rfl rfl rfl rfl rfl rfl rfl rfl rfl rfl rfl rfl rfl⟩)) (rfl) dX6_takeSitter_31
            · refine z_aload_n C dX6_takeSitter_22 rfl (show zlk _ 0 = some (.ref (ad 0)) from rfl) ?_
              refine z_iconst C (v := nI 1) dX6_takeSitter_23 (by decide) ?_
              refine z_aload_n C dX6_takeSitter_24 rfl (show zlk _ 0 = some (.ref (ad 0)) from rfl) ?_
              refine z_mg C hin 12 (by decide) (by decide +kernel) (v := .int (nI ph4)) mfv_12 dX6_takeSitter_25 ?_
              refine z_callVi C (As := [.int (nI 1), .int (nI ph4)]) (rest := []) (c_X6_fails l θ ad (nv (n 0) (n 1) (n 3) (n 5) (n 8) (n 10) ph4 vv6 pa6 (n 15) (n 16) (n 18) (n 20) (n 22) (n 27)) g r 1 ph4) gX6_takeSitter_X6_fails rfl 2 (by decide +kernel) (by decide) (by decide) 0 rfl rfl rfl rfl rfl (Nat.le_of_ble_eq_true rfl) dX6_takeSitter_28 ?_
              rintro _ _ ⟨rfl, rfl⟩
              refine z_top (v' := .int (nI 1)) rfl ?_
              refine z_X (Y := MW θ ad (nv (n 0) (n 1) (n 3) (n 5) (n 8) (n 10) ph4 vv6 pa6 (n 15) (n 16) (n 18) (n 20) (n 22) (n 27)) (nI ph4) r) (mw_eq rfl rfl rfl rfl rfl rfl rfl rfl rfl rfl rfl rfl rfl rfl rfl rfl rfl rfl rfl rfl rfl rfl rfl rfl rfl rfl rfl rfl rfl rfl rfl rfl) ?_
              exact E _ _ _ _ (Or.inl (by have hFn : rF (r 9) (n 10) (n 12) 4 = _ := rF_sign (by rw [hF3]) (by show ¬ m_hr (r 9) (n 10) (sk (r 9) (n 10) (nE (r 9) (n 10) (rwq (r 9) (n 10) (n 12) 2))) = nI 44; rw [← hq2, ← eb6, ← eh4]; exact h19n_3); have EE : sk (r 9) (n 10) (rE (r 9) (n 10) (n 12) 3) = ph4 := (by show sk (r 9) (n 10) (nE (r 9) (n 10) (rwq (r 9) (n 10) (n 12) 2)) = _; rw [← hq2, ← eb6, ← eh4]); rw [EE] at hFn; rw [rF_up (i := 4) (by decide) (by rw [hFn]; simp), hFn]; exact ⟨by simp, rfl, mJ_of rfl rfl rfl rfl rfl rfl rfl rfl rfl rfl rfl rfl rfl rfl rfl rfl rfl rfl rfl rfl rfl rfl⟩)) (rfl) dX6_takeSitter_31
        · refine z_aload_n C dX6_takeSitter_22 rfl (show zlk _ 0 = some (.ref (ad 0)) from rfl) ?_
          refine z_iconst C (v := nI 1) dX6_takeSitter_23 (by decide) ?_
          refine z_aload_n C dX6_takeSitter_24 rfl (show zlk _ 0 = some (.ref (ad 0)) from rfl) ?_
          refine z_mg C hin 12 (by decide) (by decide +kernel) (v := .int (nI ph3)) mfv_12 dX6_takeSitter_25 ?_
          refine z_callVi C (As := [.int (nI 1), .int (nI ph3)]) (rest := []) (c_X6_fails l θ ad (nv (n 0) (n 1) (n 3) (n 5) (n 8) (n 10) ph3 vv5 pa5 (n 15) (n 16) (n 18) (n 20) (n 22) (n 27)) g r 1 ph3) gX6_takeSitter_X6_fails rfl 2 (by decide +kernel) (by decide) (by decide) 0 rfl rfl rfl rfl rfl (Nat.le_of_ble_eq_true rfl) dX6_takeSitter_28 ?_
          rintro _ _ ⟨rfl, rfl⟩
          refine z_top (v' := .int (nI 1)) rfl ?_
          refine z_X (Y := MW θ ad (nv (n 0) (n 1) (n 3) (n 5) (n 8) (n 10) ph3 vv5 pa5 (n 15) (n 16) (n 18) (n 20) (n 22) (n 27)) (nI ph3) r) (mw_eq rfl rfl rfl rfl rfl rfl rfl rfl rfl rfl rfl rfl rfl rfl rfl rfl rfl rfl rfl rfl rfl rfl rfl rfl rfl rfl rfl rfl rfl rfl rfl rfl) ?_
          exact E _ _ _ _ (Or.inl (by have hFn : rF (r 9) (n 10) (n 12) 3 = _ := rF_sign (by rw [hF2]) (by show ¬ m_hr (r 9) (n 10) (sk (r 9) (n 10) (nE (r 9) (n 10) (rwq (r 9) (n 10) (n 12) 1))) = nI 44; rw [← hq1, ← eb5, ← eh3]; exact h19n_2); have EE : sk (r 9) (n 10) (rE (r 9) (n 10) (n 12) 2) = ph3 := (by show sk (r 9) (n 10) (nE (r 9) (n 10) (rwq (r 9) (n 10) (n 12) 1)) = _; rw [← hq1, ← eb5, ← eh3]); rw [EE] at hFn; rw [rF_up (i := 3) (by decide) (by rw [hFn]; simp), hFn]; exact ⟨by simp, rfl, mJ_of rfl rfl rfl rfl rfl rfl rfl rfl rfl rfl rfl rfl rfl rfl rfl rfl rfl rfl rfl rfl rfl rfl⟩)) (rfl) dX6_takeSitter_31
    · refine z_aload_n C dX6_takeSitter_22 rfl (show zlk _ 0 = some (.ref (ad 0)) from rfl) ?_
      refine z_iconst C (v := nI 1) dX6_takeSitter_23 (by decide) ?_
      refine z_aload_n C dX6_takeSitter_24 rfl (show zlk _ 0 = some (.ref (ad 0)) from rfl) ?_
      refine z_mg C hin 12 (by decide) (by decide +kernel) (v := .int (nI ph2)) mfv_12 dX6_takeSitter_25 ?_
      refine z_callVi C (As := [.int (nI 1), .int (nI ph2)]) (rest := []) (c_X6_fails l θ ad (nv (n 0) (n 1) (n 3) (n 5) (n 8) (n 10) ph2 vv4 pa4 (n 15) (n 16) (n 18) (n 20) (n 22) (n 27)) g r 1 ph2) gX6_takeSitter_X6_fails rfl 2 (by decide +kernel) (by decide) (by decide) 0 rfl rfl rfl rfl rfl (Nat.le_of_ble_eq_true rfl) dX6_takeSitter_28 ?_
      rintro _ _ ⟨rfl, rfl⟩
      refine z_top (v' := .int (nI 1)) rfl ?_
      refine z_X (Y := MW θ ad (nv (n 0) (n 1) (n 3) (n 5) (n 8) (n 10) ph2 vv4 pa4 (n 15) (n 16) (n 18) (n 20) (n 22) (n 27)) (nI ph2) r) (mw_eq rfl rfl rfl rfl rfl rfl rfl rfl rfl rfl rfl rfl rfl rfl rfl rfl rfl rfl rfl rfl rfl rfl rfl rfl rfl rfl rfl rfl rfl rfl rfl rfl) ?_
      exact E _ _ _ _ (Or.inl (by have hFn : rF (r 9) (n 10) (n 12) 2 = _ := rF_sign (by rw [hF1]) (by show ¬ m_hr (r 9) (n 10) (sk (r 9) (n 10) (nE (r 9) (n 10) (rwq (r 9) (n 10) (n 12) 0))) = nI 44; rw [← hq0, ← eb4, ← eh2]; exact h19n_1); have EE : sk (r 9) (n 10) (rE (r 9) (n 10) (n 12) 1) = ph2 := (by show sk (r 9) (n 10) (nE (r 9) (n 10) (rwq (r 9) (n 10) (n 12) 0)) = _; rw [← hq0, ← eb4, ← eh2]); rw [EE] at hFn; rw [rF_up (i := 2) (by decide) (by rw [hFn]; simp), hFn]; exact ⟨by simp, rfl, mJ_of rfl rfl rfl rfl rfl rfl rfl rfl rfl rfl rfl rfl rfl rfl rfl rfl rfl rfl rfl rfl rfl rfl⟩)) (rfl) dX6_takeSitter_31

def m_full (n : Nat → Nat) (k : Nat) : Bool := if k = 0 then decide (0 < n 15) else if k = 1 then decide (n 16 = 6) else if k = 2 then decide (n 18 = 5) else decide (n 20 = 6)
set_option maxHeartbeats 4000000 in
set_option maxRecDepth 100000 in
theorem c_X6_isFull_0 (l : Launch) (θ : zH) (ad : Nat → Nat) (n : Nat → Nat) (g : Int32) (r : Nat → Nat → Int32)  (h15 : n 15 < 2 ^ 31) (h16 : n 16 < 2 ^ 31) (h18 : n 18 < 2 ^ 31) (h20 : n 20 < 2 ^ 31) : cI l yX6_isFull wsX6_isFull 0 θ [.ref (ad 0), .int (nI 0)] (MW θ ad n g r) (fun r0 Y => r0 = bI (m_full n 0) ∧ Y = MW θ ad n g r) := by
  refine z_cI (by decide) rfl rfl (Nat.le_of_ble_eq_true rfl) (lv := [(0, .ref (ad 0)), (1, .int (nI 0))]) rfl (fun κ C E => ?_)
  have hin : ∀ w ∈ wsX60, w ∈ wsX6_isFull := by decide +kernel
  refine z_iload_n C dX6_isFull_0 rfl (show zlk _ 1 = some (.int (nI 0)) from rfl) ?_
  refine z_if_neN C 19 dX6_isFull_1 (by decide) (by decide) (fun h => absurd h (by decide)) (fun _ => ?_)
  refine z_aload_n C dX6_isFull_4 rfl (show zlk _ 0 = some (.ref (ad 0)) from rfl) ?_
  refine z_mg C hin 15 (by decide) (by decide +kernel) (v := .int (nI (n 15))) mf_15 dX6_isFull_5 ?_
  refine z_if_leN C 15 dX6_isFull_8 (by decide) (by omega) (fun h8t_1 => ?_) (fun h8n_1 => ?_)
  · refine z_iconst C (v := nI 0) dX6_isFull_15 (by decide) ?_
    refine z_goto C 76 dX6_isFull_16 (by decide) ?_
    exact E _ _ _ _ (⟨bI_f (by simp [m_full, h8t_1]), rfl⟩) (rfl) dX6_isFull_76
  · refine z_iconst C (v := nI 1) dX6_isFull_11 (by decide) ?_
    refine z_goto C 76 dX6_isFull_12 (by decide) ?_
    exact E _ _ _ _ (⟨bI_t (by simp [m_full, h8n_1]; omega), rfl⟩) (rfl) dX6_isFull_76

set_option maxHeartbeats 4000000 in
set_option maxRecDepth 100000 in
theorem c_X6_isFull_1 (l : Launch) (θ : zH) (ad : Nat → Nat) (n : Nat → Nat) (g : Int32) (r : Nat → Nat → Int32)  (h15 : n 15 < 2 ^ 31) (h16 : n 16 < 2 ^ 31) (h18 : n 18 < 2 ^ 31) (h20 : n 20 < 2 ^ 31) : cI l yX6_isFull wsX6_isFull 0 θ [.ref (ad 0), .int (nI 1)] (MW θ ad n g r) (fun r0 Y => r0 = bI (m_full n 1) ∧ Y = MW θ ad n g r) := by
  refine z_cI (by decide) rfl rfl (Nat.le_of_ble_eq_true rfl) (lv := [(0, .ref (ad 0)), (1, .int (nI 1))]) rfl (fun κ C E => ?_)
  have hin : ∀ w ∈ wsX60, w ∈ wsX6_isFull := by decide +kernel
  refine z_iload_n C dX6_isFull_0 rfl (show zlk _ 1 = some (.int (nI 1)) from rfl) ?_
  refine z_if_neN C 19 dX6_isFull_1 (by decide) (by decide) (fun _ => ?_) (fun h => absurd h (by decide))
  refine z_iload_n C dX6_isFull_19 rfl (show zlk _ 1 = some (.int (nI 1)) from rfl) ?_
  refine z_iconst C (v := nI 1) dX6_isFull_20 (by decide) ?_
  refine z_icmp_neF C 41 dX6_isFull_21 (by decide) (by omega) (by omega) (by decide) ?_
  refine z_aload_n C dX6_isFull_24 rfl (show zlk _ 0 = some (.ref (ad 0)) from rfl) ?_
  refine z_mg C hin 16 (by decide) (by decide +kernel) (v := .int (nI (n 16))) mf_16 dX6_isFull_25 ?_
  refine z_bipush C (v := nI 6) dX6_isFull_28 (by decide) ?_
  refine z_icmp_neN C 37 dX6_isFull_30 (by decide) (by omega) (by omega) (fun h30t_1 => ?_) (fun h30n_1 => ?_)
  · refine z_iconst C (v := nI 0) dX6_isFull_37 (by decide) ?_
    refine z_goto C 76 dX6_isFull_38 (by decide) ?_
    exact E _ _ _ _ (⟨bI_f (by simp [m_full, h30t_1]), rfl⟩) (rfl) dX6_isFull_76
  · refine z_iconst C (v := nI 1) dX6_isFull_33 (by decide) ?_
    refine z_goto C 76 dX6_isFull_34 (by decide) ?_
    exact E _ _ _ _ (⟨bI_t (by simp [m_full, h30n_1]), rfl⟩) (rfl) dX6_isFull_76

set_option maxHeartbeats 4000000 in
set_option maxRecDepth 100000 in
theorem c_X6_isFull_2 (l : Launch) (θ : zH) (ad : Nat → Nat) (n : Nat → Nat) (g : Int32) (r : Nat → Nat → Int32)  (h15 : n 15 < 2 ^ 31) (h16 : n 16 < 2 ^ 31) (h18 : n 18 < 2 ^ 31) (h20 : n 20 < 2 ^ 31) : cI l yX6_isFull wsX6_isFull 0 θ [.ref (ad 0), .int (nI 2)] (MW θ ad n g r) (fun r0 Y => r0 = bI (m_full n 2) ∧ Y = MW θ ad n g r) := by
  refine z_cI (by decide) rfl rfl (Nat.le_of_ble_eq_true rfl) (lv := [(0, .ref (ad 0)), (1, .int (nI 2))]) rfl (fun κ C E => ?_)
  have hin : ∀ w ∈ wsX60, w ∈ wsX6_isFull := by decide +kernel
  refine z_iload_n C dX6_isFull_0 rfl (show zlk _ 1 = some (.int (nI 2)) from rfl) ?_
  refine z_if_neN C 19 dX6_isFull_1 (by decide) (by decide) (fun _ => ?_) (fun h => absurd h (by decide))
  refine z_iload_n C dX6_isFull_19 rfl (show zlk _ 1 = some (.int (nI 2)) from rfl) ?_
  refine z_iconst C (v := nI 1) dX6_isFull_20 (by decide) ?_
  refine z_icmp_neT C 41 dX6_isFull_21 (by decide) (by omega) (by omega) (by decide) ?_
  refine z_iload_n C dX6_isFull_41 rfl (show zlk _ 1 = some (.int (nI 2)) from rfl) ?_
  refine z_iconst C (v := nI 2) dX6_isFull_42 (by decide) ?_
  refine z_icmp_neF C 62 dX6_isFull_43 (by decide) (by omega) (by omega) (by decide) ?_
  refine z_aload_n C dX6_isFull_46 rfl (show zlk _ 0 = some (.ref (ad 0)) from rfl) ?_
  refine z_mg C hin 18 (by decide) (by decide +kernel) (v := .int (nI (n 18))) mf_18 dX6_isFull_47 ?_
  refine z_iconst C (v := nI 5) dX6_isFull_50 (by decide) ?_
  refine z_icmp_neN C 58 dX6_isFull_51 (by decide) (by omega) (by omega) (fun h51t_1 => ?_) (fun h51n_1 => ?_)
  · refine z_iconst C (v := nI 0) dX6_isFull_58 (by decide) ?_
    refine z_goto C 76 dX6_isFull_59 (by decide) ?_
    exact E _ _ _ _ (⟨bI_f (by simp [m_full, h51t_1]), rfl⟩) (rfl) dX6_isFull_76
  · refine z_iconst C (v := nI 1) dX6_isFull_54 (by decide) ?_
    refine z_goto C 76 dX6_isFull_55 (by decide) ?_
    exact E _ _ _ _ (⟨bI_t (by simp [m_full, h51n_1]), rfl⟩) (rfl) dX6_isFull_76

set_option maxHeartbeats 4000000 in
set_option maxRecDepth 100000 in
theorem c_X6_isFull_3 (l : Launch) (θ : zH) (ad : Nat → Nat) (n : Nat → Nat) (g : Int32) (r : Nat → Nat → Int32)  (h15 : n 15 < 2 ^ 31) (h16 : n 16 < 2 ^ 31) (h18 : n 18 < 2 ^ 31) (h20 : n 20 < 2 ^ 31) : cI l yX6_isFull wsX6_isFull 0 θ [.ref (ad 0), .int (nI 3)] (MW θ ad n g r) (fun r0 Y => r0 = bI (m_full n 3) ∧ Y = MW θ ad n g r) := by
  refine z_cI (by decide) rfl rfl (Nat.le_of_ble_eq_true rfl) (lv := [(0, .ref (ad 0)), (1, .int (nI 3))]) rfl (fun κ C E => ?_)
  have hin : ∀ w ∈ wsX60, w ∈ wsX6_isFull := by decide +kernel
  refine z_iload_n C dX6_isFull_0 rfl (show zlk _ 1 = some (.int (nI 3)) from rfl) ?_
  refine z_if_neN C 19 dX6_isFull_1 (by decide) (by decide) (fun _ => ?_) (fun h => absurd h (by decide))
  refine z_iload_n C dX6_isFull_19 rfl (show zlk _ 1 = some (.int (nI 3)) from rfl) ?_
  refine z_iconst C (v := nI 1) dX6_isFull_20 (by decide) ?_
  refine z_icmp_neT C 41 dX6_isFull_21 (by decide) (by omega) (by omega) (by decide) ?_
  refine z_iload_n C dX6_isFull_41 rfl (show zlk _ 1 = some (.int (nI 3)) from rfl) ?_
  refine z_iconst C (v := nI 2) dX6_isFull_42 (by decide) ?_
  refine z_icmp_neT C 62 dX6_isFull_43 (by decide) (by omega) (by omega) (by decide) ?_
  refine z_aload_n C dX6_isFull_62 rfl (show zlk _ 0 = some (.ref (ad 0)) from rfl) ?_
  refine z_mg C hin 20 (by decide) (by decide +kernel) (v := .int (nI (n 20))) mf_20 dX6_isFull_63 ?_
  refine z_bipush C (v := nI 6) dX6_isFull_66 (by decide) ?_
  refine z_icmp_neN C 75 dX6_isFull_68 (by decide) (by omega) (by omega) (fun h68t_1 => ?_) (fun h68n_1 => ?_)
  · refine z_iconst C (v := nI 0) dX6_isFull_75 (by decide) ?_
    exact E _ _ _ _ (⟨bI_f (by simp [m_full, h68t_1]), rfl⟩) (rfl) dX6_isFull_76
  · refine z_iconst C (v := nI 1) dX6_isFull_71 (by decide) ?_
    refine z_goto C 76 dX6_isFull_72 (by decide) ?_
    exact E _ _ _ _ (⟨bI_t (by simp [m_full, h68n_1]), rfl⟩) (rfl) dX6_isFull_76

set_option maxHeartbeats 4000000 in
set_option maxRecDepth 100000 in
theorem c_X6_takeBody_0 (l : Launch) (θ : zH) (ad : Nat → Nat) (n : Nat → Nat) (g : Int32) (r : Nat → Nat → Int32)  (hp : n 12 ≤ n 10) (hL : n 10 ≤ 240)  : cI l yX6_takeBody wsX6_takeBody 3 θ [.ref (ad 0), .int (nI 0)] (MW θ ad n g r) (fun r0 Y => (¬ (nF (r 9) (n 10) (n 12) 1 30).1 = 0 ∧ r0 = nI (nF (r 9) (n 10) (n 12) 1 30).1 ∧ ∃ n1 r1, mJ n n1 r r1 ∧ Y = MW θ ad n1 (nI (nF (r 9) (n 10) (n 12) 1 30).2) r1) ∨ ((nF (r 9) (n 10) (n 12) 1 30).1 = 0 ∧ r0 = nI 0 ∧ ∃ p1 p2 v, p2 = nE (r 9) (n 10) (n 12) ∧ v = nV (r 9) (n 10) (n 12) ∧ Y = MW θ ad (nv (n 0) (n 1) (n 3) (n 5) (n 8) (n 10) p2 v p1 v (n 16) (n 18) (n 20) (n 22) (n 27)) g r)) := by
  refine z_cI (by decide) rfl rfl (Nat.le_of_ble_eq_true rfl) (lv := [(0, .ref (ad 0)), (1, .int (nI 0))]) rfl (fun κ C E => ?_)
  have hin : ∀ w ∈ wsX60, w ∈ wsX6_takeBody := by decide +kernel
  refine z_iload_n C dX6_takeBody_0 rfl (show zlk _ 1 = some (.int (nI 0)) from rfl) ?_
  refine z_if_neN C 11 dX6_takeBody_1 (by decide) (by decide) (fun h => absurd h (by decide)) (fun _ => ?_)
  refine z_aload_n C dX6_takeBody_4 rfl (show zlk _ 0 = some (.ref (ad 0)) from rfl) ?_
  refine z_callVi C (As := []) (rest := []) (c_X6_takeGnats l θ ad n g r (show n 12 ≤ n 10 by omega) (hL) ) gX6_takeBody_X6_takeGnats rfl 0 (by decide +kernel) (by decide) (by decide) 0 rfl rfl rfl rfl rfl (Nat.le_of_ble_eq_true rfl) dX6_takeBody_5 ?_
  rintro _ _ (⟨hE9, rfl, n9, r9, hJ9, rfl⟩ | ⟨hE9, rfl, pa9, pb9, vv9, eb9, ev9, rfl⟩)
  · replace hE9 : ¬ (nF (r 9) (n 10) (n 12) 1 30).1 = 0 := hE9
    refine z_goto C 39 dX6_takeBody_8 (by decide) ?_
    exact E _ _ _ _ (Or.inl ⟨hE9, rfl, _, _, hJ9, rfl⟩) (rfl) dX6_takeBody_39
  · replace hE9 : (nF (r 9) (n 10) (n 12) 1 30).1 = 0 := hE9
    replace eb9 : pb9 = nE (r 9) (n 10) (n 12) := eb9
    replace ev9 : vv9 = nV (r 9) (n 10) (n 12) := ev9
    refine z_X (Y := MW θ ad (nv (n 0) (n 1) (n 3) (n 5) (n 8) (n 10) pb9 vv9 pa9 vv9 (n 16) (n 18) (n 20) (n 22) (n 27)) g r) (mw_eq rfl rfl rfl rfl rfl rfl rfl rfl rfl rfl rfl rfl rfl rfl rfl rfl rfl rfl rfl rfl rfl rfl rfl rfl rfl rfl rfl rfl rfl rfl rfl rfl) ?_
    refine z_goto C 39 dX6_takeBody_8 (by decide) ?_
    exact E _ _ _ _ (Or.inr ⟨hE9, rfl, _, _, _, eb9, ev9, (mw_eq rfl rfl rfl rfl rfl rfl rfl rfl rfl rfl rfl rfl rfl rfl rfl rfl rfl rfl rfl rfl rfl rfl rfl rfl rfl rfl rfl rfl rfl rfl rfl rfl)⟩) (rfl) dX6_takeBody_39

set_option maxHeartbeats 4000000 in
set_option maxRecDepth 100000 in
theorem c_X6_takeBody_1 (l : Launch) (θ : zH) (ad : Nat → Nat) (n : Nat → Nat) (g : Int32) (r : Nat → Nat → Int32)  (hp : n 12 ≤ n 10) (hL : n 10 ≤ 240) (hc : n 16 < 6) : cI l yX6_takeBody wsX6_takeBody 3 θ [.ref (ad 0), .int (nI 1)] (MW θ ad n g r) (fun r0 Y => (¬ (rF (r 9) (n 10) (n 12) 5).1 = 0 ∧ r0 = nI (rF (r 9) (n 10) (n 12) 5).1 ∧ ∃ n1 r1, mJ n n1 r r1 ∧ Y = MW θ ad n1 (nI (rF (r 9) (n 10) (n 12) 5).2) r1) ∨ ((rF (r 9) (n 10) (n 12) 5).1 = 0 ∧ r0 = nI 0 ∧ ∃ p1 p2 v s, p2 = nE (r 9) (n 10) (rwq (r 9) (n 10) (n 12) 4) ∧ s = rS (r 9) (n 10) (n 12) 5 ∧ Y = MW θ ad (nv (n 0) (n 1) (n 3) (n 5) (n 8) (n 10) p2 v p1 (n 15) (n 16 + 1) (n 18) (n 20) (n 22) (n 27)) g (rv (r 2) (r 4) (r 6) (r 7) (r 9) (upd (r 17) (n 16) s) (r 19) (r 21) (r 23) (r 24) (r 25) (r 26) (r 28) (r 29) (r 30) (r 31) (r 32)))) := by
  refine z_cI (by decide) rfl rfl (Nat.le_of_ble_eq_true rfl) (lv := [(0, .ref (ad 0)), (1, .int (nI 1))]) rfl (fun κ C E => ?_)
  have hin : ∀ w ∈ wsX60, w ∈ wsX6_takeBody := by decide +kernel
  refine z_iload_n C dX6_takeBody_0 rfl (show zlk _ 1 = some (.int (nI 1)) from rfl) ?_
  refine z_if_neN C 11 dX6_takeBody_1 (by decide) (by decide) (fun _ => ?_) (fun h => absurd h (by decide))
  refine z_iload_n C dX6_takeBody_11 rfl (show zlk _ 1 = some (.int (nI 1)) from rfl) ?_
  refine z_iconst C (v := nI 1) dX6_takeBody_12 (by decide) ?_
  refine z_icmp_neF C 23 dX6_takeBody_13 (by decide) (by omega) (by omega) (by decide) ?_
  refine z_aload_n C dX6_takeBody_16 rfl (show zlk _ 0 = some (.ref (ad 0)) from rfl) ?_
  refine z_callVi C (As := []) (rest := []) (c_X6_takeSitter l θ ad n g r (show n 12 ≤ n 10 by omega) (hL) (hc)) gX6_takeBody_X6_takeSitter rfl 0 (by decide +kernel) (by decide) (by decide) 0 rfl rfl rfl rfl rfl (Nat.le_of_ble_eq_true rfl) dX6_takeBody_17 ?_
  rintro _ _ (⟨hE10, rfl, n10, r10, hJ10, rfl⟩ | ⟨hE10, rfl, pa10, pb10, vv10, ss10, eb10, es10, rfl⟩)
  · replace hE10 : ¬ (rF (r 9) (n 10) (n 12) 5).1 = 0 := hE10
    refine z_goto C 39 dX6_takeBody_20 (by decide) ?_
    exact E _ _ _ _ (Or.inl ⟨hE10, rfl, _, _, hJ10, rfl⟩) (rfl) dX6_takeBody_39
  · replace hE10 : (rF (r 9) (n 10) (n 12) 5).1 = 0 := hE10
    replace eb10 : pb10 = nE (r 9) (n 10) (rwq (r 9) (n 10) (n 12) 4) := eb10
    replace es10 : ss10 = rS (r 9) (n 10) (n 12) 5 := es10
    refine z_X (Y := MW θ ad (nv (n 0) (n 1) (n 3) (n 5) (n 8) (n 10) pb10 vv10 pa10 (n 15) (n 16 + 1) (n 18) (n 20) (n 22) (n 27)) g (rv (r 2) (r 4) (r 6) (r 7) (r 9) (upd (r 17) (n 16) ss10) (r 19) (r 21) (r 23) (r 24) (r 25) (r 26) (r 28) (r 29) (r 30) (r 31) (r 32))) (mw_eq rfl rfl rfl rfl rfl rfl rfl rfl rfl rfl rfl rfl rfl rfl rfl rfl rfl rfl rfl rfl rfl rfl rfl rfl rfl rfl rfl rfl rfl rfl rfl rfl) ?_
    refine z_goto C 39 dX6_takeBody_20 (by decide) ?_
    exact E _ _ _ _ (Or.inr ⟨hE10, rfl, _, _, _, _, eb10, es10, (mw_eq rfl rfl rfl rfl rfl rfl rfl rfl rfl rfl rfl rfl rfl rfl rfl rfl rfl rfl rfl rfl rfl rfl rfl rfl rfl rfl rfl rfl rfl rfl rfl rfl)⟩) (rfl) dX6_takeBody_39

set_option maxHeartbeats 4000000 in
set_option maxRecDepth 100000 in
theorem c_X6_takeBody_2 (l : Launch) (θ : zH) (ad : Nat → Nat) (n : Nat → Nat) (g : Int32) (r : Nat → Nat → Int32)  (hp : n 12 ≤ n 10) (hL : n 10 ≤ 240) (hc : n 18 < 5) : cI l yX6_takeBody wsX6_takeBody 3 θ [.ref (ad 0), .int (nI 2)] (MW θ ad n g r) (fun r0 Y => (¬ (nF (r 9) (n 10) (n 12) 0 5).1 = 0 ∧ r0 = nI (nF (r 9) (n 10) (n 12) 0 5).1 ∧ ∃ n1 r1, mJ n n1 r r1 ∧ Y = MW θ ad n1 (nI (nF (r 9) (n 10) (n 12) 0 5).2) r1) ∨ ((nF (r 9) (n 10) (n 12) 0 5).1 = 0 ∧ r0 = nI 0 ∧ ∃ p1 p2 v, p2 = nE (r 9) (n 10) (n 12) ∧ v = nV (r 9) (n 10) (n 12) ∧ Y = MW θ ad (nv (n 0) (n 1) (n 3) (n 5) (n 8) (n 10) p2 v p1 (n 15) (n 16) (n 18 + 1) (n 20) (n 22) (n 27)) g (rv (r 2) (r 4) (r 6) (r 7) (r 9) (r 17) (upd (r 19) (n 18) (nI v)) (r 21) (r 23) (r 24) (r 25) (r 26) (r 28) (r 29) (r 30) (r 31) (r 32)))) := by
  refine z_cI (by decide) rfl rfl (Nat.le_of_ble_eq_true rfl) (lv := [(0, .ref (ad 0)), (1, .int (nI 2))]) rfl (fun κ C E => ?_)
  have hin : ∀ w ∈ wsX60, w ∈ wsX6_takeBody := by decide +kernel
  refine z_iload_n C dX6_takeBody_0 rfl (show zlk _ 1 = some (.int (nI 2)) from rfl) ?_
  refine z_if_neN C 11 dX6_takeBody_1 (by decide) (by decide) (fun _ => ?_) (fun h => absurd h (by decide))
  refine z_iload_n C dX6_takeBody_11 rfl (show zlk _ 1 = some (.int (nI 2)) from rfl) ?_
  refine z_iconst C (v := nI 1) dX6_takeBody_12 (by decide) ?_
  refine z_icmp_neT C 23 dX6_takeBody_13 (by decide) (by omega) (by omega) (by decide) ?_
  refine z_iload_n C dX6_takeBody_23 rfl (show zlk _ 1 = some (.int (nI 2)) from rfl) ?_
  refine z_iconst C (v := nI 2) dX6_takeBody_24 (by decide) ?_
  refine z_icmp_neF C 35 dX6_takeBody_25 (by decide) (by omega) (by omega) (by decide) ?_
  refine z_aload_n C dX6_takeBody_28 rfl (show zlk _ 0 = some (.ref (ad 0)) from rfl) ?_
  refine z_callVi C (As := []) (rest := []) (c_X6_takeWindow l θ ad n g r (show n 12 ≤ n 10 by omega) (hL) (hc)) gX6_takeBody_X6_takeWindow rfl 0 (by decide +kernel) (by decide) (by decide) 0 rfl rfl rfl rfl rfl (Nat.le_of_ble_eq_true rfl) dX6_takeBody_29 ?_
  rintro _ _ (⟨hE11, rfl, n11, r11, hJ11, rfl⟩ | ⟨hE11, rfl, pa11, pb11, vv11, eb11, ev11, rfl⟩)
  · replace hE11 : ¬ (nF (r 9) (n 10) (n 12) 0 5).1 = 0 := hE11
    refine z_goto C 39 dX6_takeBody_32 (by decide) ?_
    exact E _ _ _ _ (Or.inl ⟨hE11, rfl, _, _, hJ11, rfl⟩) (rfl) dX6_takeBody_39
  · replace hE11 : (nF (r 9) (n 10) (n 12) 0 5).1 = 0 := hE11
    replace eb11 : pb11 = nE (r 9) (n 10) (n 12) := eb11
    replace ev11 : vv11 = nV (r 9) (n 10) (n 12) := ev11
    refine z_X (Y := MW θ ad (nv (n 0) (n 1) (n 3) (n 5) (n 8) (n 10) pb11 vv11 pa11 (n 15) (n 16) (n 18 + 1) (n 20) (n 22) (n 27)) g (rv (r 2) (r 4) (r 6) (r 7) (r 9) (r 17) (upd (r 19) (n 18) (nI vv11)) (r 21) (r 23) (r 24) (r 25) (r 26) (r 28) (r 29) (r 30) (r 31) (r 32))) (mw_eq rfl rfl rfl rfl rfl rfl rfl rfl rfl rfl rfl rfl rfl rfl rfl rfl rfl rfl rfl rfl rfl rfl rfl rfl rfl rfl rfl rfl rfl rfl rfl rfl) ?_
    refine z_goto C 39 dX6_takeBody_32 (by decide) ?_
    exact E _ _ _ _ (Or.inr ⟨hE11, rfl, _, _, _, eb11, ev11, (mw_eq rfl rfl rfl rfl rfl rfl rfl rfl rfl rfl rfl rfl rfl rfl rfl rfl rfl rfl rfl rfl rfl rfl rfl rfl rfl rfl rfl rfl rfl rfl rfl rfl)⟩) (rfl) dX6_takeBody_39

set_option maxHeartbeats 4000000 in
set_option maxRecDepth 100000 in
theorem c_X6_takeBody_3 (l : Launch) (θ : zH) (ad : Nat → Nat) (n : Nat → Nat) (g : Int32) (r : Nat → Nat → Int32)  (hp : n 12 ≤ n 10) (hL : n 10 ≤ 240) (hc : n 20 < 6) : cI l yX6_takeBody wsX6_takeBody 3 θ [.ref (ad 0), .int (nI 3)] (MW θ ad n g r) (fun r0 Y => (¬ (nF (r 9) (n 10) (n 12) 1 63).1 = 0 ∧ r0 = nI (nF (r 9) (n 10) (n 12) 1 63).1 ∧ ∃ n1 r1, mJ n n1 r r1 ∧ Y = MW θ ad n1 (nI (nF (r 9) (n 10) (n 12) 1 63).2) r1) ∨ ((nF (r 9) (n 10) (n 12) 1 63).1 = 0 ∧ r0 = nI 0 ∧ ∃ p1 p2 v, p2 = nE (r 9) (n 10) (n 12) ∧ v = nV (r 9) (n 10) (n 12) ∧ Y = MW θ ad (nv (n 0) (n 1) (n 3) (n 5) (n 8) (n 10) p2 v p1 (n 15) (n 16) (n 18) (n 20 + 1) (n 22) (n 27)) g (rv (r 2) (r 4) (r 6) (r 7) (r 9) (r 17) (r 19) (upd (r 21) (n 20) (nI v)) (r 23) (r 24) (r 25) (r 26) (r 28) (r 29) (r 30) (r 31) (r 32)))) := by
  refine z_cI (by decide) rfl rfl (Nat.le_of_ble_eq_true rfl) (lv := [(0, .ref (ad 0)), (1, .int (nI 3))]) rfl (fun κ C E => ?_)
  have hin : ∀ w ∈ wsX60, w ∈ wsX6_takeBody := by decide +kernel
  refine z_iload_n C dX6_takeBody_0 rfl (show zlk _ 1 = some (.int (nI 3)) from rfl) ?_
  refine z_if_neN C 11 dX6_takeBody_1 (by decide) (by decide) (fun _ => ?_) (fun h => absurd h (by decide))
  refine z_iload_n C dX6_takeBody_11 rfl (show zlk _ 1 = some (.int (nI 3)) from rfl) ?_
  refine z_iconst C (v := nI 1) dX6_takeBody_12 (by decide) ?_
  refine z_icmp_neT C 23 dX6_takeBody_13 (by decide) (by omega) (by omega) (by decide) ?_
  refine z_iload_n C dX6_takeBody_23 rfl (show zlk _ 1 = some (.int (nI 3)) from rfl) ?_
  refine z_iconst C (v := nI 2) dX6_takeBody_24 (by decide) ?_
  refine z_icmp_neT C 35 dX6_takeBody_25 (by decide) (by omega) (by omega) (by decide) ?_
  refine z_aload_n C dX6_takeBody_35 rfl (show zlk _ 0 = some (.ref (ad 0)) from rfl) ?_
  refine z_callVi C (As := []) (rest := []) (c_X6_takeCritic l θ ad n g r (show n 12 ≤ n 10 by omega) (hL) (hc)) gX6_takeBody_X6_takeCritic rfl 0 (by decide +kernel) (by decide) (by decide) 0 rfl rfl rfl rfl rfl (Nat.le_of_ble_eq_true rfl) dX6_takeBody_36 ?_
  rintro _ _ (⟨hE12, rfl, n12, r12, hJ12, rfl⟩ | ⟨hE12, rfl, pa12, pb12, vv12, eb12, ev12, rfl⟩)
  · replace hE12 : ¬ (nF (r 9) (n 10) (n 12) 1 63).1 = 0 := hE12
    exact E _ _ _ _ (Or.inl ⟨hE12, rfl, _, _, hJ12, rfl⟩) (rfl) dX6_takeBody_39
  · replace hE12 : (nF (r 9) (n 10) (n 12) 1 63).1 = 0 := hE12
    replace eb12 : pb12 = nE (r 9) (n 10) (n 12) := eb12
    replace ev12 : vv12 = nV (r 9) (n 10) (n 12) := ev12
    refine z_X (Y := MW θ ad (nv (n 0) (n 1) (n 3) (n 5) (n 8) (n 10) pb12 vv12 pa12 (n 15) (n 16) (n 18) (n 20 + 1) (n 22) (n 27)) g (rv (r 2) (r 4) (r 6) (r 7) (r 9) (r 17) (r 19) (upd (r 21) (n 20) (nI vv12)) (r 23) (r 24) (r 25) (r 26) (r 28) (r 29) (r 30) (r 31) (r 32))) (mw_eq rfl rfl rfl rfl rfl rfl rfl rfl rfl rfl rfl rfl rfl rfl rfl rfl rfl rfl rfl rfl rfl rfl rfl rfl rfl rfl rfl rfl rfl rfl rfl rfl) ?_
    exact E _ _ _ _ (Or.inr ⟨hE12, rfl, _, _, _, eb12, ev12, (mw_eq rfl rfl rfl rfl rfl rfl rfl rfl rfl rfl rfl rfl rfl rfl rfl rfl rfl rfl rfl rfl rfl rfl rfl rfl rfl rfl rfl rfl rfl rfl rfl rfl)⟩) (rfl) dX6_takeBody_39
end
section
def cK (c : Int32) : Nat := if c = nI 103 then 0 else if c = nI 115 then 1 else if c = nI 119 then 2 else if c = nI 99 then 3 else 4
def fullK (G S W C k : Nat) : Bool := if k = 0 then decide (0 < G) else if k = 1 then decide (S = 6) else if k = 2 then decide (W = 5) else decide (C = 6)
def bF (f : Nat → Int32) (L p k : Nat) : Nat × Nat := if k = 0 then nF f L p 1 30 else if k = 1 then rF f L p 5 else if k = 2 then nF f L p 0 5 else nF f L p 1 63
def bE (f : Nat → Int32) (L p k : Nat) : Nat := if k = 1 then nE f L (rwq f L p 4) else nE f L p
/-- the fault of a clause at p -/
def clF (f : Nat → Int32) (L p G S W C : Nat) : Nat × Nat :=
  if cK (m_hr f L (sk f L p)) = 4 ∨ (¬ cK (m_hr f L (sk f L p)) = 0 ∧ G = 0) then (1, sk f L p)
  else if fullK G S W C (cK (m_hr f L (sk f L p))) = true then (3, sk f L p)
  else if (bF f L (sk f L p + 1) (cK (m_hr f L (sk f L p)))).1 = 0 then sF f L (bE f L (sk f L p + 1) (cK (m_hr f L (sk f L p)))) (nI 59)
  else bF f L (sk f L p + 1) (cK (m_hr f L (sk f L p)))
theorem clF_1 {f : Nat → Int32} {L p q G S W C k : Nat} (e : q = sk f L p) (hk : cK (m_hr f L q) = k) (h : k = 4 ∨ (¬ k = 0 ∧ G = 0)) : clF f L p G S W C = (1, q) := by
  unfold clF; rw [← e, hk, if_pos h]
theorem clF_3 {f : Nat → Int32} {L p q G S W C k : Nat} (e : q = sk f L p) (hk : cK (m_hr f L q) = k) (h : ¬ (k = 4 ∨ (¬ k = 0 ∧ G = 0))) (h2 : fullK G S W C k = true) : clF f L p G S W C = (3, q) := by
  unfold clF; rw [← e, hk, if_neg h, if_pos h2]
theorem clF_b {f : Nat → Int32} {L p q G S W C k : Nat} (e : q = sk f L p) (hk : cK (m_hr f L q) = k) (h : ¬ (k = 4 ∨ (¬ k = 0 ∧ G = 0))) (h2 : fullK G S W C k = false) (h3 : ¬ (bF f L (q + 1) k).1 = 0) : clF f L p G S W C = bF f L (q + 1) k := by
  unfold clF; rw [← e, hk, if_neg h, if_neg (by rw [h2]; decide), if_neg h3]
theorem clF_s {f : Nat → Int32} {L p q G S W C k : Nat} (e : q = sk f L p) (hk : cK (m_hr f L q) = k) (h : ¬ (k = 4 ∨ (¬ k = 0 ∧ G = 0))) (h2 : fullK G S W C k = false) (h3 : (bF f L (q + 1) k).1 = 0) : clF f L p G S W C = sF f L (bE f L (q + 1) k) (nI 59) := by
  unfold clF; rw [← e, hk, if_neg h, if_neg (by rw [h2]; decide), if_pos h3]
/-- what a clause leaves: place, counts, rows -/
def clK (f : Nat → Int32) (L p : Nat) : Nat := cK (m_hr f L (sk f L p))
def clP (f : Nat → Int32) (L p : Nat) : Nat := sk f L (bE f L (sk f L p + 1) (clK f L p)) + 1
def clG (f : Nat → Int32) (L p G : Nat) : Nat := if clK f L p = 0 then nV f L (sk f L p + 1) else G
def clC (f : Nat → Int32) (L p k S : Nat) : Nat := if clK f L p = k then S + 1 else S
def clO (f : Nat → Int32) (L p S : Nat) (o : Nat → Int32) : Nat → Int32 := if clK f L p = 1 then upd o S (rS f L (sk f L p + 1) 5) else o
def clR (f : Nat → Int32) (L p k S : Nat) (o : Nat → Int32) : Nat → Int32 := if clK f L p = k then upd o S (nI (nV f L (sk f L p + 1))) else o
theorem bF_0 {f : Nat → Int32} {L p : Nat} : bF f L p 0 = nF f L p 1 30 := by unfold bF; rw [if_pos rfl]
theorem bF_1 {f : Nat → Int32} {L p : Nat} : bF f L p 1 = rF f L p 5 := by unfold bF; rw [if_neg (by decide), if_pos rfl]
theorem bF_2 {f : Nat → Int32} {L p : Nat} : bF f L p 2 = nF f L p 0 5 := by unfold bF; rw [if_neg (by decide), if_neg (by decide), if_pos rfl]
theorem bF_3 {f : Nat → Int32} {L p : Nat} : bF f L p 3 = nF f L p 1 63 := by unfold bF; rw [if_neg (by decide), if_neg (by decide), if_neg (by decide)]
theorem bE_1 {f : Nat → Int32} {L p : Nat} : bE f L p 1 = nE f L (rwq f L p 4) := by unfold bE; rw [if_pos rfl]
theorem bE_k {f : Nat → Int32} {L p k : Nat} (h : ¬ k = 1) : bE f L p k = nE f L p := by unfold bE; rw [if_neg h]
theorem bE_le {f : Nat → Int32} {L p k : Nat} (h : p ≤ L) (h2 : (bF f L p k).1 = 0) : bE f L p k ≤ L := by
  unfold bE
  by_cases e : k = 1
  · rw [if_pos e]
    subst e
    have h3 : (rF f L p 5).1 = 0 := by rw [← bF_1]; exact h2
    have key : ∀ i, i ≤ 4 → rwq f L p i ≤ L := by
      intro i hi
      cases i with
      | zero => exact h
      | succ i =>
        by_cases e2 : m_hr f L (sk f L (nE f L (rwq f L p i))) = nI 44
        · exact hr_lt e2 (by decide)
        · by_cases e3 : (rF f L p (i + 1)).1 = 0
          · have e4 := rF_sign e3 e2
            rw [rF_up (i := i + 2) (by omega) (by rw [e4]; simp), e4] at h3
            exact absurd h3 (by simp)
          · rw [rF_up (i := i + 1) (by omega) e3] at h3
            exact absurd h3 e3
    exact (nE_le (key 4 (by omega))).2
  · rw [if_neg e]; exact (nE_le h).2
set_option maxHeartbeats 4000000 in
set_option maxRecDepth 100000 in
theorem c_X6_takeClause (l : Launch) (θ : zH) (ad : Nat → Nat) (n : Nat → Nat) (g : Int32) (r : Nat → Nat → Int32)  (hp : n 12 ≤ n 10) (hL : n 10 ≤ 240) (hb : n 15 ≤ 30 ∧ n 16 ≤ 6 ∧ n 18 ≤ 5 ∧ n 20 ≤ 6) : cI l yX6_takeClause wsX6_takeClause 4 θ [.ref (ad 0)] (MW θ ad n g r) (fun r0 Y => (¬ (clF (r 9) (n 10) (n 12) (n 15) (n 16) (n 18) (n 20)).1 = 0 ∧ r0 = nI (clF (r 9) (n 10) (n 12) (n 15) (n 16) (n 18) (n 20)).1 ∧ ∃ n1 r1, mJ n n1 r r1 ∧ Y = MW θ ad n1 (nI (clF (r 9) (n 10) (n 12) (n 15) (n 16) (n 18) (n 20)).2) r1) ∨ ((clF (r 9) (n 10) (n 12) (n 15) (n 16) (n 18) (n 20)).1 = 0 ∧ r0 = nI 0 ∧ ∃ p2 x y G2 S2 W2 C2 o2 l2 k2, p2 = clP (r 9) (n 10) (n 12) ∧ G2 = clG (r 9) (n 10) (n 12) (n 15) ∧ S2 = clC (r 9) (n 10) (n 12) 1 (n 16) ∧ W2 = clC (r 9) (n 10) (n 12) 2 (n 18) ∧ C2 = clC (r 9) (n 10) (n 12) 3 (n 20) ∧ o2 = clO (r 9) (n 10) (n 12) (n 16) (r 17) ∧ l2 = clR (r 9) (n 10) (n 12) 2 (n 18) (r 19) ∧ k2 = clR (r 9) (n 10) (n 12) 3 (n 20) (r 21) ∧ Y = MW θ ad (nv (n 0) (n 1) (n 3) (n 5) (n 8) (n 10) p2 x y G2 S2 W2 C2 (n 22) (n 27)) g (rv (r 2) (r 4) (r 6) (r 7) (r 9) o2 l2 k2 (r 23) (r 24) (r 25) (r 26) (r 28) (r 29) (r 30) (r 31) (r 32)))) := by
  refine z_cI (by decide) rfl rfl (Nat.le_of_ble_eq_true rfl) (lv := [(0, .ref (ad 0))]) rfl (fun κ C E => ?_)
  have hin : ∀ w ∈ wsX60, w ∈ wsX6_takeClause := by decide +kernel
  refine z_aload_n C dX6_takeClause_0 rfl (show zlk _ 0 = some (.ref (ad 0)) from rfl) ?_
  refine z_callVi C (As := []) (rest := []) (c_X6_here l θ ad n g r (show n 12 ≤ n 10 by omega) (hL)) gX6_takeClause_X6_here rfl 0 (by decide +kernel) (by decide) (by decide) 0 rfl rfl rfl rfl rfl (Nat.le_of_ble_eq_true rfl) dX6_takeClause_1 ?_
  rintro _ _ ⟨ph6, eh6, rfl, rfl⟩
  replace eh6 : ph6 = sk (r 9) (n 10) (n 12) := eh6
  have lh6 : ph6 ≤ n 10 := by rw [eh6]; exact (sk_le (by omega)).2
  refine z_X (Y := MW θ ad (nv (n 0) (n 1) (n 3) (n 5) (n 8) (n 10) ph6 (n 13) (n 14) (n 15) (n 16) (n 18) (n 20) (n 22) (n 27)) g r) (mw_eq rfl rfl rfl rfl rfl rfl rfl rfl rfl rfl rfl rfl rfl rfl rfl rfl rfl rfl rfl rfl rfl rfl rfl rfl rfl rfl rfl rfl rfl rfl rfl rfl) ?_
  refine z_istore_n C [(1, .int (m_hr (r 9) (n 10) ph6)), (0, .ref (ad 0))] dX6_takeClause_4 rfl (by decide) rfl ?_
  refine z_iload_n C dX6_takeClause_5 rfl (show zlk _ 1 = some (.int (m_hr (r 9) (n 10) ph6)) from rfl) ?_
  refine z_bipush C (v := nI 103) dX6_takeClause_6 (by decide) ?_
  refine z_icmp_ne C 15 dX6_takeClause_8 (by decide) (fun h8t_1 => ?_) (fun h8n_1 => ?_)
  · refine z_iload_n C dX6_takeClause_15 rfl (show zlk _ 1 = some (.int (m_hr (r 9) (n 10) ph6)) from rfl) ?_
    refine z_bipush C (v := nI 115) dX6_takeClause_16 (by decide) ?_
    refine z_icmp_ne C 25 dX6_takeClause_18 (by decide) (fun h18t_2 => ?_) (fun h18n_2 => ?_)
    · refine z_iload_n C dX6_takeClause_25 rfl (show zlk _ 1 = some (.int (m_hr (r 9) (n 10) ph6)) from rfl) ?_
      refine z_bipush C (v := nI 119) dX6_takeClause_26 (by decide) ?_
      refine z_icmp_ne C 35 dX6_takeClause_28 (by decide) (fun h28t_3 => ?_) (fun h28n_3 => ?_)
      · refine z_iload_n C dX6_takeClause_35 rfl (show zlk _ 1 = some (.int (m_hr (r 9) (n 10) ph6)) from rfl) ?_
        refine z_bipush C (v := nI 99) dX6_takeClause_36 (by decide) ?_
        refine z_icmp_ne C 45 dX6_takeClause_38 (by decide) (fun h38t_4 => ?_) (fun h38n_4 => ?_)
        · refine z_iconst C (v := (-1)) dX6_takeClause_45 (by decide) ?_
          refine z_istore_n C [(2, .int (-1)), (1, .int (m_hr (r 9) (n 10) ph6)), (0, .ref (ad 0))] dX6_takeClause_46 rfl (by decide) rfl ?_
          have hK : cK (m_hr (r 9) (n 10) ph6) = 4 := by unfold cK; rw [if_neg h8t_1, if_neg h18t_2, if_neg h28t_3, if_neg h38t_4]
          refine z_iload_n C dX6_takeClause_47 rfl (show zlk _ 2 = some (.int (-1)) from rfl) ?_
          refine z_if_lt C 62 dX6_takeClause_48 (by decide) (fun _ => ?_) (fun h => absurd (by decide) h)
          refine z_aload_n C dX6_takeClause_62 rfl (show zlk _ 0 = some (.ref (ad 0)) from rfl) ?_
          refine z_iconst C (v := nI 1) dX6_takeClause_63 (by decide) ?_
          refine z_aload_n C dX6_takeClause_64 rfl (show zlk _ 0 = some (.ref (ad 0)) from rfl) ?_
          refine z_mg C hin 12 (by decide) (by decide +kernel) (v := .int (nI ph6)) mfv_12 dX6_takeClause_65 ?_
          refine z_callVi C (As := [.int (nI 1), .int (nI ph6)]) (rest := []) (c_X6_fails l θ ad (nv (n 0) (n 1) (n 3) (n 5) (n 8) (n 10) ph6 (n 13) (n 14) (n 15) (n 16) (n 18) (n 20) (n 22) (n 27)) g r 1 ph6) gX6_takeClause_X6_fails rfl 2 (by decide +kernel) (by decide) (by decide) 0 rfl rfl rfl rfl rfl (Nat.le_of_ble_eq_true rfl) dX6_takeClause_68 ?_
          rintro _ _ ⟨rfl, rfl⟩
          refine z_top (v' := .int (nI 1)) rfl ?_
          refine z_X (Y := MW θ ad (nv (n 0) (n 1) (n 3) (n 5) (n 8) (n 10) ph6 (n 13) (n 14) (n 15) (n 16) (n 18) (n 20) (n 22) (n 27)) (nI ph6) r) (mw_eq rfl rfl rfl rfl rfl rfl rfl rfl rfl rfl rfl rfl rfl rfl rfl rfl rfl rfl rfl rfl rfl rfl rfl rfl rfl rfl rfl rfl rfl rfl rfl rfl) ?_
          exact E _ _ _ _ (Or.inl (by rw [clF_1 eh6 hK (by omega)]; exact ⟨by simp, rfl, mJ_of rfl rfl rfl rfl rfl rfl rfl rfl rfl rfl rfl rfl rfl rfl rfl rfl rfl rfl rfl rfl rfl rfl⟩)) (rfl) dX6_takeClause_71
        · refine z_iconst C (v := nI 3) dX6_takeClause_41 (by decide) ?_
          refine z_goto C 46 dX6_takeClause_42 (by decide) ?_
          refine z_istore_n C [(2, .int (nI 3)), (1, .int (m_hr (r 9) (n 10) ph6)), (0, .ref (ad 0))] dX6_takeClause_46 rfl (by decide) rfl ?_
          have hK : cK (m_hr (r 9) (n 10) ph6) = 3 := by unfold cK; rw [if_neg h8t_1, if_neg h18t_2, if_neg h28t_3, if_pos h38n_4]
          refine z_iload_n C dX6_takeClause_47 rfl (show zlk _ 2 = some (.int (nI 3)) from rfl) ?_
          refine z_if_ltN C 62 dX6_takeClause_48 (by decide) (by omega) ?_
          refine z_iload_n C dX6_takeClause_51 rfl (show zlk _ 2 = some (.int (nI 3)) from rfl) ?_
          refine z_if_leN C 72 dX6_takeClause_52 (by decide) (by decide) (fun h => absurd h (by decide)) (fun _ => ?_)
          refine z_aload_n C dX6_takeClause_55 rfl (show zlk _ 0 = some (.ref (ad 0)) from rfl) ?_
          refine z_mg C hin 15 (by decide) (by decide +kernel) (v := .int (nI (n 15))) mfv_15 dX6_takeClause_56 ?_
          refine z_if_neN C 72 dX6_takeClause_59 (by decide) (by omega) (fun h59t_5 => ?_) (fun h59n_5 => ?_)
          · refine z_aload_n C dX6_takeClause_72 rfl (show zlk _ 0 = some (.ref (ad 0)) from rfl) ?_
            refine z_iload_n C dX6_takeClause_73 rfl (show zlk _ 2 = some (.int (nI 3)) from rfl) ?_
            refine z_callVi C (As := [.int (nI 3)]) (rest := []) (c_X6_isFull_3 l θ ad (nv (n 0) (n 1) (n 3) (n 5) (n 8) (n 10) ph6 (n 13) (n 14) (n 15) (n 16) (n 18) (n 20) (n 22) (n 27)) g r (show n 15 < 2 ^ 31 by omega) (show n 16 < 2 ^ 31 by omega) (show n 18 < 2 ^ 31 by omega) (show n 20 < 2 ^ 31 by omega)) gX6_takeClause_X6_isFull rfl 1 (by decide +kernel) (by decide) (by decide) 0 rfl rfl rfl rfl rfl (Nat.le_of_ble_eq_true rfl) dX6_takeClause_74 ?_
            rintro _ _ ⟨rfl, rfl⟩
            refine z_top (v' := .int (bI (fullK (n 15) (n 16) (n 18) (n 20) 3))) rfl ?_
            refine z_if_eqB C 90 dX6_takeClause_77 (by decide) (fun h77t_6 => ?_) (fun h77n_6 => ?_)
            · have hKn : ¬ (3 = 4 ∨ (¬ 3 = 0 ∧ n 15 = 0)) := by omega
              have hcc : n 20 < 6 := by have h9 := h77t_6; simp [fullK] at h9; omega
              have hlt1 : ph6 < n 10 := by
                by_cases e9 : ph6 < n 10
                · exact e9
                · unfold m_hr at hK; rw [if_neg e9] at hK; exact absurd hK (by decide)
              refine z_aload_n C dX6_takeClause_90 rfl (show zlk _ 0 = some (.ref (ad 0)) from rfl) ?_
              refine z_dup C dX6_takeClause_91 rfl ?_
              refine z_mg C hin 12 (by decide) (by decide +kernel) (v := .int (nI ph6)) mfv_12 dX6_takeClause_92 ?_
              refine z_iconst C (v := nI 1) dX6_takeClause_95 (by decide) ?_
              refine z_iaddN C dX6_takeClause_96 ?_
              refine z_mp C hin 12 (by decide) (by decide +kernel) rfl rfl mpv_12 dX6_takeClause_97 ?_
              refine z_aload_n C dX6_takeClause_100 rfl (show zlk _ 0 = some (.ref (ad 0)) from rfl) ?_
              refine z_iload_n C dX6_takeClause_101 rfl (show zlk _ 2 = some (.int (nI 3)) from rfl) ?_
              refine z_callVi C (As := [.int (nI 3)]) (rest := []) (c_X6_takeBody_3 l θ ad (nv (n 0) (n 1) (n 3) (n 5) (n 8) (n 10) (ph6 + 1) (n 13) (n 14) (n 15) (n 16) (n 18) (n 20) (n 22) (n 27)) g r (show ph6 + 1 ≤ n 10 by omega) (hL) (hcc)) gX6_takeClause_X6_takeBody rfl 1 (by decide +kernel) (by decide) (by decide) 0 rfl rfl rfl rfl rfl (Nat.le_of_ble_eq_true rfl) dX6_takeClause_102 ?_
              rintro _ _ (⟨hE13, rfl, n13, r13, hJ13, rfl⟩ | ⟨hE13, rfl, pa13, pb13, vv13, eb13, ev13, rfl⟩)
              · replace hE13 : ¬ (nF (r 9) (n 10) (ph6 + 1) 1 63).1 = 0 := hE13
                refine z_istore_n C [(3, .int (nI ((nF (r 9) (n 10) (ph6 + 1) 1 63).1))), (2, .int (nI 3)), (1, .int (m_hr (r 9) (n 10) ph6)), (0, .ref (ad 0))] dX6_takeClause_105 rfl (by decide) rfl ?_
                refine z_iload_n C dX6_takeClause_106 rfl (show zlk _ 3 = some (.int (nI ((nF (r 9) (n 10) (ph6 + 1) 1 63).1))) from rfl) ?_
                refine z_if_leN C 112 dX6_takeClause_107 (by decide) (Nat.lt_of_le_of_lt (nF_le _ _ _ _ _) (by decide)) (fun h107n_7 => absurd h107n_7 (hE13)) (fun h107n_7 => ?_)
                refine z_iload_n C dX6_takeClause_110 rfl (show zlk _ 3 = some (.int (nI ((nF (r 9) (n 10) (ph6 + 1) 1 63).1))) from rfl) ?_
                exact E _ _ _ _ (Or.inl (by rw [clF_b eh6 hK hKn h77t_6 (by rw [bF_3]; exact hE13), bF_3]; exact ⟨hE13, rfl, _, _, hJ13, rfl⟩)) (rfl) dX6_takeClause_111
              · replace hE13 : (nF (r 9) (n 10) (ph6 + 1) 1 63).1 = 0 := hE13
                replace eb13 : pb13 = nE (r 9) (n 10) (ph6 + 1) := eb13
                replace ev13 : vv13 = nV (r 9) (n 10) (ph6 + 1) := ev13
                refine z_X (Y := MW θ ad (nv (n 0) (n 1) (n 3) (n 5) (n 8) (n 10) pb13 vv13 pa13 (n 15) (n 16) (n 18) (n 20 + 1) (n 22) (n 27)) g (rv (r 2) (r 4) (r 6) (r 7) (r 9) (r 17) (r 19) (upd (r 21) (n 20) (nI vv13)) (r 23) (r 24) (r 25) (r 26) (r 28) (r 29) (r 30) (r 31) (r 32))) (mw_eq rfl rfl rfl rfl rfl rfl rfl rfl rfl rfl rfl rfl rfl rfl rfl rfl rfl rfl rfl rfl rfl rfl rfl rfl rfl rfl rfl rfl rfl rfl rfl rfl) ?_
                refine z_istore_n C [(3, .int (nI 0)), (2, .int (nI 3)), (1, .int (m_hr (r 9) (n 10) ph6)), (0, .ref (ad 0))] dX6_takeClause_105 rfl (by decide) rfl ?_
                refine z_iload_n C dX6_takeClause_106 rfl (show zlk _ 3 = some (.int (nI 0)) from rfl) ?_
                refine z_if_leN C 112 dX6_takeClause_107 (by decide) (by decide) (fun _ => ?_) (fun h => absurd h (by decide))
                have hbE : pb13 = bE (r 9) (n 10) (ph6 + 1) 3 := by rw [bE_k (by decide)]; exact eb13
                have hEb : (bF (r 9) (n 10) (ph6 + 1) 3).1 = 0 := by rw [bF_3]; exact hE13
                have hbL : pb13 ≤ n 10 := by rw [hbE]; exact bE_le (by omega) hEb
                refine z_aload_n C dX6_takeClause_112 rfl (show zlk _ 0 = some (.ref (ad 0)) from rfl) ?_
                refine z_callVi C (As := []) (rest := []) (c_X6_here l θ ad (nv (n 0) (n 1) (n 3) (n 5) (n 8) (n 10) pb13 vv13 pa13 (n 15) (n 16) (n 18) (n 20 + 1) (n 22) (n 27)) g (rv (r 2) (r 4) (r 6) (r 7) (r 9) (r 17) (r 19) (upd (r 21) (n 20) (nI vv13)) (r 23) (r 24) (r 25) (r 26) (r 28) (r 29) (r 30) (r 31) (r 32)) (show pb13 ≤ n 10 by omega) (hL)) gX6_takeClause_X6_here rfl 0 (by decide +kernel) (by decide) (by decide) 0 rfl rfl rfl rfl rfl (Nat.le_of_ble_eq_true rfl) dX6_takeClause_113 ?_
                rintro _ _ ⟨ph7, eh7, rfl, rfl⟩
                replace eh7 : ph7 = sk (r 9) (n 10) (pb13) := eh7
                have lh7 : ph7 ≤ n 10 := by rw [eh7]; exact (sk_le (by omega)).2
                refine z_top (v' := .int (m_hr (r 9) (n 10) ph7)) rfl ?_
                refine z_X (Y := MW θ ad (nv (n 0) (n 1) (n 3) (n 5) (n 8) (n 10) ph7 vv13 pa13 (n 15) (n 16) (n 18) (n 20 + 1) (n 22) (n 27)) g (rv (r 2) (r 4) (r 6) (r 7) (r 9) (r 17) (r 19) (upd (r 21) (n 20) (nI vv13)) (r 23) (r 24) (r 25) (r 26) (r 28) (r 29) (r 30) (r 31) (r 32))) (mw_eq rfl rfl rfl rfl rfl rfl rfl rfl rfl rfl rfl rfl rfl rfl rfl rfl rfl rfl rfl rfl rfl rfl rfl rfl rfl rfl rfl rfl rfl rfl rfl rfl) ?_
                refine z_bipush C (v := nI 59) dX6_takeClause_116 (by decide) ?_
                refine z_icmp_eq C 131 dX6_takeClause_118 (by decide) (fun h118t_8 => ?_) (fun h118n_8 => ?_)
                · refine z_aload_n C dX6_takeClause_131 rfl (show zlk _ 0 = some (.ref (ad 0)) from rfl) ?_
                  refine z_dup C dX6_takeClause_132 rfl ?_
                  refine z_mg C hin 12 (by decide) (by decide +kernel) (v := .int (nI ph7)) mfv_12 dX6_takeClause_133 ?_
                  refine z_iconst C (v := nI 1) dX6_takeClause_136 (by decide) ?_
                  refine z_iaddN C dX6_takeClause_137 ?_
                  refine z_mp C hin 12 (by decide) (by decide +kernel) rfl rfl mpv_12 dX6_takeClause_138 ?_
                  refine z_iconst C (v := nI 0) dX6_takeClause_141 (by decide) ?_
                  exact E _ _ _ _ (Or.inr (by have hsf : clF (r 9) (n 10) (n 12) (n 15) (n 16) (n 18) (n 20) = _ := clF_s eh6 hK hKn h77t_6 hEb; rw [← hbE] at hsf; unfold sF at hsf; rw [← eh7] at hsf; rw [if_pos h118t_8] at hsf; exact ⟨by rw [hsf], rfl, _, _, _, _, _, _, _, _, _, _, (by unfold clP clK; rw [← eh6, hK, ← hbE, ← eh7]), (by unfold clG clK; rw [← eh6, hK]; exact rfl), (by unfold clC clK; rw [← eh6, hK]; rfl), (by unfold clC clK; rw [← eh6, hK]; rfl), (by unfold clC clK; rw [← eh6, hK]; rfl), (by unfold clO clK; rw [← eh6, hK]; rfl), (by unfold clR clK; rw [← eh6, hK]; rfl), (by unfold clR clK; rw [← eh6, hK]; rw [ev13]; rfl), (mw_eq rfl rfl rfl rfl rfl rfl rfl rfl rfl rfl rfl rfl rfl rfl rfl rfl rfl rfl rfl rfl rfl rfl rfl rfl rfl rfl rfl rfl rfl rfl rfl rfl)⟩)) (rfl) dX6_takeClause_142
                · refine z_aload_n C dX6_takeClause_121 rfl (show zlk _ 0 = some (.ref (ad 0)) from rfl) ?_
                  refine z_iconst C (v := nI 1) dX6_takeClause_122 (by decide) ?_
                  refine z_aload_n C dX6_takeClause_123 rfl (show zlk _ 0 = some (.ref (ad 0)) from rfl) ?_
                  refine z_mg C hin 12 (by decide) (by decide +kernel) (v := .int (nI ph7)) mfv_12 dX6_takeClause_124 ?_
                  refine z_callVi C (As := [.int (nI 1), .int (nI ph7)]) (rest := []) (c_X6_fails l θ ad (nv (n 0) (n 1) (n 3) (n 5) (n 8) (n 10) ph7 vv13 pa13 (n 15) (n 16) (n 18) (n 20 + 1) (n 22) (n 27)) g (rv (r 2) (r 4) (r 6) (r 7) (r 9) (r 17) (r 19) (upd (r 21) (n 20) (nI vv13)) (r 23) (r 24) (r 25) (r 26) (r 28) (r 29) (r 30) (r 31) (r 32)) 1 ph7) gX6_takeClause_X6_fails rfl 2 (by decide +kernel) (by decide) (by decide) 0 rfl rfl rfl rfl rfl (Nat.le_of_ble_eq_true rfl) dX6_takeClause_127 ?_
                  rintro _ _ ⟨rfl, rfl⟩
                  refine z_top (v' := .int (nI 1)) rfl ?_
                  refine z_X (Y := MW θ ad (nv (n 0) (n 1) (n 3) (n 5) (n 8) (n 10) ph7 vv13 pa13 (n 15) (n 16) (n 18) (n 20 + 1) (n 22) (n 27)) (nI ph7) (rv (r 2) (r 4) (r 6) (r 7) (r 9) (r 17) (r 19) (upd (r 21) (n 20) (nI vv13)) (r 23) (r 24) (r 25) (r 26) (r 28) (r 29) (r 30) (r 31) (r 32))) (mw_eq rfl rfl rfl rfl rfl rfl rfl rfl rfl rfl rfl rfl rfl rfl rfl rfl rfl rfl rfl rfl rfl rfl rfl rfl rfl rfl rfl rfl rfl rfl rfl rfl) ?_
                  exact E _ _ _ _ (Or.inl (by have hsf : clF (r 9) (n 10) (n 12) (n 15) (n 16) (n 18) (n 20) = _ := clF_s eh6 hK hKn h77t_6 hEb; rw [← hbE] at hsf; unfold sF at hsf; rw [← eh7] at hsf; rw [if_neg h118n_8] at hsf; rw [hsf]; exact ⟨by simp, rfl, mJ_of rfl rfl rfl rfl rfl rfl rfl rfl rfl rfl rfl rfl rfl rfl rfl rfl rfl rfl rfl rfl rfl rfl⟩)) (rfl) dX6_takeClause_130
            · refine z_aload_n C dX6_takeClause_80 rfl (show zlk _ 0 = some (.ref (ad 0)) from rfl) ?_
              refine z_iconst C (v := nI 3) dX6_takeClause_81 (by decide) ?_
              refine z_aload_n C dX6_takeClause_82 rfl (show zlk _ 0 = some (.ref (ad 0)) from rfl) ?_
              refine z_mg C hin 12 (by decide) (by decide +kernel) (v := .int (nI ph6)) mfv_12 dX6_takeClause_83 ?_
              refine z_callVi C (As := [.int (nI 3), .int (nI ph6)]) (rest := []) (c_X6_fails l θ ad (nv (n 0) (n 1) (n 3) (n 5) (n 8) (n 10) ph6 (n 13) (n 14) (n 15) (n 16) (n 18) (n 20) (n 22) (n 27)) g r 3 ph6) gX6_takeClause_X6_fails rfl 2 (by decide +kernel) (by decide) (by decide) 0 rfl rfl rfl rfl rfl (Nat.le_of_ble_eq_true rfl) dX6_takeClause_86 ?_
              rintro _ _ ⟨rfl, rfl⟩
              refine z_top (v' := .int (nI 3)) rfl ?_
              refine z_X (Y := MW θ ad (nv (n 0) (n 1) (n 3) (n 5) (n 8) (n 10) ph6 (n 13) (n 14) (n 15) (n 16) (n 18) (n 20) (n 22) (n 27)) (nI ph6) r) (mw_eq rfl rfl rfl rfl rfl rfl rfl rfl rfl rfl rfl rfl rfl rfl rfl rfl rfl rfl rfl rfl rfl rfl rfl rfl rfl rfl rfl rfl rfl rfl rfl rfl) ?_
              exact E _ _ _ _ (Or.inl (by rw [clF_3 eh6 hK (by omega) h77n_6]; exact ⟨by simp, rfl, mJ_of rfl rfl rfl rfl rfl rfl rfl rfl rfl rfl rfl rfl rfl rfl rfl rfl rfl rfl rfl rfl rfl rfl⟩)) (rfl) dX6_takeClause_89
          · refine z_aload_n C dX6_takeClause_62 rfl (show zlk _ 0 = some (.ref (ad 0)) from rfl) ?_
            refine z_iconst C (v := nI 1) dX6_takeClause_63 (by decide) ?_
            refine z_aload_n C dX6_takeClause_64 rfl (show zlk _ 0 = some (.ref (ad 0)) from rfl) ?_
            refine z_mg C hin 12 (by decide) (by decide +kernel) (v := .int (nI ph6)) mfv_12 dX6_takeClause_65 ?_
            refine z_callVi C (As := [.int (nI 1), .int (nI ph6)]) (rest := []) (c_X6_fails l θ ad (nv (n 0) (n 1) (n 3) (n 5) (n 8) (n 10) ph6 (n 13) (n 14) (n 15) (n 16) (n 18) (n 20) (n 22) (n 27)) g r 1 ph6) gX6_takeClause_X6_fails rfl 2 (by decide +kernel) (by decide) (by decide) 0 rfl rfl rfl rfl rfl (Nat.le_of_ble_eq_true rfl) dX6_takeClause_68 ?_
            rintro _ _ ⟨rfl, rfl⟩
            refine z_top (v' := .int (nI 1)) rfl ?_
            refine z_X (Y := MW θ ad (nv (n 0) (n 1) (n 3) (n 5) (n 8) (n 10) ph6 (n 13) (n 14) (n 15) (n 16) (n 18) (n 20) (n 22) (n 27)) (nI ph6) r) (mw_eq rfl rfl rfl rfl rfl rfl rfl rfl rfl rfl rfl rfl rfl rfl rfl rfl rfl rfl rfl rfl rfl rfl rfl rfl rfl rfl rfl rfl rfl rfl rfl rfl) ?_
            exact E _ _ _ _ (Or.inl (by rw [clF_1 eh6 hK (by omega)]; exact ⟨by simp, rfl, mJ_of rfl rfl rfl rfl rfl rfl rfl rfl rfl rfl rfl rfl rfl rfl rfl rfl rfl rfl rfl rfl rfl rfl⟩)) (rfl) dX6_takeClause_71
      · refine z_iconst C (v := nI 2) dX6_takeClause_31 (by decide) ?_
        refine z_goto C 46 dX6_takeClause_32 (by decide) ?_
        refine z_istore_n C [(2, .int (nI 2)), (1, .int (m_hr (r 9) (n 10) ph6)), (0, .ref (ad 0))] dX6_takeClause_46 rfl (by decide) rfl ?_
        have hK : cK (m_hr (r 9) (n 10) ph6) = 2 := by unfold cK; rw [if_neg h8t_1, if_neg h18t_2, if_pos h28n_3]
        refine z_iload_n C dX6_takeClause_47 rfl (show zlk _ 2 = some (.int (nI 2)) from rfl) ?_
        refine z_if_ltN C 62 dX6_takeClause_48 (by decide) (by omega) ?_
        refine z_iload_n C dX6_takeClause_51 rfl (show zlk _ 2 = some (.int (nI 2)) from rfl) ?_
        refine z_if_leN C 72 dX6_takeClause_52 (by decide) (by decide) (fun h => absurd h (by decide)) (fun _ => ?_)
        refine z_aload_n C dX6_takeClause_55 rfl (show zlk _ 0 = some (.ref (ad 0)) from rfl) ?_
        refine z_mg C hin 15 (by decide) (by decide +kernel) (v := .int (nI (n 15))) mfv_15 dX6_takeClause_56 ?_
        refine z_if_neN C 72 dX6_takeClause_59 (by decide) (by omega) (fun h59t_9 => ?_) (fun h59n_9 => ?_)
        · refine z_aload_n C dX6_takeClause_72 rfl (show zlk _ 0 = some (.ref (ad 0)) from rfl) ?_
          refine z_iload_n C dX6_takeClause_73 rfl (show zlk _ 2 = some (.int (nI 2)) from rfl) ?_
          refine z_callVi C (As := [.int (nI 2)]) (rest := []) (c_X6_isFull_2 l θ ad (nv (n 0) (n 1) (n 3) (n 5) (n 8) (n 10) ph6 (n 13) (n 14) (n 15) (n 16) (n 18) (n 20) (n 22) (n 27)) g r (show n 15 < 2 ^ 31 by omega) (show n 16 < 2 ^ 31 by omega) (show n 18 < 2 ^ 31 by omega) (show n 20 < 2 ^ 31 by omega)) gX6_takeClause_X6_isFull rfl 1 (by decide +kernel) (by decide) (by decide) 0 rfl rfl rfl rfl rfl (Nat.le_of_ble_eq_true rfl) dX6_takeClause_74 ?_
          rintro _ _ ⟨rfl, rfl⟩
          refine z_top (v' := .int (bI (fullK (n 15) (n 16) (n 18) (n 20) 2))) rfl ?_
          refine z_if_eqB C 90 dX6_takeClause_77 (by decide) (fun h77t_10 => ?_) (fun h77n_10 => ?_)
          · have hKn : ¬ (2 = 4 ∨ (¬ 2 = 0 ∧ n 15 = 0)) := by omega
            have hcc : n 18 < 5 := by have h9 := h77t_10; simp [fullK] at h9; omega
            have hlt1 : ph6 < n 10 := by
              by_cases e9 : ph6 < n 10
              · exact e9
              · unfold m_hr at hK; rw [if_neg e9] at hK; exact absurd hK (by decide)
            refine z_aload_n C dX6_takeClause_90 rfl (show zlk _ 0 = some (.ref (ad 0)) from rfl) ?_
            refine z_dup C dX6_takeClause_91 rfl ?_
            refine z_mg C hin 12 (by decide) (by decide +kernel) (v := .int (nI ph6)) mfv_12 dX6_takeClause_92 ?_
            refine z_iconst C (v := nI 1) dX6_takeClause_95 (by decide) ?_
            refine z_iaddN C dX6_takeClause_96 ?_
            refine z_mp C hin 12 (by decide) (by decide +kernel) rfl rfl mpv_12 dX6_takeClause_97 ?_
            refine z_aload_n C dX6_takeClause_100 rfl (show zlk _ 0 = some (.ref (ad 0)) from rfl) ?_
            refine z_iload_n C dX6_takeClause_101 rfl (show zlk _ 2 = some (.int (nI 2)) from rfl) ?_
            refine z_callVi C (As := [.int (nI 2)]) (rest := []) (c_X6_takeBody_2 l θ ad (nv (n 0) (n 1) (n 3) (n 5) (n 8) (n 10) (ph6 + 1) (n 13) (n 14) (n 15) (n 16) (n 18) (n 20) (n 22) (n 27)) g r (show ph6 + 1 ≤ n 10 by omega) (hL) (hcc)) gX6_takeClause_X6_takeBody rfl 1 (by decide +kernel) (by decide) (by decide) 0 rfl rfl rfl rfl rfl (Nat.le_of_ble_eq_true rfl) dX6_takeClause_102 ?_
            rintro _ _ (⟨hE14, rfl, n14, r14, hJ14, rfl⟩ | ⟨hE14, rfl, pa14, pb14, vv14, eb14, ev14, rfl⟩)
            · replace hE14 : ¬ (nF (r 9) (n 10) (ph6 + 1) 0 5).1 = 0 := hE14
              refine z_istore_n C [(3, .int (nI ((nF (r 9) (n 10) (ph6 + 1) 0 5).1))), (2, .int (nI 2)), (1, .int (m_hr (r 9) (n 10) ph6)), (0, .ref (ad 0))] dX6_takeClause_105 rfl (by decide) rfl ?_
              refine z_iload_n C dX6_takeClause_106 rfl (show zlk _ 3 = some (.int (nI ((nF (r 9) (n 10) (ph6 + 1) 0 5).1))) from rfl) ?_
              refine z_if_leN C 112 dX6_takeClause_107 (by decide) (Nat.lt_of_le_of_lt (nF_le _ _ _ _ _) (by decide)) (fun h107n_11 => absurd h107n_11 (hE14)) (fun h107n_11 => ?_)
              refine z_iload_n C dX6_takeClause_110 rfl (show zlk _ 3 = some (.int (nI ((nF (r 9) (n 10) (ph6 + 1) 0 5).1))) from rfl) ?_
              exact E _ _ _ _ (Or.inl (by rw [clF_b eh6 hK hKn h77t_10 (by rw [bF_2]; exact hE14), bF_2]; exact ⟨hE14, rfl, _, _, hJ14, rfl⟩)) (rfl) dX6_takeClause_111
            · replace hE14 : (nF (r 9) (n 10) (ph6 + 1) 0 5).1 = 0 := hE14
              replace eb14 : pb14 = nE (r 9) (n 10) (ph6 + 1) := eb14
              replace ev14 : vv14 = nV (r 9) (n 10) (ph6 + 1) := ev14
              refine z_X (Y := MW θ ad (nv (n 0) (n 1) (n 3) (n 5) (n 8) (n 10) pb14 vv14 pa14 (n 15) (n 16) (n 18 + 1) (n 20) (n 22) (n 27)) g (rv (r 2) (r 4) (r 6) (r 7) (r 9) (r 17) (upd (r 19) (n 18) (nI vv14)) (r 21) (r 23) (r 24) (r 25) (r 26) (r 28) (r 29) (r 30) (r 31) (r 32))) (mw_eq rfl rfl rfl rfl rfl rfl rfl rfl rfl rfl rfl rfl rfl rfl rfl rfl rfl rfl rfl rfl rfl rfl rfl rfl rfl rfl rfl rfl rfl rfl rfl rfl) ?_
              refine z_istore_n C [(3, .int (nI 0)), (2, .int (nI 2)), (1, .int (m_hr (r 9) (n 10) ph6)), (0, .ref (ad 0))] dX6_takeClause_105 rfl (by decide) rfl ?_
              refine z_iload_n C dX6_takeClause_106 rfl (show zlk _ 3 = some (.int (nI 0)) from rfl) ?_
              refine z_if_leN C 112 dX6_takeClause_107 (by decide) (by decide) (fun _ => ?_) (fun h => absurd h (by decide))
              have hbE : pb14 = bE (r 9) (n 10) (ph6 + 1) 2 := by rw [bE_k (by decide)]; exact eb14
              have hEb : (bF (r 9) (n 10) (ph6 + 1) 2).1 = 0 := by rw [bF_2]; exact hE14
              have hbL : pb14 ≤ n 10 := by rw [hbE]; exact bE_le (by omega) hEb
              refine z_aload_n C dX6_takeClause_112 rfl (show zlk _ 0 = some (.ref (ad 0)) from rfl) ?_
              refine z_callVi C (As := []) (rest := []) (c_X6_here l θ ad (nv (n 0) (n 1) (n 3) (n 5) (n 8) (n 10) pb14 vv14 pa14 (n 15) (n 16) (n 18 + 1) (n 20) (n 22) (n 27)) g (rv (r 2) (r 4) (r 6) (r 7) (r 9) (r 17) (upd (r 19) (n 18) (nI vv14)) (r 21) (r 23) (r 24) (r 25) (r 26) (r 28) (r 29) (r 30) (r 31) (r 32)) (show pb14 ≤ n 10 by omega) (hL)) gX6_takeClause_X6_here rfl 0 (by decide +kernel) (by decide) (by decide) 0 rfl rfl rfl rfl rfl (Nat.le_of_ble_eq_true rfl) dX6_takeClause_113 ?_
              rintro _ _ ⟨ph8, eh8, rfl, rfl⟩
              replace eh8 : ph8 = sk (r 9) (n 10) (pb14) := eh8
              have lh8 : ph8 ≤ n 10 := by rw [eh8]; exact (sk_le (by omega)).2
              refine z_top (v' := .int (m_hr (r 9) (n 10) ph8)) rfl ?_
              refine z_X (Y := MW θ ad (nv (n 0) (n 1) (n 3) (n 5) (n 8) (n 10) ph8 vv14 pa14 (n 15) (n 16) (n 18 + 1) (n 20) (n 22) (n 27)) g (rv (r 2) (r 4) (r 6) (r 7) (r 9) (r 17) (upd (r 19) (n 18) (nI vv14)) (r 21) (r 23) (r 24) (r 25) (r 26) (r 28) (r 29) (r 30) (r 31) (r 32))) (mw_eq rfl rfl rfl rfl rfl rfl rfl rfl rfl rfl rfl rfl rfl rfl rfl rfl rfl rfl rfl rfl rfl rfl rfl rfl rfl rfl rfl rfl rfl rfl rfl rfl) ?_
              refine z_bipush C (v := nI 59) dX6_takeClause_116 (by decide) ?_
              refine z_icmp_eq C 131 dX6_takeClause_118 (by decide) (fun h118t_12 => ?_) (fun h118n_12 => ?_)
              · refine z_aload_n C dX6_takeClause_131 rfl (show zlk _ 0 = some (.ref (ad 0)) from rfl) ?_
                refine z_dup C dX6_takeClause_132 rfl ?_
                refine z_mg C hin 12 (by decide) (by decide +kernel) (v := .int (nI ph8)) mfv_12 dX6_takeClause_133 ?_
                refine z_iconst C (v := nI 1) dX6_takeClause_136 (by decide) ?_
                refine z_iaddN C dX6_takeClause_137 ?_
                refine z_mp C hin 12 (by decide) (by decide +kernel) rfl rfl mpv_12 dX6_takeClause_138 ?_
                refine z_iconst C (v := nI 0) dX6_takeClause_141 (by decide) ?_
                exact E _ _ _ _ (Or.inr (by have hsf : clF (r 9) (n 10) (n 12) (n 15) (n 16) (n 18) (n 20) = _ := clF_s eh6 hK hKn h77t_10 hEb; rw [← hbE] at hsf; unfold sF at hsf; rw [← eh8] at hsf; rw [if_pos h118t_12] at hsf; exact ⟨by rw [hsf], rfl, _, _, _, _, _, _, _, _, _, _, (by unfold clP clK; rw [← eh6, hK, ← hbE, ← eh8]), (by unfold clG clK; rw [← eh6, hK]; exact rfl), (by unfold clC clK; rw [← eh6, hK]; rfl), (by unfold clC clK; rw [← eh6, hK]; rfl), (by unfold clC clK; rw [← eh6, hK]; rfl), (by unfold clO clK; rw [← eh6, hK]; rfl), (by unfold clR clK; rw [← eh6, hK]; rw [ev14]; rfl), (by unfold clR clK; rw [← eh6, hK]; rfl), (mw_eq rfl rfl rfl rfl rfl rfl rfl rfl rfl rfl rfl rfl rfl rfl rfl rfl rfl rfl rfl rfl rfl rfl rfl rfl rfl rfl rfl rfl rfl rfl rfl rfl)⟩)) (rfl) dX6_takeClause_142
              · refine z_aload_n C dX6_takeClause_121 rfl (show zlk _ 0 = some (.ref (ad 0)) from rfl) ?_
                refine z_iconst C (v := nI 1) dX6_takeClause_122 (by decide) ?_
                refine z_aload_n C dX6_takeClause_123 rfl (show zlk _ 0 = some (.ref (ad 0)) from rfl) ?_
                refine z_mg C hin 12 (by decide) (by decide +kernel) (v := .int (nI ph8)) mfv_12 dX6_takeClause_124 ?_
                refine z_callVi C (As := [.int (nI 1), .int (nI ph8)]) (rest := []) (c_X6_fails l θ ad (nv (n 0) (n 1) (n 3) (n 5) (n 8) (n 10) ph8 vv14 pa14 (n 15) (n 16) (n 18 + 1) (n 20) (n 22) (n 27)) g (rv (r 2) (r 4) (r 6) (r 7) (r 9) (r 17) (upd (r 19) (n 18) (nI vv14)) (r 21) (r 23) (r 24) (r 25) (r 26) (r 28) (r 29) (r 30) (r 31) (r 32)) 1 ph8) gX6_takeClause_X6_fails rfl 2 (by decide +kernel) (by decide) (by decide) 0 rfl rfl rfl rfl rfl (Nat.le_of_ble_eq_true rfl) dX6_takeClause_127 ?_
                rintro _ _ ⟨rfl, rfl⟩
                refine z_top (v' := .int (nI 1)) rfl ?_
                refine z_X (Y := MW θ ad (nv (n 0) (n 1) (n 3) (n 5) (n 8) (n 10) ph8 vv14 pa14 (n 15) (n 16) (n 18 + 1) (n 20) (n 22) (n 27)) (nI ph8) (rv (r 2) (r 4) (r 6) (r 7) (r 9) (r 17) (upd (r 19) (n 18) (nI vv14)) (r 21) (r 23) (r 24) (r 25) (r 26) (r 28) (r 29) (r 30) (r 31) (r 32))) (mw_eq rfl rfl rfl rfl rfl rfl rfl rfl rfl rfl rfl rfl rfl rfl rfl rfl rfl rfl rfl rfl rfl rfl rfl rfl rfl rfl rfl rfl rfl rfl rfl rfl) ?_
                exact E _ _ _ _ (Or.inl (by have hsf : clF (r 9) (n 10) (n 12) (n 15) (n 16) (n 18) (n 20) = _ := clF_s eh6 hK hKn h77t_10 hEb; rw [← hbE] at hsf; unfold sF at hsf; rw [← eh8] at hsf; rw [if_neg h118n_12] at hsf; rw [hsf]; exact ⟨by simp, rfl, mJ_of rfl rfl rfl rfl rfl rfl rfl rfl rfl rfl rfl rfl rfl rfl rfl rfl rfl rfl rfl rfl rfl rfl⟩)) (rfl) dX6_takeClause_130
          · refine z_aload_n C dX6_takeClause_80 rfl (show zlk _ 0 = some (.ref (ad 0)) from rfl) ?_
            refine z_iconst C (v := nI 3) dX6_takeClause_81 (by decide) ?_
            refine z_aload_n C dX6_takeClause_82 rfl (show zlk _ 0 = some (.ref (ad 0)) from rfl) ?_
            refine z_mg C hin 12 (by decide) (by decide +kernel) (v := .int (nI ph6)) mfv_12 dX6_takeClause_83 ?_
            refine z_callVi C (As := [.int (nI 3), .int (nI ph6)]) (rest := []) (c_X6_fails l θ ad (nv (n 0) (n 1) (n 3) (n 5) (n 8) (n 10) ph6 (n 13) (n 14) (n 15) (n 16) (n 18) (n 20) (n 22) (n 27)) g r 3 ph6) gX6_takeClause_X6_fails rfl 2 (by decide +kernel) (by decide) (by decide) 0 rfl rfl rfl rfl rfl (Nat.le_of_ble_eq_true rfl) dX6_takeClause_86 ?_
            rintro _ _ ⟨rfl, rfl⟩
            refine z_top (v' := .int (nI 3)) rfl ?_
            refine z_X (Y := MW θ ad (nv (n 0) (n 1) (n 3) (n 5) (n 8) (n 10) ph6 (n 13) (n 14) (n 15) (n 16) (n 18) (n 20) (n 22) (n 27)) (nI ph6) r) (mw_eq rfl rfl rfl rfl rfl rfl rfl rfl rfl rfl rfl rfl rfl rfl rfl rfl rfl rfl rfl rfl rfl rfl rfl rfl rfl rfl rfl rfl rfl rfl rfl rfl) ?_
            exact E _ _ _ _ (Or.inl (by rw [clF_3 eh6 hK (by omega) h77n_10]; exact ⟨by simp, rfl, mJ_of rfl rfl rfl rfl rfl rfl rfl rfl rfl rfl rfl rfl rfl rfl rfl rfl rfl rfl rfl rfl rfl rfl⟩)) (rfl) dX6_takeClause_89
        · refine z_aload_n C dX6_takeClause_62 rfl (show zlk _ 0 = some (.ref (ad 0)) from rfl) ?_
          refine z_iconst C (v := nI 1) dX6_takeClause_63 (by decide) ?_
          refine z_aload_n C dX6_takeClause_64 rfl (show zlk _ 0 = some (.ref (ad 0)) from rfl) ?_
          refine z_mg C hin 12 (by decide) (by decide +kernel) (v := .int (nI ph6)) mfv_12 dX6_takeClause_65 ?_
          refine z_callVi C (As := [.int (nI 1), .int (nI ph6)]) (rest := []) (c_X6_fails l θ ad (nv (n 0) (n 1) (n 3) (n 5) (n 8) (n 10) ph6 (n 13) (n 14) (n 15) (n 16) (n 18) (n 20) (n 22) (n 27)) g r 1 ph6) gX6_takeClause_X6_fails rfl 2 (by decide +kernel) (by decide) (by decide) 0 rfl rfl rfl rfl rfl (Nat.le_of_ble_eq_true rfl) dX6_takeClause_68 ?_
          rintro _ _ ⟨rfl, rfl⟩
          refine z_top (v' := .int (nI 1)) rfl ?_
          refine z_X (Y := MW θ ad (nv (n 0) (n 1) (n 3) (n 5) (n 8) (n 10) ph6 (n 13) (n 14) (n 15) (n 16) (n 18) (n 20) (n 22) (n 27)) (nI ph6) r) (mw_eq rfl rfl rfl rfl rfl rfl rfl rfl rfl rfl rfl rfl rfl rfl rfl rfl rfl rfl rfl rfl rfl rfl rfl rfl rfl rfl rfl rfl rfl rfl rfl rfl) ?_
          exact E _ _ _ _ (Or.inl (by rw [clF_1 eh6 hK (by omega)]; exact ⟨by simp, rfl, mJ_of rfl rfl rfl rfl rfl rfl rfl rfl rfl rfl rfl rfl rfl rfl rfl rfl rfl rfl rfl rfl rfl rfl⟩)) (rfl) dX6_takeClause_71
    · refine z_iconst C (v := nI 1) dX6_takeClause_21 (by decide) ?_
      refine z_goto C 46 dX6_takeClause_22 (by decide) ?_
      refine z_istore_n C [(2, .int (nI 1)), (1, .int (m_hr (r 9) (n 10) ph6)), (0, .ref (ad 0))] dX6_takeClause_46 rfl (by decide) rfl ?_
      have hK : cK (m_hr (r 9) (n 10) ph6) = 1 := by unfold cK; rw [if_neg h8t_1, if_pos h18n_2]
      refine z_iload_n C dX6_takeClause_47 rfl (show zlk _ 2 = some (.int (nI 1)) from rfl) ?_
      refine z_if_ltN C 62 dX6_takeClause_48 (by decide) (by omega) ?_
      refine z_iload_n C dX6_takeClause_51 rfl (show zlk _ 2 = some (.int (nI 1)) from rfl) ?_
      refine z_if_leN C 72 dX6_takeClause_52 (by decide) (by decide) (fun h => absurd h (by decide)) (fun _ => ?_)
      refine z_aload_n C dX6_takeClause_55 rfl (show zlk _ 0 = some (.ref (ad 0)) from rfl) ?_
      refine z_mg C hin 15 (by decide) (by decide +kernel) (v := .int (nI (n 15))) mfv_15 dX6_takeClause_56 ?_
      refine z_if_neN C 72 dX6_takeClause_59 (by decide) (by omega) (fun h59t_13 => ?_) (fun h59n_13 => ?_)
      · refine z_aload_n C dX6_takeClause_72 rfl (show zlk _ 0 = some (.ref (ad 0)) from rfl) ?_
        refine z_iload_n C dX6_takeClause_73 rfl (show zlk _ 2 = some (.int (nI 1)) from rfl) ?_
        refine z_callVi C (As := [.int (nI 1)]) (rest := []) (c_X6_isFull_1 l θ ad (nv (n 0) (n 1) (n 3) (n 5) (n 8) (n 10) ph6 (n 13) (n 14) (n 15) (n 16) (n 18) (n 20) (n 22) (n 27)) g r (show n 15 < 2 ^ 31 by omega) (show n 16 < 2 ^ 31 by omega) (show n 18 < 2 ^ 31 by omega) (show n 20 < 2 ^ 31 by omega)) gX6_takeClause_X6_isFull rfl 1 (by decide +kernel) (by decide) (by decide) 0 rfl rfl rfl rfl rfl (Nat.le_of_ble_eq_true rfl) dX6_takeClause_74 ?_
        rintro _ _ ⟨rfl, rfl⟩
        refine z_top (v' := .int (bI (fullK (n 15) (n 16) (n 18) (n 20) 1))) rfl ?_
        refine z_if_eqB C 90 dX6_takeClause_77 (by decide) (fun h77t_14 => ?_) (fun h77n_14 => ?_)
        · have hKn : ¬ (1 = 4 ∨ (¬ 1 = 0 ∧ n 15 = 0)) := by omega
          have hcc : n 16 < 6 := by have h9 := h77t_14; simp [fullK] at h9; omega
          have hlt1 : ph6 < n 10 := by
            by_cases e9 : ph6 < n 10
            · exact e9
            · unfold m_hr at hK; rw [if_neg e9] at hK; exact absurd hK (by decide)
          refine z_aload_n C dX6_takeClause_90 rfl (show zlk _ 0 = some (.ref (ad 0)) from rfl) ?_
          refine z_dup C dX6_takeClause_91 rfl ?_
          refine z_mg C hin 12 (by decide) (by decide +kernel) (v := .int (nI ph6)) mfv_12 dX6_takeClause_92 ?_
          refine z_iconst C (v := nI 1) dX6_takeClause_95 (by decide) ?_
          refine z_iaddN C dX6_takeClause_96 ?_
          refine z_mp C hin 12 (by decide) (by decide +kernel) rfl rfl mpv_12 dX6_takeClause_97 ?_
          refine z_aload_n C dX6_takeClause_100 rfl (show zlk _ 0 = some (.ref (ad 0)) from rfl) ?_
          refine z_iload_n C dX6_takeClause_101 rfl (show zlk _ 2 = some (.int (nI 1)) from rfl) ?_
          refine z_callVi C (As := [.int (nI 1)]) (rest := []) (c_X6_takeBody_1 l θ ad (nv (n 0) (n 1) (n 3) (n 5) (n 8) (n 10) (ph6 + 1) (n 13) (n 14) (n 15) (n 16) (n 18) (n 20) (n 22) (n 27)) g r (show ph6 + 1 ≤ n 10 by omega) (hL) (hcc)) gX6_takeClause_X6_takeBody rfl 1 (by decide +kernel) (by decide) (by decide) 0 rfl rfl rfl rfl rfl (Nat.le_of_ble_eq_true rfl) dX6_takeClause_102 ?_
          rintro _ _ (⟨hE15, rfl, n15, r15, hJ15, rfl⟩ | ⟨hE15, rfl, pa15, pb15, vv15, ss15, eb15, es15, rfl⟩)
          · replace hE15 : ¬ (rF (r 9) (n 10) (ph6 + 1) 5).1 = 0 := hE15
            refine z_istore_n C [(3, .int (nI ((rF (r 9) (n 10) (ph6 + 1) 5).1))), (2, .int (nI 1)), (1, .int (m_hr (r 9) (n 10) ph6)), (0, .ref (ad 0))] dX6_takeClause_105 rfl (by decide) rfl ?_
            refine z_iload_n C dX6_takeClause_106 rfl (show zlk _ 3 = some (.int (nI ((rF (r 9) (n 10) (ph6 + 1) 5).1))) from rfl) ?_
            refine z_if_leN C 112 dX6_takeClause_107 (by decide) (Nat.lt_of_le_of_lt (rF_le _ _ _ _) (by decide)) (fun h107n_15 => absurd h107n_15 (hE15)) (fun h107n_15 => ?_)
            refine z_iload_n C dX6_takeClause_110 rfl (show zlk _ 3 = some (.int (nI ((rF (r 9) (n 10) (ph6 + 1) 5).1))) from rfl) ?_
            exact E _ _ _ _ (Or.inl (by rw [clF_b eh6 hK hKn h77t_14 (by rw [bF_1]; exact hE15), bF_1]; exact ⟨hE15, rfl, _, _, hJ15, rfl⟩)) (rfl) dX6_takeClause_111
          · replace hE15 : (rF (r 9) (n 10) (ph6 + 1) 5).1 = 0 := hE15
            replace eb15 : pb15 = nE (r 9) (n 10) (rwq (r 9) (n 10) (ph6 + 1) 4) := eb15
            replace es15 : ss15 = rS (r 9) (n 10) (ph6 + 1) 5 := es15
            refine z_X (Y := MW θ ad (nv (n 0) (n 1) (n 3) (n 5) (n 8) (n 10) pb15 vv15 pa15 (n 15) (n 16 + 1) (n 18) (n 20) (n 22) (n 27)) g (rv (r 2) (r 4) (r 6) (r 7) (r 9) (upd (r 17) (n 16) ss15) (r 19) (r 21) (r 23) (r 24) (r 25) (r 26) (r 28) (r 29) (r 30) (r 31) (r 32))) (mw_eq rfl rfl rfl rfl rfl rfl rfl rfl rfl rfl rfl rfl rfl rfl rfl rfl rfl rfl rfl rfl rfl rfl rfl rfl rfl rfl rfl rfl rfl rfl rfl rfl) ?_
            refine z_istore_n C [(3, .int (nI 0)), (2, .int (nI 1)), (1, .int (m_hr (r 9) (n 10) ph6)), (0, .ref (ad 0))] dX6_takeClause_105 rfl (by decide) rfl ?_
            refine z_iload_n C dX6_takeClause_106 rfl (show zlk _ 3 = some (.int (nI 0)) from rfl) ?_
            refine z_if_leN C 112 dX6_takeClause_107 (by decide) (by decide) (fun _ => ?_) (fun h => absurd h (by decide))
            have hbE : pb15 = bE (r 9) (n 10) (ph6 + 1) 1 := by rw [bE_1]; exact eb15
            have hEb : (bF (r 9) (n 10) (ph6 + 1) 1).1 = 0 := by rw [bF_1]; exact hE15
            have hbL : pb15 ≤ n 10 := by rw [hbE]; exact bE_le (by omega) hEb
            refine z_aload_n C dX6_takeClause_112 rfl (show zlk _ 0 = some (.ref (ad 0)) from rfl) ?_
            refine z_callVi C (As := []) (rest := []) (c_X6_here l θ ad (nv (n 0) (n 1) (n 3) (n 5) (n 8) (n 10) pb15 vv15 pa15 (n 15) (n 16 + 1) (n 18) (n 20) (n 22) (n 27)) g (rv (r 2) (r 4) (r 6) (r 7) (r 9) (upd (r 17) (n 16) ss15) (r 19) (r 21) (r 23) (r 24) (r 25) (r 26) (r 28) (r 29) (r 30) (r 31) (r 32)) (show pb15 ≤ n 10 by omega) (hL)) gX6_takeClause_X6_here rfl 0 (by decide +kernel) (by decide) (by decide) 0 rfl rfl rfl rfl rfl (Nat.le_of_ble_eq_true rfl) dX6_takeClause_113 ?_
            rintro _ _ ⟨ph9, eh9, rfl, rfl⟩
            replace eh9 : ph9 = sk (r 9) (n 10) (pb15) := eh9
            have lh9 : ph9 ≤ n 10 := by rw [eh9]; exact (sk_le (by omega)).2
            refine z_top (v' := .int (m_hr (r 9) (n 10) ph9)) rfl ?_
            refine z_X (Y := MW θ ad (nv (n 0) (n 1) (n 3) (n 5) (n 8) (n 10) ph9 vv15 pa15 (n 15) (n 16 + 1) (n 18) (n 20) (n 22) (n 27)) g (rv (r 2) (r 4) (r 6) (r 7) (r 9) (upd (r 17) (n 16) ss15) (r 19) (r 21) (r 23) (r 24) (r 25) (r 26) (r 28) (r 29) (r 30) (r 31) (r 32))) (mw_eq rfl rfl rfl rfl rfl rfl rfl rfl rfl rfl rfl rfl rfl rfl rfl rfl rfl rfl rfl rfl rfl rfl rfl rfl rfl rfl rfl rfl rfl rfl rfl rfl) ?_
            refine z_bipush C (v := nI 59) dX6_takeClause_116 (by decide) ?_
            refine z_icmp_eq C 131 dX6_takeClause_118 (by decide) (fun h118t_16 => ?_) (fun h118n_16 => ?_)
            · refine z_aload_n C dX6_takeClause_131 rfl (show zlk _ 0 = some (.ref (ad 0)) from rfl) ?_
              refine z_dup C dX6_takeClause_132 rfl ?_
              refine z_mg C hin 12 (by decide) (by decide +kernel) (v := .int (nI ph9)) mfv_12 dX6_takeClause_133 ?_
              refine z_iconst C (v := nI 1) dX6_takeClause_136 (by decide) ?_
              refine z_iaddN C dX6_takeClause_137 ?_
              refine z_mp C hin 12 (by decide) (by decide +kernel) rfl rfl mpv_12 dX6_takeClause_138 ?_
              refine z_iconst C (v := nI 0) dX6_takeClause_141 (by decide) ?_
              exact E _ _ _ _ (Or.inr (by have hsf : clF (r 9) (n 10) (n 12) (n 15) (n 16) (n 18) (n 20) = _ := clF_s eh6 hK hKn h77t_14 hEb; rw [← hbE] at hsf; unfold sF at hsf; rw [← eh9] at hsf; rw [if_pos h118t_16] at hsf; exact ⟨by rw [hsf], rfl, _, _, _, _, _, _, _, _, _, _, (by unfold clP clK; rw [← eh6, hK, ← hbE, ← eh9]), (by unfold clG clK; rw [← eh6, hK]; exact rfl), (by unfold clC clK; rw [← eh6, hK]; rfl), (by unfold clC clK; rw [← eh6, hK]; rfl), (by unfold clC clK; rw [← eh6, hK]; rfl), (by unfold clO clK; rw [← eh6, hK]; rw [es15]; rfl), (by unfold clR clK; rw [← eh6, hK]; rfl), (by unfold clR clK; rw [← eh6, hK]; rfl), (mw_eq rfl rfl rfl rfl rfl rfl rfl rfl rfl rfl rfl rfl rfl rfl rfl rfl rfl rfl rfl rfl rfl rfl rfl rfl rfl rfl rfl rfl rfl rfl rfl rfl)⟩)) (rfl) dX6_takeClause_142
            · refine z_aload_n C dX6_takeClause_121 rfl (show zlk _ 0 = some (.ref (ad 0)) from rfl) ?_
              refine z_iconst C (v := nI 1) dX6_takeClause_122 (by decide) ?_
              refine z_aload_n C dX6_takeClause_123 rfl (show zlk _ 0 = some (.ref (ad 0)) from rfl) ?_
              refine z_mg C hin 12 (by decide) (by decide +kernel) (v := .int (nI ph9)) mfv_12 dX6_takeClause_124 ?_
              refine z_callVi C (As := [.int (nI 1), .int (nI ph9)]) (rest := []) (c_X6_fails l θ ad (nv (n 0) (n 1) (n 3) (n 5) (n 8) (n 10) ph9 vv15 pa15 (n 15) (n 16 + 1) (n 18) (n 20) (n 22) (n 27)) g (rv (r 2) (r 4) (r 6) (r 7) (r 9) (upd (r 17) (n 16) ss15) (r 19) (r 21) (r 23) (r 24) (r 25) (r 26) (r 28) (r 29) (r 30) (r 31) (r 32)) 1 ph9) gX6_takeClause_X6_fails rfl 2 (by decide +kernel) (by decide) (by decide) 0 rfl rfl rfl rfl rfl (Nat.le_of_ble_eq_true rfl) dX6_takeClause_127 ?_
              rintro _ _ ⟨rfl, rfl⟩
              refine z_top (v' := .int (nI 1)) rfl ?_
              refine z_X (Y := MW θ ad (nv (n 0) (n 1) (n 3) (n 5) (n 8) (n 10) ph9 vv15 pa15 (n 15) (n 16 + 1) (n 18) (n 20) (n 22) (n 27)) (nI ph9) (rv (r 2) (r 4) (r 6) (r 7) (r 9) (upd (r 17) (n 16) ss15) (r 19) (r 21) (r 23) (r 24) (r 25) (r 26) (r 28) (r 29) (r 30) (r 31) (r 32))) (mw_eq rfl rfl rfl rfl rfl rfl rfl rfl rfl rfl rfl rfl rfl rfl rfl rfl rfl rfl rfl rfl rfl rfl rfl rfl rfl rfl rfl rfl rfl rfl rfl rfl) ?_
              exact E _ _ _ _ (Or.inl (by have hsf : clF (r 9) (n 10) (n 12) (n 15) (n 16) (n 18) (n 20) = _ := clF_s eh6 hK hKn h77t_14 hEb; rw [← hbE] at hsf; unfold sF at hsf; rw [← eh9] at hsf; rw [if_neg h118n_16] at hsf; rw [hsf]; exact ⟨by simp, rfl, mJ_of rfl rfl rfl rfl rfl rfl rfl rfl rfl rfl rfl rfl rfl rfl rfl rfl rfl rfl rfl rfl rfl rfl⟩)) (rfl) dX6_takeClause_130
        · refine z_aload_n C dX6_takeClause_80 rfl (show zlk _ 0 = some (.ref (ad 0)) from rfl) ?_
          refine z_iconst C (v := nI 3) dX6_takeClause_81 (by decide) ?_
          refine z_aload_n C dX6_takeClause_82 rfl (show zlk _ 0 = some (.ref (ad 0)) from rfl) ?_
          refine z_mg C hin 12 (by decide) (by decide +kernel) (v := .int (nI ph6)) mfv_12 dX6_takeClause_83 ?_
          refine z_callVi C (As := [.int (nI 3), .int (nI ph6)]) (rest := []) (c_X6_fails l θ ad (nv (n 0) (n 1) (n 3) (n 5) (n 8) (n 10) ph6 (n 13) (n 14) (n 15) (n 16) (n 18) (n 20) (n 22) (n 27)) g r 3 ph6) gX6_takeClause_X6_fails rfl 2 (by decide +kernel) (by decide) (by decide) 0 rfl rfl rfl rfl rfl (Nat.le_of_ble_eq_true rfl) dX6_takeClause_86 ?_
          rintro _ _ ⟨rfl, rfl⟩
          refine z_top (v' := .int (nI 3)) rfl ?_
          refine z_X (Y := MW θ ad (nv (n 0) (n 1) (n 3) (n 5) (n 8) (n 10) ph6 (n 13) (n 14) (n 15) (n 16) (n 18) (n 20) (n 22) (n 27)) (nI ph6) r) (mw_eq rfl rfl rfl rfl rfl rfl rfl rfl rfl rfl rfl rfl rfl rfl rfl rfl rfl rfl rfl rfl rfl rfl rfl rfl rfl rfl rfl rfl rfl rfl rfl rfl) ?_
          exact E _ _ _ _ (Or.inl (by rw [clF_3 eh6 hK (by omega) h77n_14]; exact ⟨by simp, rfl, mJ_of rfl rfl rfl rfl rfl rfl rfl rfl rfl rfl rfl rfl rfl rfl rfl rfl rfl rfl rfl rfl rfl rfl⟩)) (rfl) dX6_takeClause_89
      · refine z_aload_n C dX6_takeClause_62 rfl (show zlk _ 0 = some (.ref (ad 0)) from rfl) ?_
        refine z_iconst C (v := nI 1) dX6_takeClause_63 (by decide) ?_
        refine z_aload_n C dX6_takeClause_64 rfl (show zlk _ 0 = some (.ref (ad 0)) from rfl) ?_
        refine z_mg C hin 12 (by decide) (by decide +kernel) (v := .int (nI ph6)) mfv_12 dX6_takeClause_65 ?_
        refine z_callVi C (As := [.int (nI 1), .int (nI ph6)]) (rest := []) (c_X6_fails l θ ad (nv (n 0) (n 1) (n 3) (n 5) (n 8) (n 10) ph6 (n 13) (n 14) (n 15) (n 16) (n 18) (n 20) (n 22) (n 27)) g r 1 ph6) gX6_takeClause_X6_fails rfl 2 (by decide +kernel) (by decide) (by decide) 0 rfl rfl rfl rfl rfl (Nat.le_of_ble_eq_true rfl) dX6_takeClause_68 ?_
        rintro _ _ ⟨rfl, rfl⟩
        refine z_top (v' := .int (nI 1)) rfl ?_
        refine z_X (Y := MW θ ad (nv (n 0) (n 1) (n 3) (n 5) (n 8) (n 10) ph6 (n 13) (n 14) (n 15) (n 16) (n 18) (n 20) (n 22) (n 27)) (nI ph6) r) (mw_eq rfl rfl rfl rfl rfl rfl rfl rfl rfl rfl rfl rfl rfl rfl rfl rfl rfl rfl rfl rfl rfl rfl rfl rfl rfl rfl rfl rfl rfl rfl rfl rfl) ?_
        exact E _ _ _ _ (Or.inl (by rw [clF_1 eh6 hK (by omega)]; exact ⟨by simp, rfl, mJ_of rfl rfl rfl rfl rfl rfl rfl rfl rfl rfl rfl rfl rfl rfl rfl rfl rfl rfl rfl rfl rfl rfl⟩)) (rfl) dX6_takeClause_71
  · refine z_iconst C (v := nI 0) dX6_takeClause_11 (by decide) ?_
    refine z_goto C 46 dX6_takeClause_12 (by decide) ?_
    refine z_istore_n C [(2, .int (nI 0)), (1, .int (m_hr (r 9) (n 10) ph6)), (0, .ref (ad 0))] dX6_takeClause_46 rfl (by decide) rfl ?_
    have hK : cK (m_hr (r 9) (n 10) ph6) = 0 := by unfold cK; rw [if_pos h8n_1]
    refine z_iload_n C dX6_takeClause_47 rfl (show zlk _ 2 = some (.int (nI 0)) from rfl) ?_
    refine z_if_ltN C 62 dX6_takeClause_48 (by decide) (by omega) ?_
    refine z_iload_n C dX6_takeClause_51 rfl (show zlk _ 2 = some (.int (nI 0)) from rfl) ?_
    refine z_if_leN C 72 dX6_takeClause_52 (by decide) (by decide) (fun _ => ?_) (fun h => absurd h (by decide))
    refine z_aload_n C dX6_takeClause_72 rfl (show zlk _ 0 = some (.ref (ad 0)) from rfl) ?_
    refine z_iload_n C dX6_takeClause_73 rfl (show zlk _ 2 = some (.int (nI 0)) from rfl) ?_
    refine z_callVi C (As := [.int (nI 0)]) (rest := []) (c_X6_isFull_0 l θ ad (nv (n 0) (n 1) (n 3) (n 5) (n 8) (n 10) ph6 (n 13) (n 14) (n 15) (n 16) (n 18) (n 20) (n 22) (n 27)) g r (show n 15 < 2 ^ 31 by omega) (show n 16 < 2 ^ 31 by omega) (show n 18 < 2 ^ 31 by omega) (show n 20 < 2 ^ 31 by omega)) gX6_takeClause_X6_isFull rfl 1 (by decide +kernel) (by decide) (by decide) 0 rfl rfl rfl rfl rfl (Nat.le_of_ble_eq_true rfl) dX6_takeClause_74 ?_
    rintro _ _ ⟨rfl, rfl⟩
    refine z_top (v' := .int (bI (fullK (n 15) (n 16) (n 18) (n 20) 0))) rfl ?_
    refine z_if_eqB C 90 dX6_takeClause_77 (by decide) (fun h77t_17 => ?_) (fun h77n_17 => ?_)
    · have hKn : ¬ (0 = 4 ∨ (¬ 0 = 0 ∧ n 15 = 0)) := by omega
      have hlt1 : ph6 < n 10 := by
        by_cases e9 : ph6 < n 10
        · exact e9
        · unfold m_hr at hK; rw [if_neg e9] at hK; exact absurd hK (by decide)
      refine z_aload_n C dX6_takeClause_90 rfl (show zlk _ 0 = some (.ref (ad 0)) from rfl) ?_
      refine z_dup C dX6_takeClause_91 rfl ?_
      refine z_mg C hin 12 (by decide) (by decide +kernel) (v := .int (nI ph6)) mfv_12 dX6_takeClause_92 ?_
      refine z_iconst C (v := nI 1) dX6_takeClause_95 (by decide) ?_
      refine z_iaddN C dX6_takeClause_96 ?_
      refine z_mp C hin 12 (by decide) (by decide +kernel) rfl rfl mpv_12 dX6_takeClause_97 ?_
      refine z_aload_n C dX6_takeClause_100 rfl (show zlk _ 0 = some (.ref (ad 0)) from rfl) ?_
      refine z_iload_n C dX6_takeClause_101 rfl (show zlk _ 2 = some (.int (nI 0)) from rfl) ?_
      refine z_callVi C (As := [.int (nI 0)]) (rest := []) (c_X6_takeBody_0 l θ ad (nv (n 0) (n 1) (n 3) (n 5) (n 8) (n 10) (ph6 + 1) (n 13) (n 14) (n 15) (n 16) (n 18) (n 20) (n 22) (n 27)) g r (show ph6 + 1 ≤ n 10 by omega) (hL) ) gX6_takeClause_X6_takeBody rfl 1 (by decide +kernel) (by decide) (by decide) 0 rfl rfl rfl rfl rfl (Nat.le_of_ble_eq_true rfl) dX6_takeClause_102 ?_
      rintro _ _ (⟨hE16, rfl, n16, r16, hJ16, rfl⟩ | ⟨hE16, rfl, pa16, pb16, vv16, eb16, ev16, rfl⟩)
      · replace hE16 : ¬ (nF (r 9) (n 10) (ph6 + 1) 1 30).1 = 0 := hE16
        refine z_istore_n C [(3, .int (nI ((nF (r 9) (n 10) (ph6 + 1) 1 30).1))), (2, .int (nI 0)), (1, .int (m_hr (r 9) (n 10) ph6)), (0, .ref (ad 0))] dX6_takeClause_105 rfl (by decide) rfl ?_
        refine z_iload_n C dX6_takeClause_106 rfl (show zlk _ 3 = some (.int (nI ((nF (r 9) (n 10) (ph6 + 1) 1 30).1))) from rfl) ?_
        refine z_if_leN C 112 dX6_takeClause_107 (by decide) (Nat.lt_of_le_of_lt (nF_le _ _ _ _ _) (by decide)) (fun h107n_18 => absurd h107n_18 (hE16)) (fun h107n_18 => ?_)
        refine z_iload_n C dX6_takeClause_110 rfl (show zlk _ 3 = some (.int (nI ((nF (r 9) (n 10) (ph6 + 1) 1 30).1))) from rfl) ?_
        exact E _ _ _ _ (Or.inl (by rw [clF_b eh6 hK hKn h77t_17 (by rw [bF_0]; exact hE16), bF_0]; exact ⟨hE16, rfl, _, _, hJ16, rfl⟩)) (rfl) dX6_takeClause_111
      · replace hE16 : (nF (r 9) (n 10) (ph6 + 1) 1 30).1 = 0 := hE16
        replace eb16 : pb16 = nE (r 9) (n 10) (ph6 + 1) := eb16
        replace ev16 : vv16 = nV (r 9) (n 10) (ph6 + 1) := ev16
        refine z_X (Y := MW θ ad (nv (n 0) (n 1) (n 3) (n 5) (n 8) (n 10) pb16 vv16 pa16 vv16 (n 16) (n 18) (n 20) (n 22) (n 27)) g r) (mw_eq rfl rfl rfl rfl rfl rfl rfl rfl rfl rfl rfl rfl rfl rfl rfl rfl rfl rfl rfl rfl rfl rfl rfl rfl rfl rfl rfl rfl rfl rfl rfl rfl) ?_
        refine z_istore_n C [(3, .int (nI 0)), (2, .int (nI 0)), (1, .int (m_hr (r 9) (n 10) ph6)), (0, .ref (ad 0))] dX6_takeClause_105 rfl (by decide) rfl ?_
        refine z_iload_n C dX6_takeClause_106 rfl (show zlk _ 3 = some (.int (nI 0)) from rfl) ?_
        refine z_if_leN C 112 dX6_takeClause_107 (by decide) (by decide) (fun _ => ?_) (fun h => absurd h (by decide))
        have hbE : pb16 = bE (r 9) (n 10) (ph6 + 1) 0 := by rw [bE_k (by decide)]; exact eb16
        have hEb : (bF (r 9) (n 10) (ph6 + 1) 0).1 = 0 := by rw [bF_0]; exact hE16
        have hbL : pb16 ≤ n 10 := by rw [hbE]; exact bE_le (by omega) hEb
        refine z_aload_n C dX6_takeClause_112 rfl (show zlk _ 0 = some (.ref (ad 0)) from rfl) ?_
        refine z_callVi C (As := []) (rest := []) (c_X6_here l θ ad (nv (n 0) (n 1) (n 3) (n 5) (n 8) (n 10) pb16 vv16 pa16 vv16 (n 16) (n 18) (n 20) (n 22) (n 27)) g r (show pb16 ≤ n 10 by omega) (hL)) gX6_takeClause_X6_here rfl 0 (by decide +kernel) (by decide) (by decide) 0 rfl rfl rfl rfl rfl (Nat.le_of_ble_eq_true rfl) dX6_takeClause_113 ?_
        rintro _ _ ⟨ph10, eh10, rfl, rfl⟩
        replace eh10 : ph10 = sk (r 9) (n 10) (pb16) := eh10
        have lh10 : ph10 ≤ n 10 := by rw [eh10]; exact (sk_le (by omega)).2
        refine z_top (v' := .int (m_hr (r 9) (n 10) ph10)) rfl ?_
        refine z_X (Y := MW θ ad (nv (n 0) (n 1) (n 3) (n 5) (n 8) (n 10) ph10 vv16 pa16 vv16 (n 16) (n 18) (n 20) (n 22) (n 27)) g r) (mw_eq rfl rfl rfl rfl rfl rfl rfl rfl rfl rfl rfl rfl rfl rfl rfl rfl rfl rfl rfl rfl rfl rfl rfl rfl rfl rfl rfl rfl rfl rfl rfl rfl) ?_
        refine z_bipush C (v := nI 59) dX6_takeClause_116 (by decide) ?_
        refine z_icmp_eq C 131 dX6_takeClause_118 (by decide) (fun h118t_19 => ?_) (fun h118n_19 => ?_)
        · refine z_aload_n C dX6_takeClause_131 rfl (show zlk _ 0 = some (.ref (ad 0)) from rfl) ?_
          refine z_dup C dX6_takeClause_132 rfl ?_
          refine z_mg C hin 12 (by decide) (by decide +kernel) (v := .int (nI ph10)) mfv_12 dX6_takeClause_133 ?_
          refine z_iconst C (v := nI 1) dX6_takeClause_136 (by decide) ?_
          refine z_iaddN C dX6_takeClause_137 ?_
          refine z_mp C hin 12 (by decide) (by decide +kernel) rfl rfl mpv_12 dX6_takeClause_138 ?_
          refine z_iconst C (v := nI 0) dX6_takeClause_141 (by decide) ?_
          exact E _ _ _ _ (Or.inr (by have hsf : clF (r 9) (n 10) (n 12) (n 15) (n 16) (n 18) (n 20) = _ := clF_s eh6 hK hKn h77t_17 hEb; rw [← hbE] at hsf; unfold sF at hsf; rw [← eh10] at hsf; rw [if_pos h118t_19] at hsf; exact ⟨by rw [hsf], rfl, _, _, _, _, _, _, _, _, _, _, (by unfold clP clK; rw [← eh6, hK, ← hbE, ← eh10]), (by unfold clG clK; rw [← eh6, hK]; exact ev16), (by unfold clC clK; rw [← eh6, hK]; rfl), (by unfold clC clK; rw [← eh6, hK]; rfl), (by unfold clC clK; rw [← eh6, hK]; rfl), (by unfold clO clK; rw [← eh6, hK]; rfl), (by unfold clR clK; rw [← eh6, hK]; rfl), (by unfold clR clK; rw [← eh6, hK]; rfl), (mw_eq rfl rfl rfl rfl rfl rfl rfl rfl rfl rfl rfl rfl rfl rfl rfl rfl rfl rfl rfl rfl rfl rfl rfl rfl rfl rfl rfl rfl rfl rfl rfl rfl)⟩)) (rfl) dX6_takeClause_142
        · refine z_aload_n C dX6_takeClause_121 rfl (show zlk _ 0 = some (.ref (ad 0)) from rfl) ?_
          refine z_iconst C (v := nI 1) dX6_takeClause_122 (by decide) ?_
          refine z_aload_n C dX6_takeClause_123 rfl (show zlk _ 0 = some (.ref (ad 0)) from rfl) ?_
          refine z_mg C hin 12 (by decide) (by decide +kernel) (v := .int (nI ph10)) mfv_12 dX6_takeClause_124 ?_
          refine z_callVi C (As := [.int (nI 1), .int (nI ph10)]) (rest := []) (c_X6_fails l θ ad (nv (n 0) (n 1) (n 3) (n 5) (n 8) (n 10) ph10 vv16 pa16 vv16 (n 16) (n 18) (n 20) (n 22) (n 27)) g r 1 ph10) gX6_takeClause_X6_fails rfl 2 (by decide +kernel) (by decide) (by decide) 0 rfl rfl rfl rfl rfl (Nat.le_of_ble_eq_true rfl) dX6_takeClause_127 ?_
          rintro _ _ ⟨rfl, rfl⟩
          refine z_top (v' := .int (nI 1)) rfl ?_
          refine z_X (Y := MW θ ad (nv (n 0) (n 1) (n 3) (n 5) (n 8) (n 10) ph10 vv16 pa16 vv16 (n 16) (n 18) (n 20) (n 22) (n 27)) (nI ph10) r) (mw_eq rfl rfl rfl rfl rfl rfl rfl rfl rfl rfl rfl rfl rfl rfl rfl rfl rfl rfl rfl rfl rfl rfl rfl rfl rfl rfl rfl rfl rfl rfl rfl rfl) ?_
          exact E _ _ _ _ (Or.inl (by have hsf : clF (r 9) (n 10) (n 12) (n 15) (n 16) (n 18) (n 20) = _ := clF_s eh6 hK hKn h77t_17 hEb; rw [← hbE] at hsf; unfold sF at hsf; rw [← eh10] at hsf; rw [if_neg h118n_19] at hsf; rw [hsf]; exact ⟨by simp, rfl, mJ_of rfl rfl rfl rfl rfl rfl rfl rfl rfl rfl rfl rfl rfl rfl rfl rfl rfl rfl rfl rfl rfl rfl⟩)) (rfl) dX6_takeClause_130
    · refine z_aload_n C dX6_takeClause_80 rfl (show zlk _ 0 = some (.ref (ad 0)) from rfl) ?_
      refine z_iconst C (v := nI 3) dX6_takeClause_81 (by decide) ?_
      refine z_aload_n C dX6_takeClause_82 rfl (show zlk _ 0 = some (.ref (ad 0)) from rfl) ?_
      refine z_mg C hin 12 (by decide) (by decide +kernel) (v := .int (nI ph6)) mfv_12 dX6_takeClause_83 ?_
      refine z_callVi C (As := [.int (nI 3), .int (nI ph6)]) (rest := []) (c_X6_fails l θ ad (nv (n 0) (n 1) (n 3) (n 5) (n 8) (n 10) ph6 (n 13) (n 14) (n 15) (n 16) (n 18) (n 20) (n 22) (n 27)) g r 3 ph6) gX6_takeClause_X6_fails rfl 2 (by decide +kernel) (by decide) (by decide) 0 rfl rfl rfl rfl rfl (Nat.le_of_ble_eq_true rfl) dX6_takeClause_86 ?_
      rintro _ _ ⟨rfl, rfl⟩
      refine z_top (v' := .int (nI 3)) rfl ?_
      refine z_X (Y := MW θ ad (nv (n 0) (n 1) (n 3) (n 5) (n 8) (n 10) ph6 (n 13) (n 14) (n 15) (n 16) (n 18) (n 20) (n 22) (n 27)) (nI ph6) r) (mw_eq rfl rfl rfl rfl rfl rfl rfl rfl rfl rfl rfl rfl rfl rfl rfl rfl rfl rfl rfl rfl rfl rfl rfl rfl rfl rfl rfl rfl rfl rfl rfl rfl) ?_
      exact E _ _ _ _ (Or.inl (by rw [clF_3 eh6 hK (by omega) h77n_17]; exact ⟨by simp, rfl, mJ_of rfl rfl rfl rfl rfl rfl rfl rfl rfl rfl rfl rfl rfl rfl rfl rfl rfl rfl rfl rfl rfl rfl⟩)) (rfl) dX6_takeClause_89
end
section
section ZB
variable {κ : zX} {l0 : Launch} {cc : ByteArray} {n0 : Nat} {own : String} {Ts : List Cond} {kf : Nat} {θ : zH} {X : va_W} {pc : Nat} {lv : List (Nat × Value)} {st : List Value}
theorem z_zast (C : zC κ l0 cc n0 own Ts kf θ) {a n : Nat} {f : Nat → Int32} {i v : Int32} (q0 : Nat) (he : X[q0]? = some (a, .inl (θ.2.2.1, n, .inl f))) (j : Nat) (hi : i = nI j) (hj : j < n) (hn : n < 2 ^ 31) (Y : va_W) (hY : X.set q0 (a, .inl (θ.2.2.1, n, .inl (upd f j (vp_nar .boolean v)))) = Y) (hd : decode cc pc = .ok (.bastore, 1)) (kk : Z κ Y (pc + 1) lv st) : Z κ X pc lv (.int v :: .int i :: .ref a :: st) := by
  obtain ⟨p, l, e, R, s, m, args, below, meth, c, Q, A, θ', n⟩ := κ
  obtain ⟨rfl, rfl, rfl, hR, hx, hb, hml, hown, hts, hK, hN, hA⟩ := C
  subst hR
  intro H locs ls hP hD hS hl
  subst hi
  subst hY
  refine va_zast hx hb hK hP hD hS q0 1 he rfl (vp_in_nI hj hn) hd ?_
  rw [nI_clamp (Nat.lt_trans hj hn)]
  exact fun H locs hP hD hS => kk H locs ls hP hD hS hl
end ZB
theorem okN_lt {j N : Nat} (hj : j < N) (hN : N < 2 ^ 31) : okN (nI j) N = true := by rw [okN_nI (by omega)]; simpa using hj
theorem m_in_lit {x : Int32} {hi : Int64} {N : Nat} (h : hi.toInt + 1 = (N : Int)) : m_in (Int32.toInt64 x) 0 hi = okN x N := by
  unfold m_in okN
  rw [Int32.toInt_toInt64]
  have e : (Int64.toInt 0) = 0 := by decide
  rw [e]
  congr 1
  rw [Bool.eq_iff_iff]
  simp only [decide_eq_true_eq]
  omega
theorem okN_out {x : Int32} {N : Nat} (h : okN x (N + 1) = false) : x.toInt < 0 ∨ (N : Int) < x.toInt := by
  unfold okN at h
  simp only [Bool.and_eq_false_iff, decide_eq_false_iff_not] at h
  omega
theorem okN_ne {x : Int32} {N k : Nat} (h : okN x N = false) (hk : k < N) (hN : N < 2 ^ 31) : ¬ x = nI k := fun e => by rw [e, okN_lt hk hN] at h; cases h
set_option maxHeartbeats 4000000 in
set_option maxRecDepth 100000 in
theorem c_X6_feed_1 (l : Launch) (θ : zH) (ad : Nat → Nat) (n : Nat → Nat) (g : Int32) (r : Nat → Nat → Int32) (x : Int32) (hx : okN x 256 = false) : cI l yX6_feed wsX6_feed 1 θ [.ref (ad 0), .int x] (MW θ ad n g r) (fun r0 Y => r0 = (-1000000002) ∧ Y = MW θ ad n g r) := by
  refine z_cI (by decide) rfl rfl (Nat.le_of_ble_eq_true rfl) (lv := [(0, .ref (ad 0)), (1, .int x)]) rfl (fun κ C E => ?_)
  have hin : ∀ w ∈ wsX60, w ∈ wsX6_feed := by decide +kernel
  refine z_iload_n C dX6_feed_0 rfl (show zlk _ 1 = some (.int x) from rfl) ?_
  refine z_i2l C dX6_feed_1 ?_
  refine z_lconst C (v := 0) dX6_feed_2 (by decide) ?_
  refine z_ldc2 C (v := 255) (by decide +kernel) dX6_feed_3 ?_
  refine z_callSi C (As := [.long (Int32.toInt64 x), .long 0, .long (255)]) (rest := []) (c_X6_in l θ _ (Int32.toInt64 x) 0 (255)) gX6_feed_X6_in rfl 3 (by decide +kernel) (by decide) (by decide) rfl rfl (Nat.le_of_ble_eq_true rfl) dX6_feed_6 ?_
  rintro _ _ ⟨rfl, rfl⟩
  refine z_top (v' := .int (bI (okN x 256))) (by rw [m_in_lit (N := 256) (by decide)]) ?_
  refine z_if_neB C 15 dX6_feed_9 (by decide) (fun h => absurd h (by rw [hx]; decide)) (fun _ => ?_)
  refine z_ldc C (v := (-1000000002)) (by decide +kernel) dX6_feed_12 ?_
  exact E _ _ _ _ (⟨rfl, rfl⟩) (rfl) dX6_feed_14

set_option maxHeartbeats 4000000 in
set_option maxRecDepth 100000 in
theorem c_X6_feed_2 (l : Launch) (θ : zH) (ad : Nat → Nat) (n : Nat → Nat) (g : Int32) (r : Nat → Nat → Int32) (x : Int32) (hx : okN x 256 = true) (hL : n 10 = 240) : cI l yX6_feed wsX6_feed 1 θ [.ref (ad 0), .int x] (MW θ ad n g r) (fun r0 Y => r0 = (-1000000004) ∧ Y = MW θ ad n g r) := by
  refine z_cI (by decide) rfl rfl (Nat.le_of_ble_eq_true rfl) (lv := [(0, .ref (ad 0)), (1, .int x)]) rfl (fun κ C E => ?_)
  have hin : ∀ w ∈ wsX60, w ∈ wsX6_feed := by decide +kernel
  refine z_iload_n C dX6_feed_0 rfl (show zlk _ 1 = some (.int x) from rfl) ?_
  refine z_i2l C dX6_feed_1 ?_
  refine z_lconst C (v := 0) dX6_feed_2 (by decide) ?_
  refine z_ldc2 C (v := 255) (by decide +kernel) dX6_feed_3 ?_
  refine z_callSi C (As := [.long (Int32.toInt64 x), .long 0, .long (255)]) (rest := []) (c_X6_in l θ _ (Int32.toInt64 x) 0 (255)) gX6_feed_X6_in rfl 3 (by decide +kernel) (by decide) (by decide) rfl rfl (Nat.le_of_ble_eq_true rfl) dX6_feed_6 ?_
  rintro _ _ ⟨rfl, rfl⟩
  refine z_top (v' := .int (bI (okN x 256))) (by rw [m_in_lit (N := 256) (by decide)]) ?_
  refine z_if_neB C 15 dX6_feed_9 (by decide) (fun _ => ?_) (fun h => absurd h (by rw [hx]; decide))
  refine z_aload_n C dX6_feed_15 rfl (show zlk _ 0 = some (.ref (ad 0)) from rfl) ?_
  refine z_mg C hin 10 (by decide) (by decide +kernel) (v := .int (nI (n 10))) mf_10 dX6_feed_16 ?_
  refine z_sipush C (v := nI 240) dX6_feed_19 (by decide) ?_
  refine z_icmp_neF C 28 dX6_feed_22 (by decide) (by omega) (by omega) (hL) ?_
  refine z_ldc C (v := (-1000000004)) (by decide +kernel) dX6_feed_25 ?_
  exact E _ _ _ _ (⟨rfl, rfl⟩) (rfl) dX6_feed_27

set_option maxHeartbeats 4000000 in
set_option maxRecDepth 100000 in
theorem c_X6_feed_3 (l : Launch) (θ : zH) (ad : Nat → Nat) (n : Nat → Nat) (g : Int32) (r : Nat → Nat → Int32) (x : Int32) (hx : okN x 256 = true) (hL : n 10 < 240) : cI l yX6_feed wsX6_feed 1 θ [.ref (ad 0), .int x] (MW θ ad n g r) (fun r0 Y => r0 = nI (n 10 + 1) ∧ Y = MW θ ad (nv (n 0) (n 1) (n 3) (n 5) (n 8) (n 10 + 1) (n 12) (n 13) (n 14) (n 15) (n 16) (n 18) (n 20) (n 22) (n 27)) g (rv (r 2) (r 4) (r 6) (r 7) (upd (r 9) (n 10) x) (r 17) (r 19) (r 21) (r 23) (r 24) (r 25) (r 26) (r 28) (r 29) (r 30) (r 31) (r 32))) := by
  refine z_cI (by decide) rfl rfl (Nat.le_of_ble_eq_true rfl) (lv := [(0, .ref (ad 0)), (1, .int x)]) rfl (fun κ C E => ?_)
  have hin : ∀ w ∈ wsX60, w ∈ wsX6_feed := by decide +kernel
  refine z_iload_n C dX6_feed_0 rfl (show zlk _ 1 = some (.int x) from rfl) ?_
  refine z_i2l C dX6_feed_1 ?_
  refine z_lconst C (v := 0) dX6_feed_2 (by decide) ?_
  refine z_ldc2 C (v := 255) (by decide +kernel) dX6_feed_3 ?_
  refine z_callSi C (As := [.long (Int32.toInt64 x), .long 0, .long (255)]) (rest := []) (c_X6_in l θ _ (Int32.toInt64 x) 0 (255)) gX6_feed_X6_in rfl 3 (by decide +kernel) (by decide) (by decide) rfl rfl (Nat.le_of_ble_eq_true rfl) dX6_feed_6 ?_
  rintro _ _ ⟨rfl, rfl⟩
  refine z_top (v' := .int (bI (okN x 256))) (by rw [m_in_lit (N := 256) (by decide)]) ?_
  refine z_if_neB C 15 dX6_feed_9 (by decide) (fun _ => ?_) (fun h => absurd h (by rw [hx]; decide))
  refine z_aload_n C dX6_feed_15 rfl (show zlk _ 0 = some (.ref (ad 0)) from rfl) ?_
  refine z_mg C hin 10 (by decide) (by decide +kernel) (v := .int (nI (n 10))) mf_10 dX6_feed_16 ?_
  refine z_sipush C (v := nI 240) dX6_feed_19 (by decide) ?_
  refine z_icmp_neT C 28 dX6_feed_22 (by decide) (by omega) (by omega) (by omega) ?_
  refine z_aload_n C dX6_feed_28 rfl (show zlk _ 0 = some (.ref (ad 0)) from rfl) ?_
  refine z_mg C hin 9 (by decide) (by decide +kernel) (v := .ref (ad 9)) mf_9 dX6_feed_29 ?_
  refine z_aload_n C dX6_feed_32 rfl (show zlk _ 0 = some (.ref (ad 0)) from rfl) ?_
  refine z_mg C hin 10 (by decide) (by decide +kernel) (v := .int (nI (n 10))) mf_10 dX6_feed_33 ?_
  refine z_iload_n C dX6_feed_36 rfl (show zlk _ 1 = some (.int x) from rfl) ?_
  refine z_iast C (f := (r 9)) 5 mr_9 (n 10) rfl (by omega) (by decide) _ msn_9 dX6_feed_37 ?_
  refine z_aload_n C dX6_feed_38 rfl (show zlk _ 0 = some (.ref (ad 0)) from rfl) ?_
  refine z_dup C dX6_feed_39 rfl ?_
  refine z_mg C hin 10 (by decide) (by decide +kernel) (v := .int (nI (n 10))) mf_10 dX6_feed_40 ?_
  refine z_iconst C (v := nI 1) dX6_feed_43 (by decide) ?_
  refine z_iaddN C dX6_feed_44 ?_
  refine z_mp C hin 10 (by decide) (by decide +kernel) rfl rfl mpn_10 dX6_feed_45 ?_
  refine z_aload_n C dX6_feed_48 rfl (show zlk _ 0 = some (.ref (ad 0)) from rfl) ?_
  refine z_mg C hin 10 (by decide) (by decide +kernel) (v := .int (nI (n 10 + 1))) mfv_10 dX6_feed_49 ?_
  exact E _ _ _ _ (⟨rfl, (mw_eq rfl rfl rfl rfl rfl rfl rfl rfl rfl rfl rfl rfl rfl rfl rfl rfl rfl rfl rfl rfl rfl rfl rfl rfl rfl rfl rfl rfl rfl rfl rfl rfl)⟩) (rfl) dX6_feed_52

set_option maxHeartbeats 4000000 in
set_option maxRecDepth 100000 in
theorem c_X6_fault (l : Launch) (θ : zH) (ad : Nat → Nat) (n : Nat → Nat) (g : Int32) (r : Nat → Nat → Int32)  : cI l yX6_fault wsX6_fault 0 θ [.ref (ad 0)] (MW θ ad n g r) (fun r0 Y => r0 = g ∧ Y = MW θ ad n g r) := by
  refine z_cI (by decide) rfl rfl (Nat.le_of_ble_eq_true rfl) (lv := [(0, .ref (ad 0))]) rfl (fun κ C E => ?_)
  have hin : ∀ w ∈ wsX60, w ∈ wsX6_fault := by decide +kernel
  refine z_aload_n C dX6_fault_0 rfl (show zlk _ 0 = some (.ref (ad 0)) from rfl) ?_
  refine z_mg C hin 11 (by decide) (by decide +kernel) (v := .int g) mf_11 dX6_fault_1 ?_
  exact E _ _ _ _ (⟨rfl, rfl⟩) (rfl) dX6_fault_4

def m_shf (p : Nat → Int32) : Nat → Nat → Int32
  | 0 => p
  | k + 1 => upd (m_shf p k) k (m_shf p k (82 + k))
def m_cp (p nw : Nat → Int32) (b : Nat) : Nat → Nat → Int32
  | 0 => p
  | k + 1 => upd (m_cp p nw b k) (b + k) (nw k)
def m_u (u : Nat) : Nat := if u = 16 then 16 else u + 1
def m_pst (p nw : Nat → Int32) (u : Nat) : Nat → Int32 := if u = 16 then m_cp (m_shf p 1230) nw (82 * 15) 82 else m_cp p nw (82 * u) 82
set_option maxHeartbeats 4000000 in
set_option maxRecDepth 100000 in
theorem c_X6_remember_a (l : Launch) (θ : zH) (ad : Nat → Nat) (n : Nat → Nat) (g : Int32) (r : Nat → Nat → Int32)  (hu : n 22 = 16) : cV l yX6_remember wsX6_remember 0 θ [.ref (ad 0)] (MW θ ad n g r) (fun Y => Y = MW θ ad (nv (n 0) (n 1) (n 3) (n 5) (n 8) (n 10) (n 12) (n 13) (n 14) (n 15) (n 16) (n 18) (n 20) (m_u (n 22)) (n 27)) g (rv (r 2) (r 4) (r 6) (r 7) (r 9) (r 17) (r 19) (r 21) (m_pst (r 23) (r 7) (n 22)) (r 24) (r 25) (r 26) (r 28) (r 29) (r 30) (r 31) (r 32))) := by
  refine z_cV (by decide) rfl rfl (Nat.le_of_ble_eq_true rfl) (lv := [(0, .ref (ad 0))]) rfl (fun κ C E => ?_)
  have hin : ∀ w ∈ wsX60, w ∈ wsX6_remember := by decide +kernel
  refine z_aload_n C dX6_remember_0 rfl (show zlk _ 0 = some (.ref (ad 0)) from rfl) ?_
  refine z_mg C hin 22 (by decide) (by decide +kernel) (v := .int (nI (n 22))) mf_22 dX6_remember_1 ?_
  refine z_bipush C (v := nI 16) dX6_remember_4 (by decide) ?_
  refine z_icmp_neF C 50 dX6_remember_6 (by decide) (by omega) (by omega) (hu) ?_
  refine z_bipush C (v := nI 82) dX6_remember_9 (by decide) ?_
  refine z_istore_n C [(1, .int (nI 82)), (0, .ref (ad 0))] dX6_remember_11 rfl (by decide) rfl ?_
  refine z_lv (lv' := [(0, .ref (ad 0)), (1, .int (nI (82 + 0)))]) rfl ?_
  refine z_X (Y := MW θ ad n g (rv (r 2) (r 4) (r 6) (r 7) (r 9) (r 17) (r 19) (r 21) (m_shf (r 23) 0) (r 24) (r 25) (r 26) (r 28) (r 29) (r 30) (r 31) (r 32))) (mw_eq rfl rfl rfl rfl rfl rfl rfl rfl rfl rfl rfl rfl rfl rfl rfl rfl rfl rfl rfl rfl rfl rfl rfl rfl rfl rfl rfl rfl rfl rfl rfl rfl) ?_
  refine z_up (fun k => Z κ (MW θ ad n g (rv (r 2) (r 4) (r 6) (r 7) (r 9) (r 17) (r 19) (r 21) (m_shf (r 23) k) (r 24) (r 25) (r 26) (r 28) (r 29) (r 30) (r 31) (r 32))) 12 [(0, .ref (ad 0)), (1, .int (nI (82 + k)))] []) (1230) ?_ ?_ 0 (by omega)
  · refine z_iload_n C dX6_remember_12 rfl (show zlk _ 1 = some (.int (nI (82 + 1230))) from rfl) ?_
    refine z_sipush C (v := nI 1312) dX6_remember_13 (by decide) ?_
    refine z_icmp_geT C 40 dX6_remember_16 (by decide) (by omega) (by omega) (by omega) ?_
    refine z_aload_n C dX6_remember_40 rfl (show zlk _ 0 = some (.ref (ad 0)) from rfl) ?_
    refine z_dup C dX6_remember_41 rfl ?_
    refine z_mg C hin 22 (by decide) (by decide +kernel) (v := .int (nI (n 22))) mf_22 dX6_remember_42 ?_
    refine z_iconst C (v := nI 1) dX6_remember_45 (by decide) ?_
    refine z_isubN C dX6_remember_46 (by omega) ?_
    refine z_top (v' := .int (nI 15)) (congrArg (fun z => Value.int (nI z)) (by omega)) ?_
    refine z_mp C hin 22 (by decide) (by decide +kernel) rfl rfl mpn_22 dX6_remember_47 ?_
    refine z_iconst C (v := nI 0) dX6_remember_50 (by decide) ?_
    refine z_istore_n C [(1, .int (nI 0)), (0, .ref (ad 0))] dX6_remember_51 rfl (by decide) rfl ?_
    refine z_lv (lv' := [(0, .ref (ad 0)), (1, .int (nI 0))]) rfl ?_
    refine z_X (Y := MW θ ad (nv (n 0) (n 1) (n 3) (n 5) (n 8) (n 10) (n 12) (n 13) (n 14) (n 15) (n 16) (n 18) (n 20) 15 (n 27)) g (rv (r 2) (r 4) (r 6) (r 7) (r 9) (r 17) (r 19) (r 21) (m_cp (m_shf (r 23) 1230) (r 7) (82 * 15) 0) (r 24) (r 25) (r 26) (r 28) (r 29) (r 30) (r 31) (r 32))) (mw_eq rfl rfl rfl rfl rfl rfl rfl rfl rfl rfl rfl rfl rfl rfl rfl rfl rfl rfl rfl rfl rfl rfl rfl rfl rfl rfl rfl rfl rfl rfl rfl rfl) ?_
    refine z_up (fun k => Z κ (MW θ ad (nv (n 0) (n 1) (n 3) (n 5) (n 8) (n 10) (n 12) (n 13) (n 14) (n 15) (n 16) (n 18) (n 20) 15 (n 27)) g (rv (r 2) (r 4) (r 6) (r 7) (r 9) (r 17) (r 19) (r 21) (m_cp (m_shf (r 23) 1230) (r 7) (82 * 15) k) (r 24) (r 25) (r 26) (r 28) (r 29) (r 30) (r 31) (r 32))) 52 [(0, .ref (ad 0)), (1, .int (nI k))] []) (82) ?_ ?_ 0 (by omega)
    · refine z_iload_n C dX6_remember_52 rfl (show zlk _ 1 = some (.int (nI 82)) from rfl) ?_
      refine z_bipush C (v := nI 82) dX6_remember_53 (by decide) ?_
      refine z_icmp_geT C 84 dX6_remember_55 (by decide) (by omega) (by omega) (by omega) ?_
      refine z_aload_n C dX6_remember_84 rfl (show zlk _ 0 = some (.ref (ad 0)) from rfl) ?_
      refine z_dup C dX6_remember_85 rfl ?_
      refine z_mg C hin 22 (by decide) (by decide +kernel) (v := .int (nI 15)) mfv_22 dX6_remember_86 ?_
      refine z_iconst C (v := nI 1) dX6_remember_89 (by decide) ?_
      refine z_iaddN C dX6_remember_90 ?_
      refine z_top (v' := .int (nI 16)) rfl ?_
      refine z_mp C hin 22 (by decide) (by decide +kernel) rfl rfl mpv_22 dX6_remember_91 ?_
      exact E _ _ _ (by unfold m_u m_pst; rw [if_pos hu, if_pos hu]) dX6_remember_94
    · intro k hk52 ih52
      refine z_iload_n C dX6_remember_52 rfl (show zlk _ 1 = some (.int (nI k)) from rfl) ?_
      refine z_bipush C (v := nI 82) dX6_remember_53 (by decide) ?_
      refine z_icmp_geF C 84 dX6_remember_55 (by decide) (by omega) (by omega) (by omega) ?_
      refine z_aload_n C dX6_remember_58 rfl (show zlk _ 0 = some (.ref (ad 0)) from rfl) ?_
      refine z_mg C hin 23 (by decide) (by decide +kernel) (v := .ref (ad 23)) mf_23 dX6_remember_59 ?_
      refine z_bipush C (v := nI 82) dX6_remember_62 (by decide) ?_
      refine z_aload_n C dX6_remember_64 rfl (show zlk _ 0 = some (.ref (ad 0)) from rfl) ?_
      refine z_mg C hin 22 (by decide) (by decide +kernel) (v := .int (nI 15)) mfv_22 dX6_remember_65 ?_
      refine z_imulN C dX6_remember_68 ?_
      refine z_top (v' := .int (nI 1230)) rfl ?_
      refine z_iload_n C dX6_remember_69 rfl (show zlk _ 1 = some (.int (nI k)) from rfl) ?_
      refine z_iaddN C dX6_remember_70 ?_
      refine z_aload_n C dX6_remember_71 rfl (show zlk _ 0 = some (.ref (ad 0)) from rfl) ?_
      refine z_mg C hin 7 (by decide) (by decide +kernel) (v := .ref (ad 7)) mf_7 dX6_remember_72 ?_
      refine z_iload_n C dX6_remember_75 rfl (show zlk _ 1 = some (.int (nI k)) from rfl) ?_
      refine z_iald C (f := (r 7)) 4 mrv_7 k rfl (by omega) (by decide) dX6_remember_76 ?_
      refine z_iast C (f := (m_cp (m_shf (r 23) 1230) (r 7) (82 * 15) k)) 9 mrv_23 (1230 + k) rfl (by omega) (by decide) _ msv_23 dX6_remember_77 ?_
      refine z_iincN C [(1, .int (nI (k + 1))), (0, .ref (ad 0))] dX6_remember_78 rfl (by decide) rfl ?_
      refine z_goto C 52 dX6_remember_81 (by decide) ?_
      exact z_to (ih52) ((mw_eq rfl rfl rfl rfl rfl rfl rfl rfl rfl rfl rfl rfl rfl rfl rfl rfl rfl rfl rfl rfl rfl rfl rfl rfl rfl rfl rfl rfl rfl rfl rfl rfl)) (rfl)
  · intro k hk12 ih12
    refine z_iload_n C dX6_remember_12 rfl (show zlk _ 1 = some (.int (nI (82 + k))) from rfl) ?_
    refine z_sipush C (v := nI 1312) dX6_remember_13 (by decide) ?_
    refine z_icmp_geF C 40 dX6_remember_16 (by decide) (by omega) (by omega) (by omega) ?_
    refine z_aload_n C dX6_remember_19 rfl (show zlk _ 0 = some (.ref (ad 0)) from rfl) ?_
    refine z_mg C hin 23 (by decide) (by decide +kernel) (v := .ref (ad 23)) mf_23 dX6_remember_20 ?_
    refine z_iload_n C dX6_remember_23 rfl (show zlk _ 1 = some (.int (nI (82 + k))) from rfl) ?_
    refine z_bipush C (v := nI 82) dX6_remember_24 (by decide) ?_
    refine z_isubN C dX6_remember_26 (by omega) ?_
    refine z_aload_n C dX6_remember_27 rfl (show zlk _ 0 = some (.ref (ad 0)) from rfl) ?_
    refine z_mg C hin 23 (by decide) (by decide +kernel) (v := .ref (ad 23)) mf_23 dX6_remember_28 ?_
    refine z_iload_n C dX6_remember_31 rfl (show zlk _ 1 = some (.int (nI (82 + k))) from rfl) ?_
    refine z_iald C (f := (m_shf (r 23) k)) 9 mrv_23 (82 + k) rfl (by omega) (by decide) dX6_remember_32 ?_
    refine z_iast C (f := (m_shf (r 23) k)) 9 mrv_23 k (congrArg nI (by omega)) (by omega) (by decide) _ msv_23 dX6_remember_33 ?_
    refine z_iincN C [(1, .int (nI (82 + k + 1))), (0, .ref (ad 0))] dX6_remember_34 rfl (by decide) rfl ?_
    refine z_goto C 12 dX6_remember_37 (by decide) ?_
    exact z_to (ih12) ((mw_eq rfl rfl rfl rfl rfl rfl rfl rfl rfl rfl rfl rfl rfl rfl rfl rfl rfl rfl rfl rfl rfl rfl rfl rfl rfl rfl rfl rfl rfl rfl rfl rfl)) (rfl)

set_option maxHeartbeats 4000000 in
set_option maxRecDepth 100000 in
theorem c_X6_remember_b (l : Launch) (θ : zH) (ad : Nat → Nat) (n : Nat → Nat) (g : Int32) (r : Nat → Nat → Int32)  (hu : n 22 < 16) : cV l yX6_remember wsX6_remember 0 θ [.ref (ad 0)] (MW θ ad n g r) (fun Y => Y = MW θ ad (nv (n 0) (n 1) (n 3) (n 5) (n 8) (n 10) (n 12) (n 13) (n 14) (n 15) (n 16) (n 18) (n 20) (m_u (n 22)) (n 27)) g (rv (r 2) (r 4) (r 6) (r 7) (r 9) (r 17) (r 19) (r 21) (m_pst (r 23) (r 7) (n 22)) (r 24) (r 25) (r 26) (r 28) (r 29) (r 30) (r 31) (r 32))) := by
  refine z_cV (by decide) rfl rfl (Nat.le_of_ble_eq_true rfl) (lv := [(0, .ref (ad 0))]) rfl (fun κ C E => ?_)
  have hin : ∀ w ∈ wsX60, w ∈ wsX6_remember := by decide +kernel
  refine z_aload_n C dX6_remember_0 rfl (show zlk _ 0 = some (.ref (ad 0)) from rfl) ?_
  refine z_mg C hin 22 (by decide) (by decide +kernel) (v := .int (nI (n 22))) mf_22 dX6_remember_1 ?_
  refine z_bipush C (v := nI 16) dX6_remember_4 (by decide) ?_
  refine z_icmp_neT C 50 dX6_remember_6 (by decide) (by omega) (by omega) (by omega) ?_
  refine z_iconst C (v := nI 0) dX6_remember_50 (by decide) ?_
  refine z_istore_n C [(1, .int (nI 0)), (0, .ref (ad 0))] dX6_remember_51 rfl (by decide) rfl ?_
  refine z_lv (lv' := [(0, .ref (ad 0)), (1, .int (nI 0))]) rfl ?_
  refine z_X (Y := MW θ ad n g (rv (r 2) (r 4) (r 6) (r 7) (r 9) (r 17) (r 19) (r 21) (m_cp (r 23) (r 7) (82 * (n 22)) 0) (r 24) (r 25) (r 26) (r 28) (r 29) (r 30) (r 31) (r 32))) (mw_eq rfl rfl rfl rfl rfl rfl rfl rfl rfl rfl rfl rfl rfl rfl rfl rfl rfl rfl rfl rfl rfl rfl rfl rfl rfl rfl rfl rfl rfl rfl rfl rfl) ?_
  refine z_up (fun k => Z κ (MW θ ad n g (rv (r 2) (r 4) (r 6) (r 7) (r 9) (r 17) (r 19) (r 21) (m_cp (r 23) (r 7) (82 * (n 22)) k) (r 24) (r 25) (r 26) (r 28) (r 29) (r 30) (r 31) (r 32))) 52 [(0, .ref (ad 0)), (1, .int (nI k))] []) (82) ?_ ?_ 0 (by omega)
  · refine z_iload_n C dX6_remember_52 rfl (show zlk _ 1 = some (.int (nI 82)) from rfl) ?_
    refine z_bipush C (v := nI 82) dX6_remember_53 (by decide) ?_
    refine z_icmp_geT C 84 dX6_remember_55 (by decide) (by omega) (by omega) (by omega) ?_
    refine z_aload_n C dX6_remember_84 rfl (show zlk _ 0 = some (.ref (ad 0)) from rfl) ?_
    refine z_dup C dX6_remember_85 rfl ?_
    refine z_mg C hin 22 (by decide) (by decide +kernel) (v := .int (nI (n 22))) mf_22 dX6_remember_86 ?_
    refine z_iconst C (v := nI 1) dX6_remember_89 (by decide) ?_
    refine z_iaddN C dX6_remember_90 ?_
    refine z_mp C hin 22 (by decide) (by decide +kernel) rfl rfl mpn_22 dX6_remember_91 ?_
    exact E _ _ _ (by unfold m_u m_pst; rw [if_neg (by omega), if_neg (by omega)]) dX6_remember_94
  · intro k hk52 ih52
    refine z_iload_n C dX6_remember_52 rfl (show zlk _ 1 = some (.int (nI k)) from rfl) ?_
    refine z_bipush C (v := nI 82) dX6_remember_53 (by decide) ?_
    refine z_icmp_geF C 84 dX6_remember_55 (by decide) (by omega) (by omega) (by omega) ?_
    refine z_aload_n C dX6_remember_58 rfl (show zlk _ 0 = some (.ref (ad 0)) from rfl) ?_
    refine z_mg C hin 23 (by decide) (by decide +kernel) (v := .ref (ad 23)) mf_23 dX6_remember_59 ?_
    refine z_bipush C (v := nI 82) dX6_remember_62 (by decide) ?_
    refine z_aload_n C dX6_remember_64 rfl (show zlk _ 0 = some (.ref (ad 0)) from rfl) ?_
    refine z_mg C hin 22 (by decide) (by decide +kernel) (v := .int (nI (n 22))) mf_22 dX6_remember_65 ?_
    refine z_imulN C dX6_remember_68 ?_
    refine z_iload_n C dX6_remember_69 rfl (show zlk _ 1 = some (.int (nI k)) from rfl) ?_
    refine z_iaddN C dX6_remember_70 ?_
    refine z_aload_n C dX6_remember_71 rfl (show zlk _ 0 = some (.ref (ad 0)) from rfl) ?_
    refine z_mg C hin 7 (by decide) (by decide +kernel) (v := .ref (ad 7)) mf_7 dX6_remember_72 ?_
    refine z_iload_n C dX6_remember_75 rfl (show zlk _ 1 = some (.int (nI k)) from rfl) ?_
    refine z_iald C (f := (r 7)) 4 mrv_7 k rfl (by omega) (by decide) dX6_remember_76 ?_
    refine z_iast C (f := (m_cp (r 23) (r 7) (82 * (n 22)) k)) 9 mrv_23 (82 * (n 22) + k) rfl (by omega) (by decide) _ msv_23 dX6_remember_77 ?_
    refine z_iincN C [(1, .int (nI (k + 1))), (0, .ref (ad 0))] dX6_remember_78 rfl (by decide) rfl ?_
    refine z_goto C 52 dX6_remember_81 (by decide) ?_
    exact z_to (ih52) ((mw_eq rfl rfl rfl rfl rfl rfl rfl rfl rfl rfl rfl rfl rfl rfl rfl rfl rfl rfl rfl rfl rfl rfl rfl rfl rfl rfl rfl rfl rfl rfl rfl rfl)) (rfl)

theorem c_X6_remember (l : Launch) (θ : zH) (ad : Nat → Nat) (n : Nat → Nat) (g : Int32) (r : Nat → Nat → Int32) (hu : n 22 ≤ 16) : cV l yX6_remember wsX6_remember 0 θ [.ref (ad 0)] (MW θ ad n g r) (fun Y => Y = MW θ ad (nv (n 0) (n 1) (n 3) (n 5) (n 8) (n 10) (n 12) (n 13) (n 14) (n 15) (n 16) (n 18) (n 20) (m_u (n 22)) (n 27)) g (rv (r 2) (r 4) (r 6) (r 7) (r 9) (r 17) (r 19) (r 21) (m_pst (r 23) (r 7) (n 22)) (r 24) (r 25) (r 26) (r 28) (r 29) (r 30) (r 31) (r 32))) := by
  by_cases e : n 22 = 16
  · exact c_X6_remember_a l θ ad n g r e
  · exact c_X6_remember_b l θ ad n g r (by omega)
set_option maxHeartbeats 4000000 in
set_option maxRecDepth 100000 in
theorem c_X6_lamp_1 (l : Launch) (θ : zH) (ad : Nat → Nat) (n : Nat → Nat) (g : Int32) (r : Nat → Nat → Int32) (w x : Int32) (hW : n 3 ≤ 5) (hw : okN w (n 3) = false) : cI l yX6_lamp wsX6_lamp 2 θ [.ref (ad 0), .int w, .int x] (MW θ ad n g r) (fun r0 Y => r0 = (-1000000001) ∧ Y = MW θ ad n g r) := by
  refine z_cI (by decide) rfl rfl (Nat.le_of_ble_eq_true rfl) (lv := [(0, .ref (ad 0)), (1, .int w), (2, .int x)]) rfl (fun κ C E => ?_)
  have hin : ∀ w ∈ wsX60, w ∈ wsX6_lamp := by decide +kernel
  refine z_aload_n C dX6_lamp_0 rfl (show zlk _ 0 = some (.ref (ad 0)) from rfl) ?_
  refine z_iload_n C dX6_lamp_1 rfl (show zlk _ 1 = some (.int w) from rfl) ?_
  refine z_callVi C (As := [.int w]) (rest := []) (c_X6_isWindow l θ ad n g r w (by omega)) gX6_lamp_X6_isWindow rfl 1 (by decide +kernel) (by decide) (by decide) 0 rfl rfl rfl rfl rfl (Nat.le_of_ble_eq_true rfl) dX6_lamp_2 ?_
  rintro _ _ ⟨rfl, rfl⟩
  refine z_if_neB C 11 dX6_lamp_5 (by decide) (fun h => absurd h (by rw [hw]; decide)) (fun _ => ?_)
  refine z_ldc C (v := (-1000000001)) (by decide +kernel) dX6_lamp_8 ?_
  exact E _ _ _ _ (⟨rfl, rfl⟩) (rfl) dX6_lamp_10

set_option maxHeartbeats 4000000 in
set_option maxRecDepth 100000 in
theorem c_X6_lamp_2 (l : Launch) (θ : zH) (ad : Nat → Nat) (n : Nat → Nat) (g : Int32) (r : Nat → Nat → Int32) (w x : Int32) (hW : n 3 ≤ 5) (hw : okN w (n 3) = true) (hx : okN x 6 = false) : cI l yX6_lamp wsX6_lamp 2 θ [.ref (ad 0), .int w, .int x] (MW θ ad n g r) (fun r0 Y => r0 = (-1000000002) ∧ Y = MW θ ad n g r) := by
  refine z_cI (by decide) rfl rfl (Nat.le_of_ble_eq_true rfl) (lv := [(0, .ref (ad 0)), (1, .int w), (2, .int x)]) rfl (fun κ C E => ?_)
  have hin : ∀ w ∈ wsX60, w ∈ wsX6_lamp := by decide +kernel
  refine z_aload_n C dX6_lamp_0 rfl (show zlk _ 0 = some (.ref (ad 0)) from rfl) ?_
  refine z_iload_n C dX6_lamp_1 rfl (show zlk _ 1 = some (.int w) from rfl) ?_
  refine z_callVi C (As := [.int w]) (rest := []) (c_X6_isWindow l θ ad n g r w (by omega)) gX6_lamp_X6_isWindow rfl 1 (by decide +kernel) (by decide) (by decide) 0 rfl rfl rfl rfl rfl (Nat.le_of_ble_eq_true rfl) dX6_lamp_2 ?_
  rintro _ _ ⟨rfl, rfl⟩
  refine z_if_neB C 11 dX6_lamp_5 (by decide) (fun _ => ?_) (fun h => absurd h (by rw [hw]; decide))
  refine z_iload_n C dX6_lamp_11 rfl (show zlk _ 2 = some (.int x) from rfl) ?_
  refine z_i2l C dX6_lamp_12 ?_
  refine z_lconst C (v := 0) dX6_lamp_13 (by decide) ?_
  refine z_ldc2 C (v := 5) (by decide +kernel) dX6_lamp_14 ?_
  refine z_callSi C (As := [.long (Int32.toInt64 x), .long 0, .long (5)]) (rest := []) (c_X6_in l θ _ (Int32.toInt64 x) 0 (5)) gX6_lamp_X6_in rfl 3 (by decide +kernel) (by decide) (by decide) rfl rfl (Nat.le_of_ble_eq_true rfl) dX6_lamp_17 ?_
  rintro _ _ ⟨rfl, rfl⟩
  refine z_top (v' := .int (bI (okN x 6))) (by rw [m_in_lit (N := 6) (by decide)]) ?_
  refine z_if_neB C 26 dX6_lamp_20 (by decide) (fun h => absurd h (by rw [hx]; decide)) (fun _ => ?_)
  refine z_ldc C (v := (-1000000002)) (by decide +kernel) dX6_lamp_23 ?_
  exact E _ _ _ _ (⟨rfl, rfl⟩) (rfl) dX6_lamp_25

set_option maxHeartbeats 4000000 in
set_option maxRecDepth 100000 in
theorem c_X6_lamp_3 (l : Launch) (θ : zH) (ad : Nat → Nat) (n : Nat → Nat) (g : Int32) (r : Nat → Nat → Int32) (w : Nat) (x : Int32) (hW : n 3 ≤ 5) (hw : w < n 3) (hx : okN x 6 = true) (hu : n 22 ≤ 16) : cI l yX6_lamp wsX6_lamp 2 θ [.ref (ad 0), .int (nI w), .int x] (MW θ ad n g r) (fun r0 Y => r0 = r 7 (12 + w) ∧ Y = MW θ ad (nv (n 0) (n 1) (n 3) (n 5) (n 8) (n 10) (n 12) (n 13) (n 14) (n 15) (n 16) (n 18) (n 20) (m_u (n 22)) (n 27)) g (rv (r 2) (r 4) (r 6) (upd (r 7) (12 + w) x) (r 9) (r 17) (r 19) (r 21) (m_pst (r 23) (r 7) (n 22)) (r 24) (r 25) (r 26) (r 28) (r 29) (r 30) (r 31) (r 32))) := by
  refine z_cI (by decide) rfl rfl (Nat.le_of_ble_eq_true rfl) (lv := [(0, .ref (ad 0)), (1, .int (nI w)), (2, .int x)]) rfl (fun κ C E => ?_)
  have hin : ∀ w ∈ wsX60, w ∈ wsX6_lamp := by decide +kernel
  refine z_aload_n C dX6_lamp_0 rfl (show zlk _ 0 = some (.ref (ad 0)) from rfl) ?_
  refine z_iload_n C dX6_lamp_1 rfl (show zlk _ 1 = some (.int (nI w)) from rfl) ?_
  refine z_callVi C (As := [.int (nI w)]) (rest := []) (c_X6_isWindow l θ ad n g r (nI w) (by omega)) gX6_lamp_X6_isWindow rfl 1 (by decide +kernel) (by decide) (by decide) 0 rfl rfl rfl rfl rfl (Nat.le_of_ble_eq_true rfl) dX6_lamp_2 ?_
  rintro _ _ ⟨rfl, rfl⟩
  refine z_if_neB C 11 dX6_lamp_5 (by decide) (fun _ => ?_) (fun h => absurd h (by rw [okN_lt hw (by omega)]; decide))
  refine z_iload_n C dX6_lamp_11 rfl (show zlk _ 2 = some (.int x) from rfl) ?_
  refine z_i2l C dX6_lamp_12 ?_
  refine z_lconst C (v := 0) dX6_lamp_13 (by decide) ?_
  refine z_ldc2 C (v := 5) (by decide +kernel) dX6_lamp_14 ?_
  refine z_callSi C (As := [.long (Int32.toInt64 x), .long 0, .long (5)]) (rest := []) (c_X6_in l θ _ (Int32.toInt64 x) 0 (5)) gX6_lamp_X6_in rfl 3 (by decide +kernel) (by decide) (by decide) rfl rfl (Nat.le_of_ble_eq_true rfl) dX6_lamp_17 ?_
  rintro _ _ ⟨rfl, rfl⟩
  refine z_top (v' := .int (bI (okN x 6))) (by rw [m_in_lit (N := 6) (by decide)]) ?_
  refine z_if_neB C 26 dX6_lamp_20 (by decide) (fun _ => ?_) (fun h => absurd h (by rw [hx]; decide))
  refine z_aload_n C dX6_lamp_26 rfl (show zlk _ 0 = some (.ref (ad 0)) from rfl) ?_
  refine z_callVv C (As := []) (rest := []) (c_X6_remember l θ ad n g r hu) gX6_lamp_X6_remember rfl 0 (by decide +kernel) (by decide) (by decide) 0 rfl rfl rfl rfl rfl (Nat.le_of_ble_eq_true rfl) dX6_lamp_27 ?_
  rintro _ rfl
  refine z_X (Y := MW θ ad (nv (n 0) (n 1) (n 3) (n 5) (n 8) (n 10) (n 12) (n 13) (n 14) (n 15) (n 16) (n 18) (n 20) (m_u (n 22)) (n 27)) g (rv (r 2) (r 4) (r 6) (r 7) (r 9) (r 17) (r 19) (r 21) (m_pst (r 23) (r 7) (n 22)) (r 24) (r 25) (r 26) (r 28) (r 29) (r 30) (r 31) (r 32))) (mw_eq rfl rfl rfl rfl rfl rfl rfl rfl rfl rfl rfl rfl rfl rfl rfl rfl rfl rfl rfl rfl rfl rfl rfl rfl rfl rfl rfl rfl rfl rfl rfl rfl) ?_
  refine z_aload_n C dX6_lamp_30 rfl (show zlk _ 0 = some (.ref (ad 0)) from rfl) ?_
  refine z_mg C hin 7 (by decide) (by decide +kernel) (v := .ref (ad 7)) mf_7 dX6_lamp_31 ?_
  refine z_bipush C (v := nI 12) dX6_lamp_34 (by decide) ?_
  refine z_iload_n C dX6_lamp_36 rfl (show zlk _ 1 = some (.int (nI w)) from rfl) ?_
  refine z_iaddN C dX6_lamp_37 ?_
  refine z_iald C (f := (r 7)) 4 mrv_7 (12 + w) rfl (by omega) (by decide) dX6_lamp_38 ?_
  refine z_istore_n C [(3, .int ((r 7) (12 + w))), (0, .ref (ad 0)), (1, .int (nI w)), (2, .int x)] dX6_lamp_39 rfl (by decide) rfl ?_
  refine z_aload_n C dX6_lamp_40 rfl (show zlk _ 0 = some (.ref (ad 0)) from rfl) ?_
  refine z_mg C hin 7 (by decide) (by decide +kernel) (v := .ref (ad 7)) mf_7 dX6_lamp_41 ?_
  refine z_bipush C (v := nI 12) dX6_lamp_44 (by decide) ?_
  refine z_iload_n C dX6_lamp_46 rfl (show zlk _ 1 = some (.int (nI w)) from rfl) ?_
  refine z_iaddN C dX6_lamp_47 ?_
  refine z_iload_n C dX6_lamp_48 rfl (show zlk _ 2 = some (.int x) from rfl) ?_
  refine z_iast C (f := (r 7)) 4 mrv_7 (12 + w) rfl (by omega) (by decide) _ msv_7 dX6_lamp_49 ?_
  refine z_iload_n C dX6_lamp_50 rfl (show zlk _ 3 = some (.int ((r 7) (12 + w))) from rfl) ?_
  exact E _ _ _ _ (⟨rfl, (mw_eq rfl rfl rfl rfl rfl rfl rfl rfl rfl rfl rfl rfl rfl rfl rfl rfl rfl rfl rfl rfl rfl rfl rfl rfl rfl rfl rfl rfl rfl rfl rfl rfl)⟩) (rfl) dX6_lamp_51

set_option maxHeartbeats 4000000 in
set_option maxRecDepth 100000 in
theorem c_X6_wind_1 (l : Launch) (θ : zH) (ad : Nat → Nat) (n : Nat → Nat) (g : Int32) (r : Nat → Nat → Int32) (x : Int32) (hx : m_in (Int32.toInt64 x) (-3) (3) = false) : cI l yX6_wind wsX6_wind 2 θ [.ref (ad 0), .int x] (MW θ ad n g r) (fun r0 Y => r0 = (-1000000002) ∧ Y = MW θ ad n g r) := by
  refine z_cI (by decide) rfl rfl (Nat.le_of_ble_eq_true rfl) (lv := [(0, .ref (ad 0)), (1, .int x)]) rfl (fun κ C E => ?_)
  have hin : ∀ w ∈ wsX60, w ∈ wsX6_wind := by decide +kernel
  refine z_iload_n C dX6_wind_0 rfl (show zlk _ 1 = some (.int x) from rfl) ?_
  refine z_i2l C dX6_wind_1 ?_
  refine z_ldc2 C (v := -3) (by decide +kernel) dX6_wind_2 ?_
  refine z_ldc2 C (v := 3) (by decide +kernel) dX6_wind_5 ?_
  refine z_callSi C (As := [.long (Int32.toInt64 x), .long (-3), .long (3)]) (rest := []) (c_X6_in l θ _ (Int32.toInt64 x) (-3) (3)) gX6_wind_X6_in rfl 3 (by decide +kernel) (by decide) (by decide) rfl rfl (Nat.le_of_ble_eq_true rfl) dX6_wind_8 ?_
  rintro _ _ ⟨rfl, rfl⟩
  refine z_if_neB C 17 dX6_wind_11 (by decide) (fun h => absurd h (by rw [hx]; decide)) (fun _ => ?_)
  refine z_ldc C (v := (-1000000002)) (by decide +kernel) dX6_wind_14 ?_
  exact E _ _ _ _ (⟨rfl, rfl⟩) (rfl) dX6_wind_16

set_option maxHeartbeats 4000000 in
set_option maxRecDepth 100000 in
theorem c_X6_wind_2 (l : Launch) (θ : zH) (ad : Nat → Nat) (n : Nat → Nat) (g : Int32) (r : Nat → Nat → Int32) (x : Int32) (hx : m_in (Int32.toInt64 x) (-3) (3) = true) (hg : decide (0 < n 0) = false) (h0 : n 0 ≤ 30) : cI l yX6_wind wsX6_wind 2 θ [.ref (ad 0), .int x] (MW θ ad n g r) (fun r0 Y => r0 = (-1000000003) ∧ Y = MW θ ad n g r) := by
  refine z_cI (by decide) rfl rfl (Nat.le_of_ble_eq_true rfl) (lv := [(0, .ref (ad 0)), (1, .int x)]) rfl (fun κ C E => ?_)
  have hin : ∀ w ∈ wsX60, w ∈ wsX6_wind := by decide +kernel
  refine z_iload_n C dX6_wind_0 rfl (show zlk _ 1 = some (.int x) from rfl) ?_
  refine z_i2l C dX6_wind_1 ?_
  refine z_ldc2 C (v := -3) (by decide +kernel) dX6_wind_2 ?_
  refine z_ldc2 C (v := 3) (by decide +kernel) dX6_wind_5 ?_
  refine z_callSi C (As := [.long (Int32.toInt64 x), .long (-3), .long (3)]) (rest := []) (c_X6_in l θ _ (Int32.toInt64 x) (-3) (3)) gX6_wind_X6_in rfl 3 (by decide +kernel) (by decide) (by decide) rfl rfl (Nat.le_of_ble_eq_true rfl) dX6_wind_8 ?_
  rintro _ _ ⟨rfl, rfl⟩
  refine z_if_neB C 17 dX6_wind_11 (by decide) (fun _ => ?_) (fun h => absurd h (by rw [hx]; decide))
  refine z_aload_n C dX6_wind_17 rfl (show zlk _ 0 = some (.ref (ad 0)) from rfl) ?_
  refine z_callVi C (As := []) (rest := []) (c_X6_isCapital l θ ad n g r (by omega)) gX6_wind_X6_isCapital rfl 0 (by decide +kernel) (by decide) (by decide) 0 rfl rfl rfl rfl rfl (Nat.le_of_ble_eq_true rfl) dX6_wind_18 ?_
  rintro _ _ ⟨rfl, rfl⟩
  refine z_if_neB C 27 dX6_wind_21 (by decide) (fun h => absurd h (by rw [hg]; decide)) (fun _ => ?_)
  refine z_ldc C (v := (-1000000003)) (by decide +kernel) dX6_wind_24 ?_
  exact E _ _ _ _ (⟨rfl, rfl⟩) (rfl) dX6_wind_26

set_option maxHeartbeats 4000000 in
set_option maxRecDepth 100000 in
theorem c_X6_wind_3 (l : Launch) (θ : zH) (ad : Nat → Nat) (n : Nat → Nat) (g : Int32) (r : Nat → Nat → Int32) (x : Int32) (hx : m_in (Int32.toInt64 x) (-3) (3) = true) (hg : decide (0 < n 0) = true) (h0 : n 0 ≤ 30) (hu : n 22 ≤ 16) : cI l yX6_wind wsX6_wind 2 θ [.ref (ad 0), .int x] (MW θ ad n g r) (fun r0 Y => r0 = r 7 1 + nI 3 ∧ Y = MW θ ad (nv (n 0) (n 1) (n 3) (n 5) (n 8) (n 10) (n 12) (n 13) (n 14) (n 15) (n 16) (n 18) (n 20) (m_u (n 22)) (n 27)) g (rv (r 2) (r 4) (r 6) (upd (r 7) 1 x) (r 9) (r 17) (r 19) (r 21) (m_pst (r 23) (r 7) (n 22)) (r 24) (r 25) (r 26) (r 28) (r 29) (r 30) (r 31) (r 32))) := by
  refine z_cI (by decide) rfl rfl (Nat.le_of_ble_eq_true rfl) (lv := [(0, .ref (ad 0)), (1, .int x)]) rfl (fun κ C E => ?_)
  have hin : ∀ w ∈ wsX60, w ∈ wsX6_wind := by decide +kernel
  refine z_iload_n C dX6_wind_0 rfl (show zlk _ 1 = some (.int x) from rfl) ?_
  refine z_i2l C dX6_wind_1 ?_
  refine z_ldc2 C (v := -3) (by decide +kernel) dX6_wind_2 ?_
  refine z_ldc2 C (v := 3) (by decide +kernel) dX6_wind_5 ?_
  refine z_callSi C (As := [.long (Int32.toInt64 x), .long (-3), .long (3)]) (rest := []) (c_X6_in l θ _ (Int32.toInt64 x) (-3) (3)) gX6_wind_X6_in rfl 3 (by decide +kernel) (by decide) (by decide) rfl rfl (Nat.le_of_ble_eq_true rfl) dX6_wind_8 ?_
  rintro _ _ ⟨rfl, rfl⟩
  refine z_if_neB C 17 dX6_wind_11 (by decide) (fun _ => ?_) (fun h => absurd h (by rw [hx]; decide))
  refine z_aload_n C dX6_wind_17 rfl (show zlk _ 0 = some (.ref (ad 0)) from rfl) ?_
  refine z_callVi C (As := []) (rest := []) (c_X6_isCapital l θ ad n g r (by omega)) gX6_wind_X6_isCapital rfl 0 (by decide +kernel) (by decide) (by decide) 0 rfl rfl rfl rfl rfl (Nat.le_of_ble_eq_true rfl) dX6_wind_18 ?_
  rintro _ _ ⟨rfl, rfl⟩
  refine z_if_neB C 27 dX6_wind_21 (by decide) (fun _ => ?_) (fun h => absurd h (by rw [hg]; decide))
  refine z_aload_n C dX6_wind_27 rfl (show zlk _ 0 = some (.ref (ad 0)) from rfl) ?_
  refine z_callVv C (As := []) (rest := []) (c_X6_remember l θ ad n g r hu) gX6_wind_X6_remember rfl 0 (by decide +kernel) (by decide) (by decide) 0 rfl rfl rfl rfl rfl (Nat.le_of_ble_eq_true rfl) dX6_wind_28 ?_
  rintro _ rfl
  refine z_X (Y := MW θ ad (nv (n 0) (n 1) (n 3) (n 5) (n 8) (n 10) (n 12) (n 13) (n 14) (n 15) (n 16) (n 18) (n 20) (m_u (n 22)) (n 27)) g (rv (r 2) (r 4) (r 6) (r 7) (r 9) (r 17) (r 19) (r 21) (m_pst (r 23) (r 7) (n 22)) (r 24) (r 25) (r 26) (r 28) (r 29) (r 30) (r 31) (r 32))) (mw_eq rfl rfl rfl rfl rfl rfl rfl rfl rfl rfl rfl rfl rfl rfl rfl rfl rfl rfl rfl rfl rfl rfl rfl rfl rfl rfl rfl rfl rfl rfl rfl rfl) ?_
  refine z_aload_n C dX6_wind_31 rfl (show zlk _ 0 = some (.ref (ad 0)) from rfl) ?_
  refine z_mg C hin 7 (by decide) (by decide +kernel) (v := .ref (ad 7)) mf_7 dX6_wind_32 ?_
  refine z_iconst C (v := nI 1) dX6_wind_35 (by decide) ?_
  refine z_iald C (f := (r 7)) 4 mrv_7 1 rfl (by omega) (by decide) dX6_wind_36 ?_
  refine z_istore_n C [(2, .int ((r 7) 1)), (0, .ref (ad 0)), (1, .int x)] dX6_wind_37 rfl (by decide) rfl ?_
  refine z_aload_n C dX6_wind_38 rfl (show zlk _ 0 = some (.ref (ad 0)) from rfl) ?_
  refine z_mg C hin 7 (by decide) (by decide +kernel) (v := .ref (ad 7)) mf_7 dX6_wind_39 ?_
  refine z_iconst C (v := nI 1) dX6_wind_42 (by decide) ?_
  refine z_iload_n C dX6_wind_43 rfl (show zlk _ 1 = some (.int x) from rfl) ?_
  refine z_iast C (f := (r 7)) 4 mrv_7 1 rfl (by omega) (by decide) _ msv_7 dX6_wind_44 ?_
  refine z_iload_n C dX6_wind_45 rfl (show zlk _ 2 = some (.int ((r 7) 1)) from rfl) ?_
  refine z_iconst C (v := nI 3) dX6_wind_46 (by decide) ?_
  refine z_iadd C dX6_wind_47 ?_
  exact E _ _ _ _ (⟨rfl, (mw_eq rfl rfl rfl rfl rfl rfl rfl rfl rfl rfl rfl rfl rfl rfl rfl rfl rfl rfl rfl rfl rfl rfl rfl rfl rfl rfl rfl rfl rfl rfl rfl rfl)⟩) (rfl) dX6_wind_48

set_option maxHeartbeats 4000000 in
set_option maxRecDepth 100000 in
theorem c_X6_bats_1 (l : Launch) (θ : zH) (ad : Nat → Nat) (n : Nat → Nat) (g : Int32) (r : Nat → Nat → Int32) (x : Int32) (hx : okN x 64 = false) : cI l yX6_bats wsX6_bats 2 θ [.ref (ad 0), .int x] (MW θ ad n g r) (fun r0 Y => r0 = (-1000000002) ∧ Y = MW θ ad n g r) := by
  refine z_cI (by decide) rfl rfl (Nat.le_of_ble_eq_true rfl) (lv := [(0, .ref (ad 0)), (1, .int x)]) rfl (fun κ C E => ?_)
  have hin : ∀ w ∈ wsX60, w ∈ wsX6_bats := by decide +kernel
  refine z_iload_n C dX6_bats_0 rfl (show zlk _ 1 = some (.int x) from rfl) ?_
  refine z_i2l C dX6_bats_1 ?_
  refine z_lconst C (v := 0) dX6_bats_2 (by decide) ?_
  refine z_ldc2 C (v := 63) (by decide +kernel) dX6_bats_3 ?_
  refine z_callSi C (As := [.long (Int32.toInt64 x), .long 0, .long (63)]) (rest := []) (c_X6_in l θ _ (Int32.toInt64 x) 0 (63)) gX6_bats_X6_in rfl 3 (by decide +kernel) (by decide) (by decide) rfl rfl (Nat.le_of_ble_eq_true rfl) dX6_bats_6 ?_
  rintro _ _ ⟨rfl, rfl⟩
  refine z_top (v' := .int (bI (okN x 64))) (by rw [m_in_lit (N := 64) (by decide)]) ?_
  refine z_if_neB C 15 dX6_bats_9 (by decide) (fun h => absurd h (by rw [hx]; decide)) (fun _ => ?_)
  refine z_ldc C (v := (-1000000002)) (by decide +kernel) dX6_bats_12 ?_
  exact E _ _ _ _ (⟨rfl, rfl⟩) (rfl) dX6_bats_14

set_option maxHeartbeats 4000000 in
set_option maxRecDepth 100000 in
theorem c_X6_bats_2 (l : Launch) (θ : zH) (ad : Nat → Nat) (n : Nat → Nat) (g : Int32) (r : Nat → Nat → Int32) (x : Int32) (hx : okN x 64 = true) (hg : decide (0 < n 0) = false) (h0 : n 0 ≤ 30) : cI l yX6_bats wsX6_bats 2 θ [.ref (ad 0), .int x] (MW θ ad n g r) (fun r0 Y => r0 = (-1000000003) ∧ Y = MW θ ad n g r) := by
  refine z_cI (by decide) rfl rfl (Nat.le_of_ble_eq_true rfl) (lv := [(0, .ref (ad 0)), (1, .int x)]) rfl (fun κ C E => ?_)
  have hin : ∀ w ∈ wsX60, w ∈ wsX6_bats := by decide +kernel
  refine z_iload_n C dX6_bats_0 rfl (show zlk _ 1 = some (.int x) from rfl) ?_
  refine z_i2l C dX6_bats_1 ?_
  refine z_lconst C (v := 0) dX6_bats_2 (by decide) ?_
  refine z_ldc2 C (v := 63) (by decide +kernel) dX6_bats_3 ?_
  refine z_callSi C (As := [.long (Int32.toInt64 x), .long 0, .long (63)]) (rest := []) (c_X6_in l θ _ (Int32.toInt64 x) 0 (63)) gX6_bats_X6_in rfl 3 (by decide +kernel) (by decide) (by decide) rfl rfl (Nat.le_of_ble_eq_true rfl) dX6_bats_6 ?_
  rintro _ _ ⟨rfl, rfl⟩
  refine z_top (v' := .int (bI (okN x 64))) (by rw [m_in_lit (N := 64) (by decide)]) ?_
  refine z_if_neB C 15 dX6_bats_9 (by decide) (fun _ => ?_) (fun h => absurd h (by rw [hx]; decide))
  refine z_aload_n C dX6_bats_15 rfl (show zlk _ 0 = some (.ref (ad 0)) from rfl) ?_
  refine z_callVi C (As := []) (rest := []) (c_X6_isCapital l θ ad n g r (by omega)) gX6_bats_X6_isCapital rfl 0 (by decide +kernel) (by decide) (by decide) 0 rfl rfl rfl rfl rfl (Nat.le_of_ble_eq_true rfl) dX6_bats_16 ?_
  rintro _ _ ⟨rfl, rfl⟩
  refine z_if_neB C 25 dX6_bats_19 (by decide) (fun h => absurd h (by rw [hg]; decide)) (fun _ => ?_)
  refine z_ldc C (v := (-1000000003)) (by decide +kernel) dX6_bats_22 ?_
  exact E _ _ _ _ (⟨rfl, rfl⟩) (rfl) dX6_bats_24

set_option maxHeartbeats 4000000 in
set_option maxRecDepth 100000 in
theorem c_X6_bats_3 (l : Launch) (θ : zH) (ad : Nat → Nat) (n : Nat → Nat) (g : Int32) (r : Nat → Nat → Int32) (x : Int32) (hx : okN x 64 = true) (hg : decide (0 < n 0) = true) (h0 : n 0 ≤ 30) (hu : n 22 ≤ 16) : cI l yX6_bats wsX6_bats 2 θ [.ref (ad 0), .int x] (MW θ ad n g r) (fun r0 Y => r0 = r 7 2 ∧ Y = MW θ ad (nv (n 0) (n 1) (n 3) (n 5) (n 8) (n 10) (n 12) (n 13) (n 14) (n 15) (n 16) (n 18) (n 20) (m_u (n 22)) (n 27)) g (rv (r 2) (r 4) (r 6) (upd (r 7) 2 x) (r 9) (r 17) (r 19) (r 21) (m_pst (r 23) (r 7) (n 22)) (r 24) (r 25) (r 26) (r 28) (r 29) (r 30) (r 31) (r 32))) := by
  refine z_cI (by decide) rfl rfl (Nat.le_of_ble_eq_true rfl) (lv := [(0, .ref (ad 0)), (1, .int x)]) rfl (fun κ C E => ?_)
  have hin : ∀ w ∈ wsX60, w ∈ wsX6_bats := by decide +kernel
  refine z_iload_n C dX6_bats_0 rfl (show zlk _ 1 = some (.int x) from rfl) ?_
  refine z_i2l C dX6_bats_1 ?_
  refine z_lconst C (v := 0) dX6_bats_2 (by decide) ?_
  refine z_ldc2 C (v := 63) (by decide +kernel) dX6_bats_3 ?_
  refine z_callSi C (As := [.long (Int32.toInt64 x), .long 0, .long (63)]) (rest := []) (c_X6_in l θ _ (Int32.toInt64 x) 0 (63)) gX6_bats_X6_in rfl 3 (by decide +kernel) (by decide) (by decide) rfl rfl (Nat.le_of_ble_eq_true rfl) dX6_bats_6 ?_
  rintro _ _ ⟨rfl, rfl⟩
  refine z_top (v' := .int (bI (okN x 64))) (by rw [m_in_lit (N := 64) (by decide)]) ?_
  refine z_if_neB C 15 dX6_bats_9 (by decide) (fun _ => ?_) (fun h => absurd h (by rw [hx]; decide))
  refine z_aload_n C dX6_bats_15 rfl (show zlk _ 0 = some (.ref (ad 0)) from rfl) ?_
  refine z_callVi C (As := []) (rest := []) (c_X6_isCapital l θ ad n g r (by omega)) gX6_bats_X6_isCapital rfl 0 (by decide +kernel) (by decide) (by decide) 0 rfl rfl rfl rfl rfl (Nat.le_of_ble_eq_true rfl) dX6_bats_16 ?_
  rintro _ _ ⟨rfl, rfl⟩
  refine z_if_neB C 25 dX6_bats_19 (by decide) (fun _ => ?_) (fun h => absurd h (by rw [hg]; decide))
  refine z_aload_n C dX6_bats_25 rfl (show zlk _ 0 = some (.ref (ad 0)) from rfl) ?_
  refine z_callVv C (As := []) (rest := []) (c_X6_remember l θ ad n g r hu) gX6_bats_X6_remember rfl 0 (by decide +kernel) (by decide) (by decide) 0 rfl rfl rfl rfl rfl (Nat.le_of_ble_eq_true rfl) dX6_bats_26 ?_
  rintro _ rfl
  refine z_X (Y := MW θ ad (nv (n 0) (n 1) (n 3) (n 5) (n 8) (n 10) (n 12) (n 13) (n 14) (n 15) (n 16) (n 18) (n 20) (m_u (n 22)) (n 27)) g (rv (r 2) (r 4) (r 6) (r 7) (r 9) (r 17) (r 19) (r 21) (m_pst (r 23) (r 7) (n 22)) (r 24) (r 25) (r 26) (r 28) (r 29) (r 30) (r 31) (r 32))) (mw_eq rfl rfl rfl rfl rfl rfl rfl rfl rfl rfl rfl rfl rfl rfl rfl rfl rfl rfl rfl rfl rfl rfl rfl rfl rfl rfl rfl rfl rfl rfl rfl rfl) ?_
  refine z_aload_n C dX6_bats_29 rfl (show zlk _ 0 = some (.ref (ad 0)) from rfl) ?_
  refine z_mg C hin 7 (by decide) (by decide +kernel) (v := .ref (ad 7)) mf_7 dX6_bats_30 ?_
  refine z_iconst C (v := nI 2) dX6_bats_33 (by decide) ?_
  refine z_iald C (f := (r 7)) 4 mrv_7 2 rfl (by omega) (by decide) dX6_bats_34 ?_
  refine z_istore_n C [(2, .int ((r 7) 2)), (0, .ref (ad 0)), (1, .int x)] dX6_bats_35 rfl (by decide) rfl ?_
  refine z_aload_n C dX6_bats_36 rfl (show zlk _ 0 = some (.ref (ad 0)) from rfl) ?_
  refine z_mg C hin 7 (by decide) (by decide +kernel) (v := .ref (ad 7)) mf_7 dX6_bats_37 ?_
  refine z_iconst C (v := nI 2) dX6_bats_40 (by decide) ?_
  refine z_iload_n C dX6_bats_41 rfl (show zlk _ 1 = some (.int x) from rfl) ?_
  refine z_iast C (f := (r 7)) 4 mrv_7 2 rfl (by omega) (by decide) _ msv_7 dX6_bats_42 ?_
  refine z_iload_n C dX6_bats_43 rfl (show zlk _ 2 = some (.int ((r 7) 2)) from rfl) ?_
  exact E _ _ _ _ (⟨rfl, (mw_eq rfl rfl rfl rfl rfl rfl rfl rfl rfl rfl rfl rfl rfl rfl rfl rfl rfl rfl rfl rfl rfl rfl rfl rfl rfl rfl rfl rfl rfl rfl rfl rfl)⟩) (rfl) dX6_bats_44

set_option maxHeartbeats 4000000 in
set_option maxRecDepth 100000 in
theorem c_X6_eye_1 (l : Launch) (θ : zH) (ad : Nat → Nat) (n : Nat → Nat) (g : Int32) (r : Nat → Nat → Int32) (x : Int32) (hx : okN x 30 = false) : cI l yX6_eye wsX6_eye 2 θ [.ref (ad 0), .int x] (MW θ ad n g r) (fun r0 Y => r0 = (-1000000002) ∧ Y = MW θ ad n g r) := by
  refine z_cI (by decide) rfl rfl (Nat.le_of_ble_eq_true rfl) (lv := [(0, .ref (ad 0)), (1, .int x)]) rfl (fun κ C E => ?_)
  have hin : ∀ w ∈ wsX60, w ∈ wsX6_eye := by decide +kernel
  refine z_iload_n C dX6_eye_0 rfl (show zlk _ 1 = some (.int x) from rfl) ?_
  refine z_i2l C dX6_eye_1 ?_
  refine z_lconst C (v := 0) dX6_eye_2 (by decide) ?_
  refine z_ldc2 C (v := 29) (by decide +kernel) dX6_eye_3 ?_
  refine z_callSi C (As := [.long (Int32.toInt64 x), .long 0, .long (29)]) (rest := []) (c_X6_in l θ _ (Int32.toInt64 x) 0 (29)) gX6_eye_X6_in rfl 3 (by decide +kernel) (by decide) (by decide) rfl rfl (Nat.le_of_ble_eq_true rfl) dX6_eye_6 ?_
  rintro _ _ ⟨rfl, rfl⟩
  refine z_top (v' := .int (bI (okN x 30))) (by rw [m_in_lit (N := 30) (by decide)]) ?_
  refine z_if_neB C 15 dX6_eye_9 (by decide) (fun h => absurd h (by rw [hx]; decide)) (fun _ => ?_)
  refine z_ldc C (v := (-1000000002)) (by decide +kernel) dX6_eye_12 ?_
  exact E _ _ _ _ (⟨rfl, rfl⟩) (rfl) dX6_eye_14

set_option maxHeartbeats 4000000 in
set_option maxRecDepth 100000 in
theorem c_X6_eye_2 (l : Launch) (θ : zH) (ad : Nat → Nat) (n : Nat → Nat) (g : Int32) (r : Nat → Nat → Int32) (x : Int32) (hx : okN x 30 = true) (hg : decide (0 < n 0) = false) (h0 : n 0 ≤ 30) : cI l yX6_eye wsX6_eye 2 θ [.ref (ad 0), .int x] (MW θ ad n g r) (fun r0 Y => r0 = (-1000000003) ∧ Y = MW θ ad n g r) := by
  refine z_cI (by decide) rfl rfl (Nat.le_of_ble_eq_true rfl) (lv := [(0, .ref (ad 0)), (1, .int x)]) rfl (fun κ C E => ?_)
  have hin : ∀ w ∈ wsX60, w ∈ wsX6_eye := by decide +kernel
  refine z_iload_n C dX6_eye_0 rfl (show zlk _ 1 = some (.int x) from rfl) ?_
  refine z_i2l C dX6_eye_1 ?_
  refine z_lconst C (v := 0) dX6_eye_2 (by decide) ?_
  refine z_ldc2 C (v := 29) (by decide +kernel) dX6_eye_3 ?_
  refine z_callSi C (As := [.long (Int32.toInt64 x), .long 0, .long (29)]) (rest := []) (c_X6_in l θ _ (Int32.toInt64 x) 0 (29)) gX6_eye_X6_in rfl 3 (by decide +kernel) (by decide) (by decide) rfl rfl (Nat.le_of_ble_eq_true rfl) dX6_eye_6 ?_
  rintro _ _ ⟨rfl, rfl⟩
  refine z_top (v' := .int (bI (okN x 30))) (by rw [m_in_lit (N := 30) (by decide)]) ?_
  refine z_if_neB C 15 dX6_eye_9 (by decide) (fun _ => ?_) (fun h => absurd h (by rw [hx]; decide))
  refine z_aload_n C dX6_eye_15 rfl (show zlk _ 0 = some (.ref (ad 0)) from rfl) ?_
  refine z_callVi C (As := []) (rest := []) (c_X6_isCapital l θ ad n g r (by omega)) gX6_eye_X6_isCapital rfl 0 (by decide +kernel) (by decide) (by decide) 0 rfl rfl rfl rfl rfl (Nat.le_of_ble_eq_true rfl) dX6_eye_16 ?_
  rintro _ _ ⟨rfl, rfl⟩
  refine z_if_neB C 25 dX6_eye_19 (by decide) (fun h => absurd h (by rw [hg]; decide)) (fun _ => ?_)
  refine z_ldc C (v := (-1000000003)) (by decide +kernel) dX6_eye_22 ?_
  exact E _ _ _ _ (⟨rfl, rfl⟩) (rfl) dX6_eye_24

set_option maxHeartbeats 4000000 in
set_option maxRecDepth 100000 in
theorem c_X6_eye_3 (l : Launch) (θ : zH) (ad : Nat → Nat) (n : Nat → Nat) (g : Int32) (r : Nat → Nat → Int32) (x : Int32) (hx : okN x 30 = true) (hg : decide (0 < n 0) = true) (h0 : n 0 ≤ 30) (hu : n 22 ≤ 16) : cI l yX6_eye wsX6_eye 2 θ [.ref (ad 0), .int x] (MW θ ad n g r) (fun r0 Y => r0 = (r 7 3 ||| (nI 1 <<< (x &&& 31))) ∧ Y = MW θ ad (nv (n 0) (n 1) (n 3) (n 5) (n 8) (n 10) (n 12) (n 13) (n 14) (n 15) (n 16) (n 18) (n 20) (m_u (n 22)) (n 27)) g (rv (r 2) (r 4) (r 6) (upd (r 7) 3 (r 7 3 ||| (nI 1 <<< (x &&& 31)))) (r 9) (r 17) (r 19) (r 21) (m_pst (r 23) (r 7) (n 22)) (r 24) (r 25) (r 26) (r 28) (r 29) (r 30) (r 31) (r 32))) := by
  refine z_cI (by decide) rfl rfl (Nat.le_of_ble_eq_true rfl) (lv := [(0, .ref (ad 0)), (1, .int x)]) rfl (fun κ C E => ?_)
  have hin : ∀ w ∈ wsX60, w ∈ wsX6_eye := by decide +kernel
  refine z_iload_n C dX6_eye_0 rfl (show zlk _ 1 = some (.int x) from rfl) ?_
  refine z_i2l C dX6_eye_1 ?_
  refine z_lconst C (v := 0) dX6_eye_2 (by decide) ?_
  refine z_ldc2 C (v := 29) (by decide +kernel) dX6_eye_3 ?_
  refine z_callSi C (As := [.long (Int32.toInt64 x), .long 0, .long (29)]) (rest := []) (c_X6_in l θ _ (Int32.toInt64 x) 0 (29)) gX6_eye_X6_in rfl 3 (by decide +kernel) (by decide) (by decide) rfl rfl (Nat.le_of_ble_eq_true rfl) dX6_eye_6 ?_
  rintro _ _ ⟨rfl, rfl⟩
  refine z_top (v' := .int (bI (okN x 30))) (by rw [m_in_lit (N := 30) (by decide)]) ?_
  refine z_if_neB C 15 dX6_eye_9 (by decide) (fun _ => ?_) (fun h => absurd h (by rw [hx]; decide))
  refine z_aload_n C dX6_eye_15 rfl (show zlk _ 0 = some (.ref (ad 0)) from rfl) ?_
  refine z_callVi C (As := []) (rest := []) (c_X6_isCapital l θ ad n g r (by omega)) gX6_eye_X6_isCapital rfl 0 (by decide +kernel) (by decide) (by decide) 0 rfl rfl rfl rfl rfl (Nat.le_of_ble_eq_true rfl) dX6_eye_16 ?_
  rintro _ _ ⟨rfl, rfl⟩
  refine z_if_neB C 25 dX6_eye_19 (by decide) (fun _ => ?_) (fun h => absurd h (by rw [hg]; decide))
  refine z_aload_n C dX6_eye_25 rfl (show zlk _ 0 = some (.ref (ad 0)) from rfl) ?_
  refine z_callVv C (As := []) (rest := []) (c_X6_remember l θ ad n g r hu) gX6_eye_X6_remember rfl 0 (by decide +kernel) (by decide) (by decide) 0 rfl rfl rfl rfl rfl (Nat.le_of_ble_eq_true rfl) dX6_eye_26 ?_
  rintro _ rfl
  refine z_X (Y := MW θ ad (nv (n 0) (n 1) (n 3) (n 5) (n 8) (n 10) (n 12) (n 13) (n 14) (n 15) (n 16) (n 18) (n 20) (m_u (n 22)) (n 27)) g (rv (r 2) (r 4) (r 6) (r 7) (r 9) (r 17) (r 19) (r 21) (m_pst (r 23) (r 7) (n 22)) (r 24) (r 25) (r 26) (r 28) (r 29) (r 30) (r 31) (r 32))) (mw_eq rfl rfl rfl rfl rfl rfl rfl rfl rfl rfl rfl rfl rfl rfl rfl rfl rfl rfl rfl rfl rfl rfl rfl rfl rfl rfl rfl rfl rfl rfl rfl rfl) ?_
  refine z_aload_n C dX6_eye_29 rfl (show zlk _ 0 = some (.ref (ad 0)) from rfl) ?_
  refine z_mg C hin 7 (by decide) (by decide +kernel) (v := .ref (ad 7)) mf_7 dX6_eye_30 ?_
  refine z_iconst C (v := nI 3) dX6_eye_33 (by decide) ?_
  refine z_dup2 C dX6_eye_34 rfl rfl ?_
  refine z_iald C (f := (r 7)) 4 mrv_7 3 rfl (by omega) (by decide) dX6_eye_35 ?_
  refine z_iconst C (v := nI 1) dX6_eye_36 (by decide) ?_
  refine z_iload_n C dX6_eye_37 rfl (show zlk _ 1 = some (.int x) from rfl) ?_
  refine z_ishl C dX6_eye_38 ?_
  refine z_ior C dX6_eye_39 ?_
  refine z_iast C (f := (r 7)) 4 mrv_7 3 rfl (by omega) (by decide) _ msv_7 dX6_eye_40 ?_
  refine z_aload_n C dX6_eye_41 rfl (show zlk _ 0 = some (.ref (ad 0)) from rfl) ?_
  refine z_mg C hin 7 (by decide) (by decide +kernel) (v := .ref (ad 7)) mf_7 dX6_eye_42 ?_
  refine z_iconst C (v := nI 3) dX6_eye_45 (by decide) ?_
  refine z_iald C (f := (upd (r 7) 3 (((r 7) 3) ||| ((nI 1) <<< (x &&& 31))))) 4 mrv_7 3 rfl (by omega) (by decide) dX6_eye_46 ?_
  exact E _ _ _ _ (⟨rfl, (mw_eq rfl rfl rfl rfl rfl rfl rfl rfl rfl rfl rfl rfl rfl rfl rfl rfl rfl rfl rfl rfl rfl rfl rfl rfl rfl rfl rfl rfl rfl rfl rfl rfl)⟩) (rfl) dX6_eye_47

set_option maxHeartbeats 4000000 in
set_option maxRecDepth 100000 in
theorem c_X6_rain_1 (l : Launch) (θ : zH) (ad : Nat → Nat) (n : Nat → Nat) (g : Int32) (r : Nat → Nat → Int32) (x : Int32) (hg : decide (0 < n 0) = false) (h0 : n 0 ≤ 30) : cI l yX6_rain wsX6_rain 2 θ [.ref (ad 0), .int x] (MW θ ad n g r) (fun r0 Y => r0 = (-1000000003) ∧ Y = MW θ ad n g r) := by
  refine z_cI (by decide) rfl rfl (Nat.le_of_ble_eq_true rfl) (lv := [(0, .ref (ad 0)), (1, .int x)]) rfl (fun κ C E => ?_)
  have hin : ∀ w ∈ wsX60, w ∈ wsX6_rain := by decide +kernel
  refine z_aload_n C dX6_rain_0 rfl (show zlk _ 0 = some (.ref (ad 0)) from rfl) ?_
  refine z_callVi C (As := []) (rest := []) (c_X6_isCapital l θ ad n g r (by omega)) gX6_rain_X6_isCapital rfl 0 (by decide +kernel) (by decide) (by decide) 0 rfl rfl rfl rfl rfl (Nat.le_of_ble_eq_true rfl) dX6_rain_1 ?_
  rintro _ _ ⟨rfl, rfl⟩
  refine z_if_neB C 10 dX6_rain_4 (by decide) (fun h => absurd h (by rw [hg]; decide)) (fun _ => ?_)
  refine z_ldc C (v := (-1000000003)) (by decide +kernel) dX6_rain_7 ?_
  exact E _ _ _ _ (⟨rfl, rfl⟩) (rfl) dX6_rain_9

set_option maxHeartbeats 4000000 in
set_option maxRecDepth 100000 in
theorem c_X6_rain_20 (l : Launch) (θ : zH) (ad : Nat → Nat) (n : Nat → Nat) (g : Int32) (r : Nat → Nat → Int32)  (hg : decide (0 < n 0) = true) (h0 : n 0 ≤ 30) (hu : n 22 ≤ 16) : cI l yX6_rain wsX6_rain 2 θ [.ref (ad 0), .int (nI 0)] (MW θ ad n g r) (fun r0 Y => r0 = r 7 4 ∧ Y = MW θ ad (nv (n 0) (n 1) (n 3) (n 5) (n 8) (n 10) (n 12) (n 13) (n 14) (n 15) (n 16) (n 18) (n 20) (m_u (n 22)) (n 27)) g (rv (r 2) (r 4) (r 6) (upd (r 7) 4 (nI 0)) (r 9) (r 17) (r 19) (r 21) (m_pst (r 23) (r 7) (n 22)) (r 24) (r 25) (r 26) (r 28) (r 29) (r 30) (r 31) (r 32))) := by
  refine z_cI (by decide) rfl rfl (Nat.le_of_ble_eq_true rfl) (lv := [(0, .ref (ad 0)), (1, .int (nI 0))]) rfl (fun κ C E => ?_)
  have hin : ∀ w ∈ wsX60, w ∈ wsX6_rain := by decide +kernel
  refine z_aload_n C dX6_rain_0 rfl (show zlk _ 0 = some (.ref (ad 0)) from rfl) ?_
  refine z_callVi C (As := []) (rest := []) (c_X6_isCapital l θ ad n g r (by omega)) gX6_rain_X6_isCapital rfl 0 (by decide +kernel) (by decide) (by decide) 0 rfl rfl rfl rfl rfl (Nat.le_of_ble_eq_true rfl) dX6_rain_1 ?_
  rintro _ _ ⟨rfl, rfl⟩
  refine z_if_neB C 10 dX6_rain_4 (by decide) (fun _ => ?_) (fun h => absurd h (by rw [hg]; decide))
  refine z_aload_n C dX6_rain_10 rfl (show zlk _ 0 = some (.ref (ad 0)) from rfl) ?_
  refine z_callVv C (As := []) (rest := []) (c_X6_remember l θ ad n g r hu) gX6_rain_X6_remember rfl 0 (by decide +kernel) (by decide) (by decide) 0 rfl rfl rfl rfl rfl (Nat.le_of_ble_eq_true rfl) dX6_rain_11 ?_
  rintro _ rfl
  refine z_X (Y := MW θ ad (nv (n 0) (n 1) (n 3) (n 5) (n 8) (n 10) (n 12) (n 13) (n 14) (n 15) (n 16) (n 18) (n 20) (m_u (n 22)) (n 27)) g (rv (r 2) (r 4) (r 6) (r 7) (r 9) (r 17) (r 19) (r 21) (m_pst (r 23) (r 7) (n 22)) (r 24) (r 25) (r 26) (r 28) (r 29) (r 30) (r 31) (r 32))) (mw_eq rfl rfl rfl rfl rfl rfl rfl rfl rfl rfl rfl rfl rfl rfl rfl rfl rfl rfl rfl rfl rfl rfl rfl rfl rfl rfl rfl rfl rfl rfl rfl rfl) ?_
  refine z_aload_n C dX6_rain_14 rfl (show zlk _ 0 = some (.ref (ad 0)) from rfl) ?_
  refine z_mg C hin 7 (by decide) (by decide +kernel) (v := .ref (ad 7)) mf_7 dX6_rain_15 ?_
  refine z_iconst C (v := nI 4) dX6_rain_18 (by decide) ?_
  refine z_iald C (f := (r 7)) 4 mrv_7 4 rfl (by omega) (by decide) dX6_rain_19 ?_
  refine z_istore_n C [(2, .int ((r 7) 4)), (0, .ref (ad 0)), (1, .int (nI 0))] dX6_rain_20 rfl (by decide) rfl ?_
  refine z_aload_n C dX6_rain_21 rfl (show zlk _ 0 = some (.ref (ad 0)) from rfl) ?_
  refine z_mg C hin 7 (by decide) (by decide +kernel) (v := .ref (ad 7)) mf_7 dX6_rain_22 ?_
  refine z_iconst C (v := nI 4) dX6_rain_25 (by decide) ?_
  refine z_iload_n C dX6_rain_26 rfl (show zlk _ 1 = some (.int (nI 0)) from rfl) ?_
  refine z_if_eqN C 34 dX6_rain_27 (by decide) (by decide) (fun _ => ?_) (fun h => absurd h (by decide))
  refine z_iconst C (v := nI 0) dX6_rain_34 (by decide) ?_
  refine z_iast C (f := (r 7)) 4 mrv_7 4 rfl (by omega) (by decide) _ msv_7 dX6_rain_35 ?_
  refine z_iload_n C dX6_rain_36 rfl (show zlk _ 2 = some (.int ((r 7) 4)) from rfl) ?_
  exact E _ _ _ _ (⟨rfl, (mw_eq rfl rfl rfl rfl rfl rfl rfl rfl rfl rfl rfl rfl rfl rfl rfl rfl rfl rfl rfl rfl rfl rfl rfl rfl rfl rfl rfl rfl rfl rfl rfl rfl)⟩) (rfl) dX6_rain_37

set_option maxHeartbeats 4000000 in
set_option maxRecDepth 100000 in
theorem c_X6_rain_21 (l : Launch) (θ : zH) (ad : Nat → Nat) (n : Nat → Nat) (g : Int32) (r : Nat → Nat → Int32)  (hg : decide (0 < n 0) = true) (h0 : n 0 ≤ 30) (hu : n 22 ≤ 16) : cI l yX6_rain wsX6_rain 2 θ [.ref (ad 0), .int (nI 1)] (MW θ ad n g r) (fun r0 Y => r0 = r 7 4 ∧ Y = MW θ ad (nv (n 0) (n 1) (n 3) (n 5) (n 8) (n 10) (n 12) (n 13) (n 14) (n 15) (n 16) (n 18) (n 20) (m_u (n 22)) (n 27)) g (rv (r 2) (r 4) (r 6) (upd (r 7) 4 (nI 1)) (r 9) (r 17) (r 19) (r 21) (m_pst (r 23) (r 7) (n 22)) (r 24) (r 25) (r 26) (r 28) (r 29) (r 30) (r 31) (r 32))) := by
  refine z_cI (by decide) rfl rfl (Nat.le_of_ble_eq_true rfl) (lv := [(0, .ref (ad 0)), (1, .int (nI 1))]) rfl (fun κ C E => ?_)
  have hin : ∀ w ∈ wsX60, w ∈ wsX6_rain := by decide +kernel
  refine z_aload_n C dX6_rain_0 rfl (show zlk _ 0 = some (.ref (ad 0)) from rfl) ?_
  refine z_callVi C (As := []) (rest := []) (c_X6_isCapital l θ ad n g r (by omega)) gX6_rain_X6_isCapital rfl 0 (by decide +kernel) (by decide) (by decide) 0 rfl rfl rfl rfl rfl (Nat.le_of_ble_eq_true rfl) dX6_rain_1 ?_
  rintro _ _ ⟨rfl, rfl⟩
  refine z_if_neB C 10 dX6_rain_4 (by decide) (fun _ => ?_) (fun h => absurd h (by rw [hg]; decide))
  refine z_aload_n C dX6_rain_10 rfl (show zlk _ 0 = some (.ref (ad 0)) from rfl) ?_
  refine z_callVv C (As := []) (rest := []) (c_X6_remember l θ ad n g r hu) gX6_rain_X6_remember rfl 0 (by decide +kernel) (by decide) (by decide) 0 rfl rfl rfl rfl rfl (Nat.le_of_ble_eq_true rfl) dX6_rain_11 ?_
  rintro _ rfl
  refine z_X (Y := MW θ ad (nv (n 0) (n 1) (n 3) (n 5) (n 8) (n 10) (n 12) (n 13) (n 14) (n 15) (n 16) (n 18) (n 20) (m_u (n 22)) (n 27)) g (rv (r 2) (r 4) (r 6) (r 7) (r 9) (r 17) (r 19) (r 21) (m_pst (r 23) (r 7) (n 22)) (r 24) (r 25) (r 26) (r 28) (r 29) (r 30) (r 31) (r 32))) (mw_eq rfl rfl rfl rfl rfl rfl rfl rfl rfl rfl rfl rfl rfl rfl rfl rfl rfl rfl rfl rfl rfl rfl rfl rfl rfl rfl rfl rfl rfl rfl rfl rfl) ?_
  refine z_aload_n C dX6_rain_14 rfl (show zlk _ 0 = some (.ref (ad 0)) from rfl) ?_
  refine z_mg C hin 7 (by decide) (by decide +kernel) (v := .ref (ad 7)) mf_7 dX6_rain_15 ?_
  refine z_iconst C (v := nI 4) dX6_rain_18 (by decide) ?_
  refine z_iald C (f := (r 7)) 4 mrv_7 4 rfl (by omega) (by decide) dX6_rain_19 ?_
  refine z_istore_n C [(2, .int ((r 7) 4)), (0, .ref (ad 0)), (1, .int (nI 1))] dX6_rain_20 rfl (by decide) rfl ?_
  refine z_aload_n C dX6_rain_21 rfl (show zlk _ 0 = some (.ref (ad 0)) from rfl) ?_
  refine z_mg C hin 7 (by decide) (by decide +kernel) (v := .ref (ad 7)) mf_7 dX6_rain_22 ?_
  refine z_iconst C (v := nI 4) dX6_rain_25 (by decide) ?_
  refine z_iload_n C dX6_rain_26 rfl (show zlk _ 1 = some (.int (nI 1)) from rfl) ?_
  refine z_if_eqN C 34 dX6_rain_27 (by decide) (by decide) (fun h => absurd h (by decide)) (fun _ => ?_)
  refine z_iconst C (v := nI 1) dX6_rain_30 (by decide) ?_
  refine z_goto C 35 dX6_rain_31 (by decide) ?_
  refine z_iast C (f := (r 7)) 4 mrv_7 4 rfl (by omega) (by decide) _ msv_7 dX6_rain_35 ?_
  refine z_iload_n C dX6_rain_36 rfl (show zlk _ 2 = some (.int ((r 7) 4)) from rfl) ?_
  exact E _ _ _ _ (⟨rfl, (mw_eq rfl rfl rfl rfl rfl rfl rfl rfl rfl rfl rfl rfl rfl rfl rfl rfl rfl rfl rfl rfl rfl rfl rfl rfl rfl rfl rfl rfl rfl rfl rfl rfl)⟩) (rfl) dX6_rain_37

set_option maxHeartbeats 4000000 in
set_option maxRecDepth 100000 in
theorem c_X6_smoke_1 (l : Launch) (θ : zH) (ad : Nat → Nat) (n : Nat → Nat) (g : Int32) (r : Nat → Nat → Int32) (w x : Int32) (hW : n 3 ≤ 5) (hw : okN w (n 3) = false) : cI l yX6_smoke wsX6_smoke 2 θ [.ref (ad 0), .int w, .int x] (MW θ ad n g r) (fun r0 Y => r0 = (-1000000001) ∧ Y = MW θ ad n g r) := by
  refine z_cI (by decide) rfl rfl (Nat.le_of_ble_eq_true rfl) (lv := [(0, .ref (ad 0)), (1, .int w), (2, .int x)]) rfl (fun κ C E => ?_)
  have hin : ∀ w ∈ wsX60, w ∈ wsX6_smoke := by decide +kernel
  refine z_aload_n C dX6_smoke_0 rfl (show zlk _ 0 = some (.ref (ad 0)) from rfl) ?_
  refine z_iload_n C dX6_smoke_1 rfl (show zlk _ 1 = some (.int w) from rfl) ?_
  refine z_callVi C (As := [.int w]) (rest := []) (c_X6_isWindow l θ ad n g r w (by omega)) gX6_smoke_X6_isWindow rfl 1 (by decide +kernel) (by decide) (by decide) 0 rfl rfl rfl rfl rfl (Nat.le_of_ble_eq_true rfl) dX6_smoke_2 ?_
  rintro _ _ ⟨rfl, rfl⟩
  refine z_if_neB C 11 dX6_smoke_5 (by decide) (fun h => absurd h (by rw [hw]; decide)) (fun _ => ?_)
  refine z_ldc C (v := (-1000000001)) (by decide +kernel) dX6_smoke_8 ?_
  exact E _ _ _ _ (⟨rfl, rfl⟩) (rfl) dX6_smoke_10

set_option maxHeartbeats 4000000 in
set_option maxRecDepth 100000 in
theorem c_X6_smoke_21 (l : Launch) (θ : zH) (ad : Nat → Nat) (n : Nat → Nat) (g : Int32) (r : Nat → Nat → Int32) (w : Nat) (hW : n 3 ≤ 5) (hw : w < n 3) (hu : n 22 ≤ 16) : cI l yX6_smoke wsX6_smoke 2 θ [.ref (ad 0), .int (nI w), .int (nI 1)] (MW θ ad n g r) (fun r0 Y => r0 = ((r 7 5) >>> (nI w &&& 31)) &&& nI 1 ∧ Y = MW θ ad (nv (n 0) (n 1) (n 3) (n 5) (n 8) (n 10) (n 12) (n 13) (n 14) (n 15) (n 16) (n 18) (n 20) (m_u (n 22)) (n 27)) g (rv (r 2) (r 4) (r 6) (upd (r 7) 5 (r 7 5 ||| (nI 1 <<< (nI w &&& 31)))) (r 9) (r 17) (r 19) (r 21) (m_pst (r 23) (r 7) (n 22)) (r 24) (r 25) (r 26) (r 28) (r 29) (r 30) (r 31) (r 32))) := by
  refine z_cI (by decide) rfl rfl (Nat.le_of_ble_eq_true rfl) (lv := [(0, .ref (ad 0)), (1, .int (nI w)), (2, .int (nI 1))]) rfl (fun κ C E => ?_)
  have hin : ∀ w ∈ wsX60, w ∈ wsX6_smoke := by decide +kernel
  refine z_aload_n C dX6_smoke_0 rfl (show zlk _ 0 = some (.ref (ad 0)) from rfl) ?_
  refine z_iload_n C dX6_smoke_1 rfl (show zlk _ 1 = some (.int (nI w)) from rfl) ?_
  refine z_callVi C (As := [.int (nI w)]) (rest := []) (c_X6_isWindow l θ ad n g r (nI w) (by omega)) gX6_smoke_X6_isWindow rfl 1 (by decide +kernel) (by decide) (by decide) 0 rfl rfl rfl rfl rfl (Nat.le_of_ble_eq_true rfl) dX6_smoke_2 ?_
  rintro _ _ ⟨rfl, rfl⟩
  refine z_if_neB C 11 dX6_smoke_5 (by decide) (fun _ => ?_) (fun h => absurd h (by rw [okN_lt hw (by omega)]; decide))
  refine z_aload_n C dX6_smoke_11 rfl (show zlk _ 0 = some (.ref (ad 0)) from rfl) ?_
  refine z_callVv C (As := []) (rest := []) (c_X6_remember l θ ad n g r hu) gX6_smoke_X6_remember rfl 0 (by decide +kernel) (by decide) (by decide) 0 rfl rfl rfl rfl rfl (Nat.le_of_ble_eq_true rfl) dX6_smoke_12 ?_
  rintro _ rfl
  refine z_X (Y := MW θ ad (nv (n 0) (n 1) (n 3) (n 5) (n 8) (n 10) (n 12) (n 13) (n 14) (n 15) (n 16) (n 18) (n 20) (m_u (n 22)) (n 27)) g (rv (r 2) (r 4) (r 6) (r 7) (r 9) (r 17) (r 19) (r 21) (m_pst (r 23) (r 7) (n 22)) (r 24) (r 25) (r 26) (r 28) (r 29) (r 30) (r 31) (r 32))) (mw_eq rfl rfl rfl rfl rfl rfl rfl rfl rfl rfl rfl rfl rfl rfl rfl rfl rfl rfl rfl rfl rfl rfl rfl rfl rfl rfl rfl rfl rfl rfl rfl rfl) ?_
  refine z_aload_n C dX6_smoke_15 rfl (show zlk _ 0 = some (.ref (ad 0)) from rfl) ?_
  refine z_mg C hin 7 (by decide) (by decide +kernel) (v := .ref (ad 7)) mf_7 dX6_smoke_16 ?_
  refine z_iconst C (v := nI 5) dX6_smoke_19 (by decide) ?_
  refine z_iald C (f := (r 7)) 4 mrv_7 5 rfl (by omega) (by decide) dX6_smoke_20 ?_
  refine z_iload_n C dX6_smoke_21 rfl (show zlk _ 1 = some (.int (nI w)) from rfl) ?_
  refine z_ishr C dX6_smoke_22 ?_
  refine z_iconst C (v := nI 1) dX6_smoke_23 (by decide) ?_
  refine z_iand C dX6_smoke_24 ?_
  refine z_istore_n C [(3, .int ((((r 7) 5) >>> ((nI w) &&& 31)) &&& (nI 1))), (0, .ref (ad 0)), (1, .int (nI w)), (2, .int (nI 1))] dX6_smoke_25 rfl (by decide) rfl ?_
  refine z_aload_n C dX6_smoke_26 rfl (show zlk _ 0 = some (.ref (ad 0)) from rfl) ?_
  refine z_mg C hin 7 (by decide) (by decide +kernel) (v := .ref (ad 7)) mf_7 dX6_smoke_27 ?_
  refine z_iconst C (v := nI 5) dX6_smoke_30 (by decide) ?_
  refine z_iload_n C dX6_smoke_31 rfl (show zlk _ 2 = some (.int (nI 1)) from rfl) ?_
  refine z_if_eqN C 48 dX6_smoke_32 (by decide) (by decide) (fun h => absurd h (by decide)) (fun _ => ?_)
  refine z_aload_n C dX6_smoke_35 rfl (show zlk _ 0 = some (.ref (ad 0)) from rfl) ?_
  refine z_mg C hin 7 (by decide) (by decide +kernel) (v := .ref (ad 7)) mf_7 dX6_smoke_36 ?_
  refine z_iconst C (v := nI 5) dX6_smoke_39 (by decide) ?_
  refine z_iald C (f := (r 7)) 4 mrv_7 5 rfl (by omega) (by decide) dX6_smoke_40 ?_
  refine z_iconst C (v := nI 1) dX6_smoke_41 (by decide) ?_
  refine z_iload_n C dX6_smoke_42 rfl (show zlk _ 1 = some (.int (nI w)) from rfl) ?_
  refine z_ishl C dX6_smoke_43 ?_
  refine z_ior C dX6_smoke_44 ?_
  refine z_goto C 60 dX6_smoke_45 (by decide) ?_
  refine z_iast C (f := (r 7)) 4 mrv_7 5 rfl (by omega) (by decide) _ msv_7 dX6_smoke_60 ?_
  refine z_iload_n C dX6_smoke_61 rfl (show zlk _ 3 = some (.int ((((r 7) 5) >>> ((nI w) &&& 31)) &&& (nI 1))) from rfl) ?_
  exact E _ _ _ _ (⟨rfl, (mw_eq rfl rfl rfl rfl rfl rfl rfl rfl rfl rfl rfl rfl rfl rfl rfl rfl rfl rfl rfl rfl rfl rfl rfl rfl rfl rfl rfl rfl rfl rfl rfl rfl)⟩) (rfl) dX6_smoke_62

set_option maxHeartbeats 4000000 in
set_option maxRecDepth 100000 in
theorem c_X6_smoke_20 (l : Launch) (θ : zH) (ad : Nat → Nat) (n : Nat → Nat) (g : Int32) (r : Nat → Nat → Int32) (w : Nat) (hW : n 3 ≤ 5) (hw : w < n 3) (hu : n 22 ≤ 16) : cI l yX6_smoke wsX6_smoke 2 θ [.ref (ad 0), .int (nI w), .int (nI 0)] (MW θ ad n g r) (fun r0 Y => r0 = ((r 7 5) >>> (nI w &&& 31)) &&& nI 1 ∧ Y = MW θ ad (nv (n 0) (n 1) (n 3) (n 5) (n 8) (n 10) (n 12) (n 13) (n 14) (n 15) (n 16) (n 18) (n 20) (m_u (n 22)) (n 27)) g (rv (r 2) (r 4) (r 6) (upd (r 7) 5 (r 7 5 &&& ((nI 1 <<< (nI w &&& 31)) ^^^ (-1)))) (r 9) (r 17) (r 19) (r 21) (m_pst (r 23) (r 7) (n 22)) (r 24) (r 25) (r 26) (r 28) (r 29) (r 30) (r 31) (r 32))) := by
  refine z_cI (by decide) rfl rfl (Nat.le_of_ble_eq_true rfl) (lv := [(0, .ref (ad 0)), (1, .int (nI w)), (2, .int (nI 0))]) rfl (fun κ C E => ?_)
  have hin : ∀ w ∈ wsX60, w ∈ wsX6_smoke := by decide +kernel
  refine z_aload_n C dX6_smoke_0 rfl (show zlk _ 0 = some (.ref (ad 0)) from rfl) ?_
  refine z_iload_n C dX6_smoke_1 rfl (show zlk _ 1 = some (.int (nI w)) from rfl) ?_
  refine z_callVi C (As := [.int (nI w)]) (rest := []) (c_X6_isWindow l θ ad n g r (nI w) (by omega)) gX6_smoke_X6_isWindow rfl 1 (by decide +kernel) (by decide) (by decide) 0 rfl rfl rfl rfl rfl (Nat.le_of_ble_eq_true rfl) dX6_smoke_2 ?_
  rintro _ _ ⟨rfl, rfl⟩
  refine z_if_neB C 11 dX6_smoke_5 (by decide) (fun _ => ?_) (fun h => absurd h (by rw [okN_lt hw (by omega)]; decide))
  refine z_aload_n C dX6_smoke_11 rfl (show zlk _ 0 = some (.ref (ad 0)) from rfl) ?_
  refine z_callVv C (As := []) (rest := []) (c_X6_remember l θ ad n g r hu) gX6_smoke_X6_remember rfl 0 (by decide +kernel) (by decide) (by decide) 0 rfl rfl rfl rfl rfl (Nat.le_of_ble_eq_true rfl) dX6_smoke_12 ?_
  rintro _ rfl
  refine z_X (Y := MW θ ad (nv (n 0) (n 1) (n 3) (n 5) (n 8) (n 10) (n 12) (n 13) (n 14) (n 15) (n 16) (n 18) (n 20) (m_u (n 22)) (n 27)) g (rv (r 2) (r 4) (r 6) (r 7) (r 9) (r 17) (r 19) (r 21) (m_pst (r 23) (r 7) (n 22)) (r 24) (r 25) (r 26) (r 28) (r 29) (r 30) (r 31) (r 32))) (mw_eq rfl rfl rfl rfl rfl rfl rfl rfl rfl rfl rfl rfl rfl rfl rfl rfl rfl rfl rfl rfl rfl rfl rfl rfl rfl rfl rfl rfl rfl rfl rfl rfl) ?_
  refine z_aload_n C dX6_smoke_15 rfl (show zlk _ 0 = some (.ref (ad 0)) from rfl) ?_
  refine z_mg C hin 7 (by decide) (by decide +kernel) (v := .ref (ad 7)) mf_7 dX6_smoke_16 ?_
  refine z_iconst C (v := nI 5) dX6_smoke_19 (by decide) ?_
  refine z_iald C (f := (r 7)) 4 mrv_7 5 rfl (by omega) (by decide) dX6_smoke_20 ?_
  refine z_iload_n C dX6_smoke_21 rfl (show zlk _ 1 = some (.int (nI w)) from rfl) ?_
  refine z_ishr C dX6_smoke_22 ?_
  refine z_iconst C (v := nI 1) dX6_smoke_23 (by decide) ?_
  refine z_iand C dX6_smoke_24 ?_
  refine z_istore_n C [(3, .int ((((r 7) 5) >>> ((nI w) &&& 31)) &&& (nI 1))), (0, .ref (ad 0)), (1, .int (nI w)), (2, .int (nI 0))] dX6_smoke_25 rfl (by decide) rfl ?_
  refine z_aload_n C dX6_smoke_26 rfl (show zlk _ 0 = some (.ref (ad 0)) from rfl) ?_
  refine z_mg C hin 7 (by decide) (by decide +kernel) (v := .ref (ad 7)) mf_7 dX6_smoke_27 ?_
  refine z_iconst C (v := nI 5) dX6_smoke_30 (by decide) ?_
  refine z_iload_n C dX6_smoke_31 rfl (show zlk _ 2 = some (.int (nI 0)) from rfl) ?_
  refine z_if_eqN C 48 dX6_smoke_32 (by decide) (by decide) (fun _ => ?_) (fun h => absurd h (by decide))
  refine z_aload_n C dX6_smoke_48 rfl (show zlk _ 0 = some (.ref (ad 0)) from rfl) ?_
  refine z_mg C hin 7 (by decide) (by decide +kernel) (v := .ref (ad 7)) mf_7 dX6_smoke_49 ?_
  refine z_iconst C (v := nI 5) dX6_smoke_52 (by decide) ?_
  refine z_iald C (f := (r 7)) 4 mrv_7 5 rfl (by omega) (by decide) dX6_smoke_53 ?_
  refine z_iconst C (v := nI 1) dX6_smoke_54 (by decide) ?_
  refine z_iload_n C dX6_smoke_55 rfl (show zlk _ 1 = some (.int (nI w)) from rfl) ?_
  refine z_ishl C dX6_smoke_56 ?_
  refine z_iconst C (v := (-1)) dX6_smoke_57 (by decide) ?_
  refine z_ixor C dX6_smoke_58 ?_
  refine z_iand C dX6_smoke_59 ?_
  refine z_iast C (f := (r 7)) 4 mrv_7 5 rfl (by omega) (by decide) _ msv_7 dX6_smoke_60 ?_
  refine z_iload_n C dX6_smoke_61 rfl (show zlk _ 3 = some (.int ((((r 7) 5) >>> ((nI w) &&& 31)) &&& (nI 1))) from rfl) ?_
  exact E _ _ _ _ (⟨rfl, (mw_eq rfl rfl rfl rfl rfl rfl rfl rfl rfl rfl rfl rfl rfl rfl rfl rfl rfl rfl rfl rfl rfl rfl rfl rfl rfl rfl rfl rfl rfl rfl rfl rfl)⟩) (rfl) dX6_smoke_62

set_option maxHeartbeats 4000000 in
set_option maxRecDepth 100000 in
theorem c_X6_press_1 (l : Launch) (θ : zH) (ad : Nat → Nat) (n : Nat → Nat) (g : Int32) (r : Nat → Nat → Int32) (v w : Int32) (hv : okN v 4 = false) : cI l yX6_press wsX6_press 4 θ [.ref (ad 0), .int v, .int w] (MW θ ad n g r) (fun r0 Y => r0 = (-1000000001) ∧ Y = MW θ ad n g r) := by
  refine z_cI (by decide) rfl rfl (Nat.le_of_ble_eq_true rfl) (lv := [(0, .ref (ad 0)), (1, .int v), (2, .int w)]) rfl (fun κ C E => ?_)
  have hin : ∀ w ∈ wsX60, w ∈ wsX6_press := by decide +kernel
  refine z_iload_n C dX6_press_0 rfl (show zlk _ 1 = some (.int v) from rfl) ?_
  refine z_i2l C dX6_press_1 ?_
  refine z_lconst C (v := 0) dX6_press_2 (by decide) ?_
  refine z_ldc2 C (v := 3) (by decide +kernel) dX6_press_3 ?_
  refine z_callSi C (As := [.long (Int32.toInt64 v), .long 0, .long (3)]) (rest := []) (c_X6_in l θ _ (Int32.toInt64 v) 0 (3)) gX6_press_X6_in rfl 3 (by decide +kernel) (by decide) (by decide) rfl rfl (Nat.le_of_ble_eq_true rfl) dX6_press_6 ?_
  rintro _ _ ⟨rfl, rfl⟩
  refine z_top (v' := .int (bI (okN v 4))) (by rw [m_in_lit (N := 4) (by decide)]) ?_
  refine z_if_eqB C 20 dX6_press_9 (by decide) (fun _ => ?_) (fun h => absurd h (by rw [hv]; decide))
  refine z_ldc C (v := (-1000000001)) (by decide +kernel) dX6_press_20 ?_
  exact E _ _ _ _ (⟨rfl, rfl⟩) (rfl) dX6_press_22

set_option maxHeartbeats 4000000 in
set_option maxRecDepth 100000 in
theorem c_X6_press_2 (l : Launch) (θ : zH) (ad : Nat → Nat) (n : Nat → Nat) (g : Int32) (r : Nat → Nat → Int32) (v w : Int32) (hW : n 3 ≤ 5) (hv : okN v 4 = true) (hw : okN w (n 3) = false) : cI l yX6_press wsX6_press 4 θ [.ref (ad 0), .int v, .int w] (MW θ ad n g r) (fun r0 Y => r0 = (-1000000001) ∧ Y = MW θ ad n g r) := by
  refine z_cI (by decide) rfl rfl (Nat.le_of_ble_eq_true rfl) (lv := [(0, .ref (ad 0)), (1, .int v), (2, .int w)]) rfl (fun κ C E => ?_)
  have hin : ∀ w ∈ wsX60, w ∈ wsX6_press := by decide +kernel
  refine z_iload_n C dX6_press_0 rfl (show zlk _ 1 = some (.int v) from rfl) ?_
  refine z_i2l C dX6_press_1 ?_
  refine z_lconst C (v := 0) dX6_press_2 (by decide) ?_
  refine z_ldc2 C (v := 3) (by decide +kernel) dX6_press_3 ?_
  refine z_callSi C (As := [.long (Int32.toInt64 v), .long 0, .long (3)]) (rest := []) (c_X6_in l θ _ (Int32.toInt64 v) 0 (3)) gX6_press_X6_in rfl 3 (by decide +kernel) (by decide) (by decide) rfl rfl (Nat.le_of_ble_eq_true rfl) dX6_press_6 ?_
  rintro _ _ ⟨rfl, rfl⟩
  refine z_top (v' := .int (bI (okN v 4))) (by rw [m_in_lit (N := 4) (by decide)]) ?_
  refine z_if_eqB C 20 dX6_press_9 (by decide) (fun h => absurd h (by rw [hv]; decide)) (fun _ => ?_)
  refine z_aload_n C dX6_press_12 rfl (show zlk _ 0 = some (.ref (ad 0)) from rfl) ?_
  refine z_iload_n C dX6_press_13 rfl (show zlk _ 2 = some (.int w) from rfl) ?_
  refine z_callVi C (As := [.int w]) (rest := []) (c_X6_isWindow l θ ad n g r w (by omega)) gX6_press_X6_isWindow rfl 1 (by decide +kernel) (by decide) (by decide) 0 rfl rfl rfl rfl rfl (Nat.le_of_ble_eq_true rfl) dX6_press_14 ?_
  rintro _ _ ⟨rfl, rfl⟩
  refine z_if_neB C 23 dX6_press_17 (by decide) (fun h => absurd h (by rw [hw]; decide)) (fun _ => ?_)
  refine z_ldc C (v := (-1000000001)) (by decide +kernel) dX6_press_20 ?_
  exact E _ _ _ _ (⟨rfl, rfl⟩) (rfl) dX6_press_22

set_option maxHeartbeats 4000000 in
set_option maxRecDepth 100000 in
theorem c_X6_press_3 (l : Launch) (θ : zH) (ad : Nat → Nat) (n : Nat → Nat) (g : Int32) (r : Nat → Nat → Int32) (v w : Nat) (hW : n 3 ≤ 5) (hv : v < 4) (hw : w < n 3) (hS : n 1 ≤ 6) (h0 : n 0 ≤ 30) (hu : n 22 ≤ 16) : cI l yX6_press wsX6_press 4 θ [.ref (ad 0), .int (nI v), .int (nI w)] (MW θ ad n g r) (fun r0 Y => r0 = r 7 (17 + v) ∧ Y = MW θ ad (nv (n 0) (n 1) (n 3) (n 5) (n 8) (n 10) (n 12) (n 13) (n 14) (n 15) (n 16) (n 18) (n 20) (m_u (n 22)) (n 27)) g (rv (r 2) (r 4) (r 6) (upd (r 7) (17 + v) (m_dAt n r w)) (r 9) (r 17) (r 19) (r 21) (m_pst (r 23) (r 7) (n 22)) (r 24) (r 25) (r 26) (r 28) (r 29) (r 30) (r 31) (r 32))) := by
  refine z_cI (by decide) rfl rfl (Nat.le_of_ble_eq_true rfl) (lv := [(0, .ref (ad 0)), (1, .int (nI v)), (2, .int (nI w))]) rfl (fun κ C E => ?_)
  have hin : ∀ w ∈ wsX60, w ∈ wsX6_press := by decide +kernel
  refine z_iload_n C dX6_press_0 rfl (show zlk _ 1 = some (.int (nI v)) from rfl) ?_
  refine z_i2l C dX6_press_1 ?_
  refine z_lconst C (v := 0) dX6_press_2 (by decide) ?_
  refine z_ldc2 C (v := 3) (by decide +kernel) dX6_press_3 ?_
  refine z_callSi C (As := [.long (Int32.toInt64 (nI v)), .long 0, .long (3)]) (rest := []) (c_X6_in l θ _ (Int32.toInt64 (nI v)) 0 (3)) gX6_press_X6_in rfl 3 (by decide +kernel) (by decide) (by decide) rfl rfl (Nat.le_of_ble_eq_true rfl) dX6_press_6 ?_
  rintro _ _ ⟨rfl, rfl⟩
  refine z_top (v' := .int (bI (okN (nI v) 4))) (by rw [m_in_lit (N := 4) (by decide)]) ?_
  refine z_if_eqB C 20 dX6_press_9 (by decide) (fun h => absurd h (by rw [okN_lt hv (by decide)]; decide)) (fun _ => ?_)
  refine z_aload_n C dX6_press_12 rfl (show zlk _ 0 = some (.ref (ad 0)) from rfl) ?_
  refine z_iload_n C dX6_press_13 rfl (show zlk _ 2 = some (.int (nI w)) from rfl) ?_
  refine z_callVi C (As := [.int (nI w)]) (rest := []) (c_X6_isWindow l θ ad n g r (nI w) (by omega)) gX6_press_X6_isWindow rfl 1 (by decide +kernel) (by decide) (by decide) 0 rfl rfl rfl rfl rfl (Nat.le_of_ble_eq_true rfl) dX6_press_14 ?_
  rintro _ _ ⟨rfl, rfl⟩
  refine z_if_neB C 23 dX6_press_17 (by decide) (fun _ => ?_) (fun h => absurd h (by rw [okN_lt hw (by omega)]; decide))
  refine z_aload_n C dX6_press_23 rfl (show zlk _ 0 = some (.ref (ad 0)) from rfl) ?_
  refine z_callVv C (As := []) (rest := []) (c_X6_remember l θ ad n g r hu) gX6_press_X6_remember rfl 0 (by decide +kernel) (by decide) (by decide) 0 rfl rfl rfl rfl rfl (Nat.le_of_ble_eq_true rfl) dX6_press_24 ?_
  rintro _ rfl
  refine z_X (Y := MW θ ad (nv (n 0) (n 1) (n 3) (n 5) (n 8) (n 10) (n 12) (n 13) (n 14) (n 15) (n 16) (n 18) (n 20) (m_u (n 22)) (n 27)) g (rv (r 2) (r 4) (r 6) (r 7) (r 9) (r 17) (r 19) (r 21) (m_pst (r 23) (r 7) (n 22)) (r 24) (r 25) (r 26) (r 28) (r 29) (r 30) (r 31) (r 32))) (mw_eq rfl rfl rfl rfl rfl rfl rfl rfl rfl rfl rfl rfl rfl rfl rfl rfl rfl rfl rfl rfl rfl rfl rfl rfl rfl rfl rfl rfl rfl rfl rfl rfl) ?_
  refine z_aload_n C dX6_press_27 rfl (show zlk _ 0 = some (.ref (ad 0)) from rfl) ?_
  refine z_mg C hin 7 (by decide) (by decide +kernel) (v := .ref (ad 7)) mf_7 dX6_press_28 ?_
  refine z_bipush C (v := nI 17) dX6_press_31 (by decide) ?_
  refine z_iload_n C dX6_press_33 rfl (show zlk _ 1 = some (.int (nI v)) from rfl) ?_
  refine z_iaddN C dX6_press_34 ?_
  refine z_iald C (f := (r 7)) 4 mrv_7 (17 + v) rfl (by omega) (by decide) dX6_press_35 ?_
  refine z_istore_n C [(3, .int ((r 7) (17 + v))), (0, .ref (ad 0)), (1, .int (nI v)), (2, .int (nI w))] dX6_press_36 rfl (by decide) rfl ?_
  refine z_aload_n C dX6_press_37 rfl (show zlk _ 0 = some (.ref (ad 0)) from rfl) ?_
  refine z_mg C hin 7 (by decide) (by decide +kernel) (v := .ref (ad 7)) mf_7 dX6_press_38 ?_
  refine z_bipush C (v := nI 17) dX6_press_41 (by decide) ?_
  refine z_iload_n C dX6_press_43 rfl (show zlk _ 1 = some (.int (nI v)) from rfl) ?_
  refine z_iaddN C dX6_press_44 ?_
  refine z_aload_n C dX6_press_45 rfl (show zlk _ 0 = some (.ref (ad 0)) from rfl) ?_
  refine z_iload_n C dX6_press_46 rfl (show zlk _ 2 = some (.int (nI w)) from rfl) ?_
  refine z_callVi C (As := [.int (nI w)]) (rest := [.int (nI (17 + v)), .ref (ad 7)]) (c_X6_drawnAt l θ ad (nv (n 0) (n 1) (n 3) (n 5) (n 8) (n 10) (n 12) (n 13) (n 14) (n 15) (n 16) (n 18) (n 20) (m_u (n 22)) (n 27)) g (rv (r 2) (r 4) (r 6) (r 7) (r 9) (r 17) (r 19) (r 21) (m_pst (r 23) (r 7) (n 22)) (r 24) (r 25) (r 26) (r 28) (r 29) (r 30) (r 31) (r 32)) w (show w < 5 by omega) (hS) (h0)) gX6_press_X6_drawnAt rfl 1 (by decide +kernel) (by decide) (by decide) 0 rfl rfl rfl rfl rfl (Nat.le_of_ble_eq_true rfl) dX6_press_47 ?_
  rintro _ _ ⟨rfl, rfl⟩
  refine z_top (v' := .int (m_dAt (nv (n 0) (n 1) (n 3) (n 5) (n 8) (n 10) (n 12) (n 13) (n 14) (n 15) (n 16) (n 18) (n 20) (m_u (n 22)) (n 27)) (rv (r 2) (r 4) (r 6) (r 7) (r 9) (r 17) (r 19) (r 21) (m_pst (r 23) (r 7) (n 22)) (r 24) (r 25) (r 26) (r 28) (r 29) (r 30) (r 31) (r 32)) w)) rfl ?_
  refine z_iast C (f := (r 7)) 4 mrv_7 (17 + v) rfl (by omega) (by decide) _ msv_7 dX6_press_50 ?_
  refine z_iload_n C dX6_press_51 rfl (show zlk _ 3 = some (.int ((r 7) (17 + v))) from rfl) ?_
  exact E _ _ _ _ (⟨rfl, (mw_eq rfl rfl rfl rfl rfl rfl rfl rfl rfl rfl rfl rfl rfl rfl rfl rfl rfl rfl rfl rfl rfl rfl rfl rfl rfl rfl rfl rfl rfl rfl rfl rfl)⟩) (rfl) dX6_press_52

set_option maxHeartbeats 4000000 in
set_option maxRecDepth 100000 in
theorem c_X6_glass_1 (l : Launch) (θ : zH) (ad : Nat → Nat) (n : Nat → Nat) (g : Int32) (r : Nat → Nat → Int32) (x : Int32) (hx : okN x 4 = false) : cI l yX6_glass wsX6_glass 1 θ [.ref (ad 0), .int x] (MW θ ad n g r) (fun r0 Y => r0 = (-1000000001) ∧ Y = MW θ ad n g r) := by
  refine z_cI (by decide) rfl rfl (Nat.le_of_ble_eq_true rfl) (lv := [(0, .ref (ad 0)), (1, .int x)]) rfl (fun κ C E => ?_)
  have hin : ∀ w ∈ wsX60, w ∈ wsX6_glass := by decide +kernel
  refine z_iload_n C dX6_glass_0 rfl (show zlk _ 1 = some (.int x) from rfl) ?_
  refine z_i2l C dX6_glass_1 ?_
  refine z_lconst C (v := 0) dX6_glass_2 (by decide) ?_
  refine z_ldc2 C (v := 3) (by decide +kernel) dX6_glass_3 ?_
  refine z_callSi C (As := [.long (Int32.toInt64 x), .long 0, .long (3)]) (rest := []) (c_X6_in l θ _ (Int32.toInt64 x) 0 (3)) gX6_glass_X6_in rfl 3 (by decide +kernel) (by decide) (by decide) rfl rfl (Nat.le_of_ble_eq_true rfl) dX6_glass_6 ?_
  rintro _ _ ⟨rfl, rfl⟩
  refine z_top (v' := .int (bI (okN x 4))) (by rw [m_in_lit (N := 4) (by decide)]) ?_
  refine z_if_eqB C 24 dX6_glass_9 (by decide) (fun _ => ?_) (fun h => absurd h (by rw [hx]; decide))
  refine z_ldc C (v := (-1000000001)) (by decide +kernel) dX6_glass_24 ?_
  exact E _ _ _ _ (⟨rfl, rfl⟩) (rfl) dX6_glass_26

set_option maxHeartbeats 4000000 in
set_option maxRecDepth 100000 in
theorem c_X6_glass_2 (l : Launch) (θ : zH) (ad : Nat → Nat) (n : Nat → Nat) (g : Int32) (r : Nat → Nat → Int32) (v : Nat) (hv : v < 4) : cI l yX6_glass wsX6_glass 1 θ [.ref (ad 0), .int (nI v)] (MW θ ad n g r) (fun r0 Y => r0 = r 7 (17 + v) ∧ Y = MW θ ad n g r) := by
  refine z_cI (by decide) rfl rfl (Nat.le_of_ble_eq_true rfl) (lv := [(0, .ref (ad 0)), (1, .int (nI v))]) rfl (fun κ C E => ?_)
  have hin : ∀ w ∈ wsX60, w ∈ wsX6_glass := by decide +kernel
  refine z_iload_n C dX6_glass_0 rfl (show zlk _ 1 = some (.int (nI v)) from rfl) ?_
  refine z_i2l C dX6_glass_1 ?_
  refine z_lconst C (v := 0) dX6_glass_2 (by decide) ?_
  refine z_ldc2 C (v := 3) (by decide +kernel) dX6_glass_3 ?_
  refine z_callSi C (As := [.long (Int32.toInt64 (nI v)), .long 0, .long (3)]) (rest := []) (c_X6_in l θ _ (Int32.toInt64 (nI v)) 0 (3)) gX6_glass_X6_in rfl 3 (by decide +kernel) (by decide) (by decide) rfl rfl (Nat.le_of_ble_eq_true rfl) dX6_glass_6 ?_
  rintro _ _ ⟨rfl, rfl⟩
  refine z_top (v' := .int (bI (okN (nI v) 4))) (by rw [m_in_lit (N := 4) (by decide)]) ?_
  refine z_if_eqB C 24 dX6_glass_9 (by decide) (fun h => absurd h (by rw [okN_lt hv (by decide)]; decide)) (fun _ => ?_)
  refine z_aload_n C dX6_glass_12 rfl (show zlk _ 0 = some (.ref (ad 0)) from rfl) ?_
  refine z_mg C hin 7 (by decide) (by decide +kernel) (v := .ref (ad 7)) mf_7 dX6_glass_13 ?_
  refine z_bipush C (v := nI 17) dX6_glass_16 (by decide) ?_
  refine z_iload_n C dX6_glass_18 rfl (show zlk _ 1 = some (.int (nI v)) from rfl) ?_
  refine z_iaddN C dX6_glass_19 ?_
  refine z_iald C (f := (r 7)) 4 mr_7 (17 + v) rfl (by omega) (by decide) dX6_glass_20 ?_
  refine z_goto C 26 dX6_glass_21 (by decide) ?_
  exact E _ _ _ _ (⟨rfl, rfl⟩) (rfl) dX6_glass_26

set_option maxHeartbeats 4000000 in
set_option maxRecDepth 100000 in
theorem c_X6_stand_1 (l : Launch) (θ : zH) (ad : Nat → Nat) (n : Nat → Nat) (g : Int32) (r : Nat → Nat → Int32) (s w : Int32) (hS : n 1 ≤ 6) (hj : okN s (n 1) = false) : cI l yX6_stand wsX6_stand 2 θ [.ref (ad 0), .int s, .int w] (MW θ ad n g r) (fun r0 Y => r0 = (-1000000001) ∧ Y = MW θ ad n g r) := by
  refine z_cI (by decide) rfl rfl (Nat.le_of_ble_eq_true rfl) (lv := [(0, .ref (ad 0)), (1, .int s), (2, .int w)]) rfl (fun κ C E => ?_)
  have hin : ∀ w ∈ wsX60, w ∈ wsX6_stand := by decide +kernel
  refine z_aload_n C dX6_stand_0 rfl (show zlk _ 0 = some (.ref (ad 0)) from rfl) ?_
  refine z_iload_n C dX6_stand_1 rfl (show zlk _ 1 = some (.int s) from rfl) ?_
  refine z_callVi C (As := [.int s]) (rest := []) (c_X6_isSitter l θ ad n g r s (by omega)) gX6_stand_X6_isSitter rfl 1 (by decide +kernel) (by decide) (by decide) 0 rfl rfl rfl rfl rfl (Nat.le_of_ble_eq_true rfl) dX6_stand_2 ?_
  rintro _ _ ⟨rfl, rfl⟩
  refine z_if_eqB C 16 dX6_stand_5 (by decide) (fun _ => ?_) (fun h => absurd h (by rw [hj]; decide))
  refine z_ldc C (v := (-1000000001)) (by decide +kernel) dX6_stand_16 ?_
  exact E _ _ _ _ (⟨rfl, rfl⟩) (rfl) dX6_stand_18

set_option maxHeartbeats 4000000 in
set_option maxRecDepth 100000 in
theorem c_X6_stand_2 (l : Launch) (θ : zH) (ad : Nat → Nat) (n : Nat → Nat) (g : Int32) (r : Nat → Nat → Int32) (s w : Int32) (hS : n 1 ≤ 6) (hW : n 3 ≤ 5) (hj : okN s (n 1) = true) (hw : okN w (n 3) = false) : cI l yX6_stand wsX6_stand 2 θ [.ref (ad 0), .int s, .int w] (MW θ ad n g r) (fun r0 Y => r0 = (-1000000001) ∧ Y = MW θ ad n g r) := by
  refine z_cI (by decide) rfl rfl (Nat.le_of_ble_eq_true rfl) (lv := [(0, .ref (ad 0)), (1, .int s), (2, .int w)]) rfl (fun κ C E => ?_)
  have hin : ∀ w ∈ wsX60, w ∈ wsX6_stand := by decide +kernel
  refine z_aload_n C dX6_stand_0 rfl (show zlk _ 0 = some (.ref (ad 0)) from rfl) ?_
  refine z_iload_n C dX6_stand_1 rfl (show zlk _ 1 = some (.int s) from rfl) ?_
  refine z_callVi C (As := [.int s]) (rest := []) (c_X6_isSitter l θ ad n g r s (by omega)) gX6_stand_X6_isSitter rfl 1 (by decide +kernel) (by decide) (by decide) 0 rfl rfl rfl rfl rfl (Nat.le_of_ble_eq_true rfl) dX6_stand_2 ?_
  rintro _ _ ⟨rfl, rfl⟩
  refine z_if_eqB C 16 dX6_stand_5 (by decide) (fun h => absurd h (by rw [hj]; decide)) (fun _ => ?_)
  refine z_aload_n C dX6_stand_8 rfl (show zlk _ 0 = some (.ref (ad 0)) from rfl) ?_
  refine z_iload_n C dX6_stand_9 rfl (show zlk _ 2 = some (.int w) from rfl) ?_
  refine z_callVi C (As := [.int w]) (rest := []) (c_X6_isWindow l θ ad n g r w (by omega)) gX6_stand_X6_isWindow rfl 1 (by decide +kernel) (by decide) (by decide) 0 rfl rfl rfl rfl rfl (Nat.le_of_ble_eq_true rfl) dX6_stand_10 ?_
  rintro _ _ ⟨rfl, rfl⟩
  refine z_if_neB C 19 dX6_stand_13 (by decide) (fun h => absurd h (by rw [hw]; decide)) (fun _ => ?_)
  refine z_ldc C (v := (-1000000001)) (by decide +kernel) dX6_stand_16 ?_
  exact E _ _ _ _ (⟨rfl, rfl⟩) (rfl) dX6_stand_18

set_option maxHeartbeats 4000000 in
set_option maxRecDepth 100000 in
theorem c_X6_stand_3 (l : Launch) (θ : zH) (ad : Nat → Nat) (n : Nat → Nat) (g : Int32) (r : Nat → Nat → Int32) (j w : Nat) (hS : n 1 ≤ 6) (hW : n 3 ≤ 5) (hj : j < n 1) (hw : w < n 3) (hx : ¬ m_who (r 7) (nI w) (n 1) = (-1)) : cI l yX6_stand wsX6_stand 2 θ [.ref (ad 0), .int (nI j), .int (nI w)] (MW θ ad n g r) (fun r0 Y => r0 = (-1000000003) ∧ Y = MW θ ad n g r) := by
  refine z_cI (by decide) rfl rfl (Nat.le_of_ble_eq_true rfl) (lv := [(0, .ref (ad 0)), (1, .int (nI j)), (2, .int (nI w))]) rfl (fun κ C E => ?_)
  have hin : ∀ w ∈ wsX60, w ∈ wsX6_stand := by decide +kernel
  refine z_aload_n C dX6_stand_0 rfl (show zlk _ 0 = some (.ref (ad 0)) from rfl) ?_
  refine z_iload_n C dX6_stand_1 rfl (show zlk _ 1 = some (.int (nI j)) from rfl) ?_
  refine z_callVi C (As := [.int (nI j)]) (rest := []) (c_X6_isSitter l θ ad n g r (nI j) (by omega)) gX6_stand_X6_isSitter rfl 1 (by decide +kernel) (by decide) (by decide) 0 rfl rfl rfl rfl rfl (Nat.le_of_ble_eq_true rfl) dX6_stand_2 ?_
  rintro _ _ ⟨rfl, rfl⟩
  refine z_if_eqB C 16 dX6_stand_5 (by decide) (fun h => absurd h (by rw [okN_lt hj (by omega)]; decide)) (fun _ => ?_)
  refine z_aload_n C dX6_stand_8 rfl (show zlk _ 0 = some (.ref (ad 0)) from rfl) ?_
  refine z_iload_n C dX6_stand_9 rfl (show zlk _ 2 = some (.int (nI w)) from rfl) ?_
  refine z_callVi C (As := [.int (nI w)]) (rest := []) (c_X6_isWindow l θ ad n g r (nI w) (by omega)) gX6_stand_X6_isWindow rfl 1 (by decide +kernel) (by decide) (by decide) 0 rfl rfl rfl rfl rfl (Nat.le_of_ble_eq_true rfl) dX6_stand_10 ?_
  rintro _ _ ⟨rfl, rfl⟩
  refine z_if_neB C 19 dX6_stand_13 (by decide) (fun _ => ?_) (fun h => absurd h (by rw [okN_lt hw (by omega)]; decide))
  refine z_aload_n C dX6_stand_19 rfl (show zlk _ 0 = some (.ref (ad 0)) from rfl) ?_
  refine z_iload_n C dX6_stand_20 rfl (show zlk _ 2 = some (.int (nI w)) from rfl) ?_
  refine z_callVi C (As := [.int (nI w)]) (rest := []) (c_X6_whoIsAt l θ ad n g r (nI w) (hS)) gX6_stand_X6_whoIsAt rfl 1 (by decide +kernel) (by decide) (by decide) 0 rfl rfl rfl rfl rfl (Nat.le_of_ble_eq_true rfl) dX6_stand_21 ?_
  rintro _ _ ⟨rfl, rfl⟩
  refine z_iconst C (v := (-1)) dX6_stand_24 (by decide) ?_
  refine z_icmp_eq C 31 dX6_stand_25 (by decide) (fun h25n_1 => absurd h25n_1 (hx)) (fun h25n_1 => ?_)
  refine z_ldc C (v := (-1000000003)) (by decide +kernel) dX6_stand_28 ?_
  exact E _ _ _ _ (⟨rfl, rfl⟩) (rfl) dX6_stand_30

set_option maxHeartbeats 4000000 in
set_option maxRecDepth 100000 in
theorem c_X6_stand_4 (l : Launch) (θ : zH) (ad : Nat → Nat) (n : Nat → Nat) (g : Int32) (r : Nat → Nat → Int32) (j w : Nat) (hS : n 1 ≤ 6) (hW : n 3 ≤ 5) (hj : j < n 1) (hw : w < n 3) (hx : m_who (r 7) (nI w) (n 1) = (-1)) (hu : n 22 ≤ 16) : cI l yX6_stand wsX6_stand 2 θ [.ref (ad 0), .int (nI j), .int (nI w)] (MW θ ad n g r) (fun r0 Y => r0 = r 7 (6 + j) ∧ Y = MW θ ad (nv (n 0) (n 1) (n 3) (n 5) (n 8) (n 10) (n 12) (n 13) (n 14) (n 15) (n 16) (n 18) (n 20) (m_u (n 22)) (n 27)) g (rv (r 2) (r 4) (r 6) (upd (r 7) (6 + j) (nI w)) (r 9) (r 17) (r 19) (r 21) (m_pst (r 23) (r 7) (n 22)) (r 24) (r 25) (r 26) (r 28) (r 29) (r 30) (r 31) (r 32))) := by
  refine z_cI (by decide) rfl rfl (Nat.le_of_ble_eq_true rfl) (lv := [(0, .ref (ad 0)), (1, .int (nI j)), (2, .int (nI w))]) rfl (fun κ C E => ?_)
  have hin : ∀ w ∈ wsX60, w ∈ wsX6_stand := by decide +kernel
  refine z_aload_n C dX6_stand_0 rfl (show zlk _ 0 = some (.ref (ad 0)) from rfl) ?_
  refine z_iload_n C dX6_stand_1 rfl (show zlk _ 1 = some (.int (nI j)) from rfl) ?_
  refine z_callVi C (As := [.int (nI j)]) (rest := []) (c_X6_isSitter l θ ad n g r (nI j) (by omega)) gX6_stand_X6_isSitter rfl 1 (by decide +kernel) (by decide) (by decide) 0 rfl rfl rfl rfl rfl (Nat.le_of_ble_eq_true rfl) dX6_stand_2 ?_
  rintro _ _ ⟨rfl, rfl⟩
  refine z_if_eqB C 16 dX6_stand_5 (by decide) (fun h => absurd h (by rw [okN_lt hj (by omega)]; decide)) (fun _ => ?_)
  refine z_aload_n C dX6_stand_8 rfl (show zlk _ 0 = some (.ref (ad 0)) from rfl) ?_
  refine z_iload_n C dX6_stand_9 rfl (show zlk _ 2 = some (.int (nI w)) from rfl) ?_
  refine z_callVi C (As := [.int (nI w)]) (rest := []) (c_X6_isWindow l θ ad n g r (nI w) (by omega)) gX6_stand_X6_isWindow rfl 1 (by decide +kernel) (by decide) (by decide) 0 rfl rfl rfl rfl rfl (Nat.le_of_ble_eq_true rfl) dX6_stand_10 ?_
  rintro _ _ ⟨rfl, rfl⟩
  refine z_if_neB C 19 dX6_stand_13 (by decide) (fun _ => ?_) (fun h => absurd h (by rw [okN_lt hw (by omega)]; decide))
  refine z_aload_n C dX6_stand_19 rfl (show zlk _ 0 = some (.ref (ad 0)) from rfl) ?_
  refine z_iload_n C dX6_stand_20 rfl (show zlk _ 2 = some (.int (nI w)) from rfl) ?_
  refine z_callVi C (As := [.int (nI w)]) (rest := []) (c_X6_whoIsAt l θ ad n g r (nI w) (hS)) gX6_stand_X6_whoIsAt rfl 1 (by decide +kernel) (by decide) (by decide) 0 rfl rfl rfl rfl rfl (Nat.le_of_ble_eq_true rfl) dX6_stand_21 ?_
  rintro _ _ ⟨rfl, rfl⟩
  refine z_iconst C (v := (-1)) dX6_stand_24 (by decide) ?_
  refine z_icmp_eq C 31 dX6_stand_25 (by decide) (fun h25t_1 => ?_) (fun h25t_1 => absurd h25t_1 (fun z => z hx))
  refine z_aload_n C dX6_stand_31 rfl (show zlk _ 0 = some (.ref (ad 0)) from rfl) ?_
  refine z_callVv C (As := []) (rest := []) (c_X6_remember l θ ad n g r hu) gX6_stand_X6_remember rfl 0 (by decide +kernel) (by decide) (by decide) 0 rfl rfl rfl rfl rfl (Nat.le_of_ble_eq_true rfl) dX6_stand_32 ?_
  rintro _ rfl
  refine z_X (Y := MW θ ad (nv (n 0) (n 1) (n 3) (n 5) (n 8) (n 10) (n 12) (n 13) (n 14) (n 15) (n 16) (n 18) (n 20) (m_u (n 22)) (n 27)) g (rv (r 2) (r 4) (r 6) (r 7) (r 9) (r 17) (r 19) (r 21) (m_pst (r 23) (r 7) (n 22)) (r 24) (r 25) (r 26) (r 28) (r 29) (r 30) (r 31) (r 32))) (mw_eq rfl rfl rfl rfl rfl rfl rfl rfl rfl rfl rfl rfl rfl rfl rfl rfl rfl rfl rfl rfl rfl rfl rfl rfl rfl rfl rfl rfl rfl rfl rfl rfl) ?_
  refine z_aload_n C dX6_stand_35 rfl (show zlk _ 0 = some (.ref (ad 0)) from rfl) ?_
  refine z_mg C hin 7 (by decide) (by decide +kernel) (v := .ref (ad 7)) mf_7 dX6_stand_36 ?_
  refine z_bipush C (v := nI 6) dX6_stand_39 (by decide) ?_
  refine z_iload_n C dX6_stand_41 rfl (show zlk _ 1 = some (.int (nI j)) from rfl) ?_
  refine z_iaddN C dX6_stand_42 ?_
  refine z_iald C (f := (r 7)) 4 mrv_7 (6 + j) rfl (by omega) (by decide) dX6_stand_43 ?_
  refine z_istore_n C [(3, .int ((r 7) (6 + j))), (0, .ref (ad 0)), (1, .int (nI j)), (2, .int (nI w))] dX6_stand_44 rfl (by decide) rfl ?_
  refine z_aload_n C dX6_stand_45 rfl (show zlk _ 0 = some (.ref (ad 0)) from rfl) ?_
  refine z_mg C hin 7 (by decide) (by decide +kernel) (v := .ref (ad 7)) mf_7 dX6_stand_46 ?_
  refine z_bipush C (v := nI 6) dX6_stand_49 (by decide) ?_
  refine z_iload_n C dX6_stand_51 rfl (show zlk _ 1 = some (.int (nI j)) from rfl) ?_
  refine z_iaddN C dX6_stand_52 ?_
  refine z_iload_n C dX6_stand_53 rfl (show zlk _ 2 = some (.int (nI w)) from rfl) ?_
  refine z_iast C (f := (r 7)) 4 mrv_7 (6 + j) rfl (by omega) (by decide) _ msv_7 dX6_stand_54 ?_
  refine z_iload_n C dX6_stand_55 rfl (show zlk _ 3 = some (.int ((r 7) (6 + j))) from rfl) ?_
  exact E _ _ _ _ (⟨rfl, (mw_eq rfl rfl rfl rfl rfl rfl rfl rfl rfl rfl rfl rfl rfl rfl rfl rfl rfl rfl rfl rfl rfl rfl rfl rfl rfl rfl rfl rfl rfl rfl rfl rfl)⟩) (rfl) dX6_stand_56

set_option maxHeartbeats 4000000 in
set_option maxRecDepth 100000 in
theorem c_X6_go_1 (l : Launch) (θ : zH) (ad : Nat → Nat) (n : Nat → Nat) (g : Int32) (r : Nat → Nat → Int32) (s : Int32) (hS : n 1 ≤ 6) (hj : okN s (n 1) = false) : cI l yX6_go wsX6_go 2 θ [.ref (ad 0), .int s] (MW θ ad n g r) (fun r0 Y => r0 = (-1000000001) ∧ Y = MW θ ad n g r) := by
  refine z_cI (by decide) rfl rfl (Nat.le_of_ble_eq_true rfl) (lv := [(0, .ref (ad 0)), (1, .int s)]) rfl (fun κ C E => ?_)
  have hin : ∀ w ∈ wsX60, w ∈ wsX6_go := by decide +kernel
  refine z_aload_n C dX6_go_0 rfl (show zlk _ 0 = some (.ref (ad 0)) from rfl) ?_
  refine z_iload_n C dX6_go_1 rfl (show zlk _ 1 = some (.int s) from rfl) ?_
  refine z_callVi C (As := [.int s]) (rest := []) (c_X6_isSitter l θ ad n g r s (by omega)) gX6_go_X6_isSitter rfl 1 (by decide +kernel) (by decide) (by decide) 0 rfl rfl rfl rfl rfl (Nat.le_of_ble_eq_true rfl) dX6_go_2 ?_
  rintro _ _ ⟨rfl, rfl⟩
  refine z_if_neB C 11 dX6_go_5 (by decide) (fun h => absurd h (by rw [hj]; decide)) (fun _ => ?_)
  refine z_ldc C (v := (-1000000001)) (by decide +kernel) dX6_go_8 ?_
  exact E _ _ _ _ (⟨rfl, rfl⟩) (rfl) dX6_go_10

set_option maxHeartbeats 4000000 in
set_option maxRecDepth 100000 in
theorem c_X6_go_2 (l : Launch) (θ : zH) (ad : Nat → Nat) (n : Nat → Nat) (g : Int32) (r : Nat → Nat → Int32) (j : Nat) (hS : n 1 ≤ 6) (hj : j < n 1) (hx : r 7 (6 + j) = (-1)) : cI l yX6_go wsX6_go 2 θ [.ref (ad 0), .int (nI j)] (MW θ ad n g r) (fun r0 Y => r0 = (-1000000003) ∧ Y = MW θ ad n g r) := by
  refine z_cI (by decide) rfl rfl (Nat.le_of_ble_eq_true rfl) (lv := [(0, .ref (ad 0)), (1, .int (nI j))]) rfl (fun κ C E => ?_)
  have hin : ∀ w ∈ wsX60, w ∈ wsX6_go := by decide +kernel
  refine z_aload_n C dX6_go_0 rfl (show zlk _ 0 = some (.ref (ad 0)) from rfl) ?_
  refine z_iload_n C dX6_go_1 rfl (show zlk _ 1 = some (.int (nI j)) from rfl) ?_
  refine z_callVi C (As := [.int (nI j)]) (rest := []) (c_X6_isSitter l θ ad n g r (nI j) (by omega)) gX6_go_X6_isSitter rfl 1 (by decide +kernel) (by decide) (by decide) 0 rfl rfl rfl rfl rfl (Nat.le_of_ble_eq_true rfl) dX6_go_2 ?_
  rintro _ _ ⟨rfl, rfl⟩
  refine z_if_neB C 11 dX6_go_5 (by decide) (fun _ => ?_) (fun h => absurd h (by rw [okN_lt hj (by omega)]; decide))
  refine z_aload_n C dX6_go_11 rfl (show zlk _ 0 = some (.ref (ad 0)) from rfl) ?_
  refine z_mg C hin 7 (by decide) (by decide +kernel) (v := .ref (ad 7)) mf_7 dX6_go_12 ?_
  refine z_bipush C (v := nI 6) dX6_go_15 (by decide) ?_
  refine z_iload_n C dX6_go_17 rfl (show zlk _ 1 = some (.int (nI j)) from rfl) ?_
  refine z_iaddN C dX6_go_18 ?_
  refine z_iald C (f := (r 7)) 4 mr_7 (6 + j) rfl (by omega) (by decide) dX6_go_19 ?_
  refine z_istore_n C [(2, .int ((r 7) (6 + j))), (0, .ref (ad 0)), (1, .int (nI j))] dX6_go_20 rfl (by decide) rfl ?_
  refine z_iload_n C dX6_go_21 rfl (show zlk _ 2 = some (.int ((r 7) (6 + j))) from rfl) ?_
  refine z_iconst C (v := (-1)) dX6_go_22 (by decide) ?_
  refine z_icmp_ne C 29 dX6_go_23 (by decide) (fun h23n_1 => absurd h23n_1 (fun z => z hx)) (fun h23n_1 => ?_)
  refine z_ldc C (v := (-1000000003)) (by decide +kernel) dX6_go_26 ?_
  exact E _ _ _ _ (⟨rfl, rfl⟩) (rfl) dX6_go_28

set_option maxHeartbeats 4000000 in
set_option maxRecDepth 100000 in
theorem c_X6_go_3 (l : Launch) (θ : zH) (ad : Nat → Nat) (n : Nat → Nat) (g : Int32) (r : Nat → Nat → Int32) (j : Nat) (hS : n 1 ≤ 6) (hj : j < n 1) (hx : ¬ r 7 (6 + j) = (-1)) (hu : n 22 ≤ 16) : cI l yX6_go wsX6_go 2 θ [.ref (ad 0), .int (nI j)] (MW θ ad n g r) (fun r0 Y => r0 = r 7 (6 + j) ∧ Y = MW θ ad (nv (n 0) (n 1) (n 3) (n 5) (n 8) (n 10) (n 12) (n 13) (n 14) (n 15) (n 16) (n 18) (n 20) (m_u (n 22)) (n 27)) g (rv (r 2) (r 4) (r 6) (upd (r 7) (6 + j) (-1)) (r 9) (r 17) (r 19) (r 21) (m_pst (r 23) (r 7) (n 22)) (r 24) (r 25) (r 26) (r 28) (r 29) (r 30) (r 31) (r 32))) := by
  refine z_cI (by decide) rfl rfl (Nat.le_of_ble_eq_true rfl) (lv := [(0, .ref (ad 0)), (1, .int (nI j))]) rfl (fun κ C E => ?_)
  have hin : ∀ w ∈ wsX60, w ∈ wsX6_go := by decide +kernel
  refine z_aload_n C dX6_go_0 rfl (show zlk _ 0 = some (.ref (ad 0)) from rfl) ?_
  refine z_iload_n C dX6_go_1 rfl (show zlk _ 1 = some (.int (nI j)) from rfl) ?_
  refine z_callVi C (As := [.int (nI j)]) (rest := []) (c_X6_isSitter l θ ad n g r (nI j) (by omega)) gX6_go_X6_isSitter rfl 1 (by decide +kernel) (by decide) (by decide) 0 rfl rfl rfl rfl rfl (Nat.le_of_ble_eq_true rfl) dX6_go_2 ?_
  rintro _ _ ⟨rfl, rfl⟩
  refine z_if_neB C 11 dX6_go_5 (by decide) (fun _ => ?_) (fun h => absurd h (by rw [okN_lt hj (by omega)]; decide))
  refine z_aload_n C dX6_go_11 rfl (show zlk _ 0 = some (.ref (ad 0)) from rfl) ?_
  refine z_mg C hin 7 (by decide) (by decide +kernel) (v := .ref (ad 7)) mf_7 dX6_go_12 ?_
  refine z_bipush C (v := nI 6) dX6_go_15 (by decide) ?_
  refine z_iload_n C dX6_go_17 rfl (show zlk _ 1 = some (.int (nI j)) from rfl) ?_
  refine z_iaddN C dX6_go_18 ?_
  refine z_iald C (f := (r 7)) 4 mr_7 (6 + j) rfl (by omega) (by decide) dX6_go_19 ?_
  refine z_istore_n C [(2, .int ((r 7) (6 + j))), (0, .ref (ad 0)), (1, .int (nI j))] dX6_go_20 rfl (by decide) rfl ?_
  refine z_iload_n C dX6_go_21 rfl (show zlk _ 2 = some (.int ((r 7) (6 + j))) from rfl) ?_
  refine z_iconst C (v := (-1)) dX6_go_22 (by decide) ?_
  refine z_icmp_ne C 29 dX6_go_23 (by decide) (fun h23t_1 => ?_) (fun h23t_1 => absurd h23t_1 (hx))
  refine z_aload_n C dX6_go_29 rfl (show zlk _ 0 = some (.ref (ad 0)) from rfl) ?_
  refine z_callVv C (As := []) (rest := []) (c_X6_remember l θ ad n g r hu) gX6_go_X6_remember rfl 0 (by decide +kernel) (by decide) (by decide) 0 rfl rfl rfl rfl rfl (Nat.le_of_ble_eq_true rfl) dX6_go_30 ?_
  rintro _ rfl
  refine z_X (Y := MW θ ad (nv (n 0) (n 1) (n 3) (n 5) (n 8) (n 10) (n 12) (n 13) (n 14) (n 15) (n 16) (n 18) (n 20) (m_u (n 22)) (n 27)) g (rv (r 2) (r 4) (r 6) (r 7) (r 9) (r 17) (r 19) (r 21) (m_pst (r 23) (r 7) (n 22)) (r 24) (r 25) (r 26) (r 28) (r 29) (r 30) (r 31) (r 32))) (mw_eq rfl rfl rfl rfl rfl rfl rfl rfl rfl rfl rfl rfl rfl rfl rfl rfl rfl rfl rfl rfl rfl rfl rfl rfl rfl rfl rfl rfl rfl rfl rfl rfl) ?_
  refine z_aload_n C dX6_go_33 rfl (show zlk _ 0 = some (.ref (ad 0)) from rfl) ?_
  refine z_mg C hin 7 (by decide) (by decide +kernel) (v := .ref (ad 7)) mf_7 dX6_go_34 ?_
  refine z_bipush C (v := nI 6) dX6_go_37 (by decide) ?_
  refine z_iload_n C dX6_go_39 rfl (show zlk _ 1 = some (.int (nI j)) from rfl) ?_
  refine z_iaddN C dX6_go_40 ?_
  refine z_iconst C (v := (-1)) dX6_go_41 (by decide) ?_
  refine z_iast C (f := (r 7)) 4 mrv_7 (6 + j) rfl (by omega) (by decide) _ msv_7 dX6_go_42 ?_
  refine z_iload_n C dX6_go_43 rfl (show zlk _ 2 = some (.int ((r 7) (6 + j))) from rfl) ?_
  exact E _ _ _ _ (⟨rfl, (mw_eq rfl rfl rfl rfl rfl rfl rfl rfl rfl rfl rfl rfl rfl rfl rfl rfl rfl rfl rfl rfl rfl rfl rfl rfl rfl rfl rfl rfl rfl rfl rfl rfl)⟩) (rfl) dX6_go_44

set_option maxHeartbeats 4000000 in
set_option maxRecDepth 100000 in
theorem c_X6_seed_1 (l : Launch) (θ : zH) (ad : Nat → Nat) (n : Nat → Nat) (g : Int32) (r : Nat → Nat → Int32) (x : Int32) (hx : ¬ 0 ≤ x) : cI l yX6_seed wsX6_seed 0 θ [.ref (ad 0), .int x] (MW θ ad n g r) (fun r0 Y => r0 = (-1000000002) ∧ Y = MW θ ad n g r) := by
  refine z_cI (by decide) rfl rfl (Nat.le_of_ble_eq_true rfl) (lv := [(0, .ref (ad 0)), (1, .int x)]) rfl (fun κ C E => ?_)
  have hin : ∀ w ∈ wsX60, w ∈ wsX6_seed := by decide +kernel
  refine z_iload_n C dX6_seed_0 rfl (show zlk _ 1 = some (.int x) from rfl) ?_
  refine z_if_ge C 7 dX6_seed_1 (by decide) (fun h1n_1 => absurd h1n_1 (hx)) (fun h1n_1 => ?_)
  refine z_ldc C (v := (-1000000002)) (by decide +kernel) dX6_seed_4 ?_
  exact E _ _ _ _ (⟨rfl, rfl⟩) (rfl) dX6_seed_6

set_option maxHeartbeats 4000000 in
set_option maxRecDepth 100000 in
theorem c_X6_seed_2 (l : Launch) (θ : zH) (ad : Nat → Nat) (n : Nat → Nat) (g : Int32) (r : Nat → Nat → Int32) (v : Nat) (hv : v < 2 ^ 31) : cI l yX6_seed wsX6_seed 0 θ [.ref (ad 0), .int (nI v)] (MW θ ad n g r) (fun r0 Y => r0 = nI (n 8) ∧ Y = MW θ ad (nv (n 0) (n 1) (n 3) (n 5) v (n 10) (n 12) (n 13) (n 14) (n 15) (n 16) (n 18) (n 20) (n 22) (n 27)) g r) := by
  refine z_cI (by decide) rfl rfl (Nat.le_of_ble_eq_true rfl) (lv := [(0, .ref (ad 0)), (1, .int (nI v))]) rfl (fun κ C E => ?_)
  have hin : ∀ w ∈ wsX60, w ∈ wsX6_seed := by decide +kernel
  refine z_iload_n C dX6_seed_0 rfl (show zlk _ 1 = some (.int (nI v)) from rfl) ?_
  refine z_if_geN C 7 dX6_seed_1 (by decide) (by omega) ?_
  refine z_aload_n C dX6_seed_7 rfl (show zlk _ 0 = some (.ref (ad 0)) from rfl) ?_
  refine z_mg C hin 8 (by decide) (by decide +kernel) (v := .int (nI (n 8))) mf_8 dX6_seed_8 ?_
  refine z_istore_n C [(2, .int (nI (n 8))), (0, .ref (ad 0)), (1, .int (nI v))] dX6_seed_11 rfl (by decide) rfl ?_
  refine z_aload_n C dX6_seed_12 rfl (show zlk _ 0 = some (.ref (ad 0)) from rfl) ?_
  refine z_iload_n C dX6_seed_13 rfl (show zlk _ 1 = some (.int (nI v)) from rfl) ?_
  refine z_mp C hin 8 (by decide) (by decide +kernel) rfl rfl mpn_8 dX6_seed_14 ?_
  refine z_iload_n C dX6_seed_17 rfl (show zlk _ 2 = some (.int (nI (n 8))) from rfl) ?_
  exact E _ _ _ _ (⟨rfl, (mw_eq rfl rfl rfl rfl rfl rfl rfl rfl rfl rfl rfl rfl rfl rfl rfl rfl rfl rfl rfl rfl rfl rfl rfl rfl rfl rfl rfl rfl rfl rfl rfl rfl)⟩) (rfl) dX6_seed_18

set_option maxHeartbeats 4000000 in
set_option maxRecDepth 100000 in
theorem c_X6_tear (l : Launch) (θ : zH) (ad : Nat → Nat) (n : Nat → Nat) (g : Int32) (r : Nat → Nat → Int32)  : cI l yX6_tear wsX6_tear 0 θ [.ref (ad 0)] (MW θ ad n g r) (fun r0 Y => r0 = nI (n 27) ∧ Y = MW θ ad (nv (n 0) (n 1) (n 3) (n 5) (n 8) (n 10) (n 12) (n 13) (n 14) (n 15) (n 16) (n 18) (n 20) (n 22) 0) g r) := by
  refine z_cI (by decide) rfl rfl (Nat.le_of_ble_eq_true rfl) (lv := [(0, .ref (ad 0))]) rfl (fun κ C E => ?_)
  have hin : ∀ w ∈ wsX60, w ∈ wsX6_tear := by decide +kernel
  refine z_aload_n C dX6_tear_0 rfl (show zlk _ 0 = some (.ref (ad 0)) from rfl) ?_
  refine z_mg C hin 27 (by decide) (by decide +kernel) (v := .int (nI (n 27))) mf_27 dX6_tear_1 ?_
  refine z_istore_n C [(1, .int (nI (n 27))), (0, .ref (ad 0))] dX6_tear_4 rfl (by decide) rfl ?_
  refine z_aload_n C dX6_tear_5 rfl (show zlk _ 0 = some (.ref (ad 0)) from rfl) ?_
  refine z_iconst C (v := nI 0) dX6_tear_6 (by decide) ?_
  refine z_mp C hin 27 (by decide) (by decide +kernel) rfl rfl mpn_27 dX6_tear_7 ?_
  refine z_iload_n C dX6_tear_10 rfl (show zlk _ 1 = some (.int (nI (n 27))) from rfl) ?_
  exact E _ _ _ _ (⟨rfl, (mw_eq rfl rfl rfl rfl rfl rfl rfl rfl rfl rfl rfl rfl rfl rfl rfl rfl rfl rfl rfl rfl rfl rfl rfl rfl rfl rfl rfl rfl rfl rfl rfl rfl)⟩) (rfl) dX6_tear_11
end
