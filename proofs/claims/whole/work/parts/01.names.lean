/-- the name of a method of Standing, as the tables have it -/
def nmAd : String := match (tables_1_3[9]? : Option Jvm.Cond) with | some (Jvm.Cond.instanceMethod y) => y.name | _ => ""
def RX0 : String := "FoldGates$Plan"
def TX0 : u_T := fun k => match k with
  | 0 => ("FoldGates$Plan", "pens", "I", false)
  | 1 => ("FoldGates$Plan", "hurdles", "I", false)
  | 2 => ("FoldGates$Plan", "beasts", "I", false)
  | 3 => ("FoldGates$Plan", "hurdleSort", "[I", true)
  | 4 => ("FoldGates$Plan", "left", "[I", true)
  | 5 => ("FoldGates$Plan", "right", "[I", true)
  | 6 => ("FoldGates$Plan", "tie", "[I", true)
  | 7 => ("FoldGates$Plan", "beastKind", "[I", true)
  | _ => ("FoldGates$Plan", "beastHeavy", "[I", true)
def tyX0 : Nat → FieldType := fun k => match k with
  | 0 => .int
  | 1 => .int
  | 2 => .int
  | 3 => .array .int
  | 4 => .array .int
  | 5 => .array .int
  | 6 => .array .int
  | 7 => .array .int
  | _ => .array .int
theorem nmX0 : ∀ a, a < 9 → ∀ b, b < 9 → a ≠ b → (TX0 a).2.1 ≠ (TX0 b).2.1 := by decide +kernel
theorem tyX0_ok : ∀ k, k < 9 → parseFieldDescriptor (TX0 k).2.2.1 = some (tyX0 k) := by decide +kernel
abbrev cX0_init : ByteArray := prog_2_method_1_code
def yX0_init : MethodName := ⟨RX0, "<init>", "()V"⟩
abbrev cX0_kindOf : ByteArray := prog_2_method_2_code
def yX0_kindOf : MethodName := ⟨RX0, "kindOf", "(I)I"⟩
abbrev cX0_heavyOf : ByteArray := prog_2_method_3_code
def yX0_heavyOf : MethodName := ⟨RX0, "heavyOf", "(I)I"⟩
abbrev cX0_isWay : ByteArray := prog_2_method_4_code
def yX0_isWay : MethodName := ⟨RX0, "isWay", "(I)Z"⟩
abbrev cX0_codes : ByteArray := prog_2_method_5_code
def yX0_codes : MethodName := ⟨RX0, "codes", "()I"⟩
abbrev cX0_standsIn : ByteArray := prog_2_method_6_code
def yX0_standsIn : MethodName := ⟨RX0, "standsIn", "(I)I"⟩
abbrev cX0_mostStandings : ByteArray := prog_2_method_7_code
def yX0_mostStandings : MethodName := ⟨RX0, "mostStandings", "()I"⟩
abbrev cX0_firstOfKinds : ByteArray := prog_2_method_8_code
def yX0_firstOfKinds : MethodName := ⟨RX0, "firstOfKinds", "()I"⟩
def RX1 : String := "FoldGates$Row"
def TX1 : u_T := fun k => match k with
  | 0 => ("FoldGates$Row", "items", "[I", true)
  | 1 => ("FoldGates$Row", "lane", "I", false)
  | _ => ("FoldGates$Row", "size", "I", false)
def tyX1 : Nat → FieldType := fun k => match k with
  | 0 => .array .int
  | 1 => .int
  | _ => .int
theorem nmX1 : ∀ a, a < 3 → ∀ b, b < 3 → a ≠ b → (TX1 a).2.1 ≠ (TX1 b).2.1 := by decide +kernel
theorem tyX1_ok : ∀ k, k < 3 → parseFieldDescriptor (TX1 k).2.2.1 = some (tyX1 k) := by decide +kernel
abbrev cX1_init : ByteArray := prog_3_method_1_code
def yX1_init : MethodName := ⟨RX1, "<init>", "()V"⟩
abbrev cX1_isMissing : ByteArray := prog_3_method_2_code
def yX1_isMissing : MethodName := ⟨RX1, "isMissing", "()Z"⟩
abbrev cX1_has : ByteArray := prog_3_method_3_code
def yX1_has : MethodName := ⟨RX1, "has", "(II)Z"⟩
abbrev cX1_begin : ByteArray := prog_3_method_4_code
def yX1_begin : MethodName := ⟨RX1, "begin", "(II)V"⟩
abbrev cX1_lose : ByteArray := prog_3_method_5_code
def yX1_lose : MethodName := ⟨RX1, "lose", "()V"⟩
abbrev cX1_put : ByteArray := prog_3_method_6_code
def yX1_put : MethodName := ⟨RX1, "put", "(II)I"⟩
abbrev cX1_item : ByteArray := prog_3_method_7_code
def yX1_item : MethodName := ⟨RX1, "item", "(I)I"⟩
def RX2 : String := "FoldGates$Search"
def TX2 : u_T := fun k => match k with
  | 0 => ("FoldGates$Search", "trial", "LFoldGates$Standing;", true)
  | 1 => ("FoldGates$Search", "plan", "LFoldGates$Plan;", false)
  | 2 => ("FoldGates$Search", "start", "I", false)
  | 3 => ("FoldGates$Search", "movers", "I", false)
  | 4 => ("FoldGates$Search", "found", "I", false)
  | 5 => ("FoldGates$Search", "standingsFound", "I", false)
  | 6 => ("FoldGates$Search", "order", "[I", false)
  | 7 => ("FoldGates$Search", "cameBy", "[I", false)
  | _ => ("FoldGates$Search", "firstOf", "[I", true)
def tyX2 : Nat → FieldType := fun k => match k with
  | 0 => .object "FoldGates$Standing"
  | 1 => .object "FoldGates$Plan"
  | 2 => .int
  | 3 => .int
  | 4 => .int
  | 5 => .int
  | 6 => .array .int
  | 7 => .array .int
  | _ => .array .int
theorem nmX2 : ∀ a, a < 9 → ∀ b, b < 9 → a ≠ b → (TX2 a).2.1 ≠ (TX2 b).2.1 := by decide +kernel
theorem tyX2_ok : ∀ k, k < 9 → parseFieldDescriptor (TX2 k).2.2.1 = some (tyX2 k) := by decide +kernel
abbrev cX2_init : ByteArray := prog_4_method_1_code
def yX2_init : MethodName := ⟨RX2, "<init>", "(LFoldGates$Standing;)V"⟩
abbrev cX2_from : ByteArray := prog_4_method_2_code
def yX2_from : MethodName := ⟨RX2, "from", "(LFoldGates$Standing;)V"⟩
abbrev cX2_makeRoom : ByteArray := prog_4_method_3_code
def yX2_makeRoom : MethodName := ⟨RX2, "makeRoom", "(I)V"⟩
abbrev cX2_spread : ByteArray := prog_4_method_4_code
def yX2_spread : MethodName := ⟨RX2, "spread", "(I)V"⟩
abbrev cX2_note : ByteArray := prog_4_method_5_code
def yX2_note : MethodName := ⟨RX2, "note", "(II)V"⟩
abbrev cX2_isCode : ByteArray := prog_4_method_6_code
def yX2_isCode : MethodName := ⟨RX2, "isCode", "(I)Z"⟩
abbrev cX2_isBehindOther : ByteArray := prog_4_method_7_code
def yX2_isBehindOther : MethodName := ⟨RX2, "isBehindOther", "(I)Z"⟩
abbrev cX2_finds : ByteArray := prog_4_method_8_code
def yX2_finds : MethodName := ⟨RX2, "finds", "(I)Z"⟩
abbrev cX2_lengthTo : ByteArray := prog_4_method_9_code
def yX2_lengthTo : MethodName := ⟨RX2, "lengthTo", "(I)I"⟩
abbrev cX2_beastBefore : ByteArray := prog_4_method_10_code
def yX2_beastBefore : MethodName := ⟨RX2, "beastBefore", "(II)I"⟩
def RX3 : String := "FoldGates$Standing"
def TX3 : u_T := fun k => match k with
  | 0 => ("FoldGates$Standing", "plan", "LFoldGates$Plan;", false)
  | 1 => ("FoldGates$Standing", "stands", "I", false)
  | 2 => ("FoldGates$Standing", "pushed", "[I", true)
  | 3 => ("FoldGates$Standing", "penCount", "[I", true)
  | _ => ("FoldGates$Standing", "penHeavy", "[I", true)
def tyX3 : Nat → FieldType := fun k => match k with
  | 0 => .object "FoldGates$Plan"
  | 1 => .int
  | 2 => .array .int
  | 3 => .array .int
  | _ => .array .int
theorem nmX3 : ∀ a, a < 5 → ∀ b, b < 5 → a ≠ b → (TX3 a).2.1 ≠ (TX3 b).2.1 := by decide +kernel
theorem tyX3_ok : ∀ k, k < 5 → parseFieldDescriptor (TX3 k).2.2.1 = some (tyX3 k) := by decide +kernel
abbrev cX3_init : ByteArray := prog_5_method_1_code
def yX3_init : MethodName := ⟨RX3, "<init>", "(LFoldGates$Plan;)V"⟩
abbrev cX3_begin : ByteArray := prog_5_method_2_code
def yX3_begin : MethodName := ⟨RX3, "begin", "(LFoldGates$Plan;I)V"⟩
abbrev cX3_takeFrom : ByteArray := prog_5_method_3_code
def yX3_takeFrom : MethodName := ⟨RX3, "takeFrom", "(LFoldGates$Standing;)V"⟩
abbrev cX3_sideOf : ByteArray := prog_5_method_4_code
def yX3_sideOf : MethodName := ⟨RX3, "sideOf", "(I)I"⟩
abbrev cX3_inPens : ByteArray := prog_5_method_5_code
def yX3_inPens : MethodName := ⟨RX3, "inPens", "()I"⟩
abbrev cX3_adm : ByteArray := prog_5_method_6_code
def yX3_adm : MethodName := ⟨RX3, nmAd, "(II)V"⟩
abbrev cX3_send : ByteArray := prog_5_method_7_code
def yX3_send : MethodName := ⟨RX3, "send", "(II)I"⟩
abbrev cX3_pass : ByteArray := prog_5_method_8_code
def yX3_pass : MethodName := ⟨RX3, "pass", "(III)I"⟩
abbrev cX3_isFixed : ByteArray := prog_5_method_9_code
def yX3_isFixed : MethodName := ⟨RX3, "isFixed", "(II)Z"⟩
abbrev cX3_sideTaken : ByteArray := prog_5_method_10_code
def yX3_sideTaken : MethodName := ⟨RX3, "sideTaken", "(II)I"⟩
abbrev cX3_sideLeftBehind : ByteArray := prog_5_method_11_code
def yX3_sideLeftBehind : MethodName := ⟨RX3, "sideLeftBehind", "(III)I"⟩
abbrev cX3_code : ByteArray := prog_5_method_12_code
def yX3_code : MethodName := ⟨RX3, "code", "()I"⟩
abbrev cX3_standAs : ByteArray := prog_5_method_13_code
def yX3_standAs : MethodName := ⟨RX3, "standAs", "(I)V"⟩
def RX4 : String := "FoldGates$Tape"
def TX4 : u_T := fun k => match k with
  | 0 => ("FoldGates$Tape", "bytes", "[B", true)
  | 1 => ("FoldGates$Tape", "length", "I", false)
  | 2 => ("FoldGates$Tape", "start", "I", false)
  | 3 => ("FoldGates$Tape", "end", "I", false)
  | 4 => ("FoldGates$Tape", "token", "I", false)
  | 5 => ("FoldGates$Tape", "value", "I", false)
  | _ => ("FoldGates$Tape", "faultNumber", "I", false)
def tyX4 : Nat → FieldType := fun k => match k with
  | 0 => .array .byte
  | 1 => .int
  | 2 => .int
  | 3 => .int
  | 4 => .int
  | 5 => .int
  | _ => .int
theorem nmX4 : ∀ a, a < 7 → ∀ b, b < 7 → a ≠ b → (TX4 a).2.1 ≠ (TX4 b).2.1 := by decide +kernel
theorem tyX4_ok : ∀ k, k < 7 → parseFieldDescriptor (TX4 k).2.2.1 = some (tyX4 k) := by decide +kernel
abbrev cX4_init : ByteArray := prog_6_method_1_code
def yX4_init : MethodName := ⟨RX4, "<init>", "()V"⟩
abbrev cX4_add : ByteArray := prog_6_method_2_code
def yX4_add : MethodName := ⟨RX4, "add", "(JI)V"⟩
abbrev cX4_read : ByteArray := prog_6_method_3_code
def yX4_read : MethodName := ⟨RX4, "read", "()LFoldGates$Plan;"⟩
abbrev cX4_readLaw : ByteArray := prog_6_method_4_code
def yX4_readLaw : MethodName := ⟨RX4, "readLaw", "(LFoldGates$Plan;)Z"⟩
abbrev cX4_readHurdles : ByteArray := prog_6_method_5_code
def yX4_readHurdles : MethodName := ⟨RX4, "readHurdles", "(LFoldGates$Plan;)Z"⟩
abbrev cX4_readHurdle : ByteArray := prog_6_method_6_code
def yX4_readHurdle : MethodName := ⟨RX4, "readHurdle", "(LFoldGates$Plan;)Z"⟩
abbrev cX4_readBeasts : ByteArray := prog_6_method_7_code
def yX4_readBeasts : MethodName := ⟨RX4, "readBeasts", "(LFoldGates$Plan;)Z"⟩
abbrev cX4_readBeast : ByteArray := prog_6_method_8_code
def yX4_readBeast : MethodName := ⟨RX4, "readBeast", "(LFoldGates$Plan;)Z"⟩
abbrev cX4_isSign : ByteArray := prog_6_method_9_code
def yX4_isSign : MethodName := ⟨RX4, "isSign", "()Z"⟩
abbrev cX4_hurdleSort : ByteArray := prog_6_method_10_code
def yX4_hurdleSort : MethodName := ⟨RX4, "hurdleSort", "()I"⟩
abbrev cX4_beastKind : ByteArray := prog_6_method_11_code
def yX4_beastKind : MethodName := ⟨RX4, "beastKind", "()I"⟩
abbrev cX4_isNumber : ByteArray := prog_6_method_12_code
def yX4_isNumber : MethodName := ⟨RX4, "isNumber", "(II)Z"⟩
abbrev cX4_isWay : ByteArray := prog_6_method_13_code
def yX4_isWay : MethodName := ⟨RX4, "isWay", "(LFoldGates$Plan;)Z"⟩
abbrev cX4_faulty : ByteArray := prog_6_method_14_code
def yX4_faulty : MethodName := ⟨RX4, "faulty", "(I)Z"⟩
abbrev cX4_isWord : ByteArray := prog_6_method_15_code
def yX4_isWord : MethodName := ⟨RX4, "isWord", "(Ljava/lang/String;)Z"⟩
abbrev cX4_next : ByteArray := prog_6_method_16_code
def yX4_next : MethodName := ⟨RX4, "next", "()V"⟩
abbrev cX4_nextNumber : ByteArray := prog_6_method_17_code
def yX4_nextNumber : MethodName := ⟨RX4, "nextNumber", "()V"⟩
abbrev cX4_byteAt : ByteArray := prog_6_method_18_code
def yX4_byteAt : MethodName := ⟨RX4, "byteAt", "(I)I"⟩
abbrev cX4_isBlank : ByteArray := prog_6_method_19_code
def yX4_isBlank : MethodName := ⟨RX4, "isBlank", "(I)Z"⟩
abbrev cX4_isLetter : ByteArray := prog_6_method_20_code
def yX4_isLetter : MethodName := ⟨RX4, "isLetter", "(I)Z"⟩
abbrev cX4_isFigure : ByteArray := prog_6_method_21_code
def yX4_isFigure : MethodName := ⟨RX4, "isFigure", "(I)Z"⟩
def RX5 : String := "FoldGates"
def TX5 : u_T := fun k => match k with
  | 0 => ("FoldGates", "rows", "[LFoldGates$Row;", true)
  | 1 => ("FoldGates", "tape", "LFoldGates$Tape;", true)
  | 2 => ("FoldGates", "now", "LFoldGates$Standing;", true)
  | 3 => ("FoldGates", "trial", "LFoldGates$Standing;", true)
  | 4 => ("FoldGates", "secondTrial", "LFoldGates$Standing;", true)
  | 5 => ("FoldGates", "acts", "[LFoldGates$Standing;", true)
  | 6 => ("FoldGates", "nextAct", "I", false)
  | 7 => ("FoldGates", "actsKept", "I", false)
  | 8 => ("FoldGates", "images", "[LFoldGates$Standing;", true)
  | 9 => ("FoldGates", "search", "LFoldGates$Search;", false)
  | 10 => ("FoldGates", "traced", "[I", true)
  | 11 => ("FoldGates", "tracedSize", "I", false)
  | 12 => ("FoldGates", "latestFault", "I", false)
  | _ => ("FoldGates", "latestFinding", "I", false)
def tyX5 : Nat → FieldType := fun k => match k with
  | 0 => .array (.object "FoldGates$Row")
  | 1 => .object "FoldGates$Tape"
  | 2 => .object "FoldGates$Standing"
  | 3 => .object "FoldGates$Standing"
  | 4 => .object "FoldGates$Standing"
  | 5 => .array (.object "FoldGates$Standing")
  | 6 => .int
  | 7 => .int
  | 8 => .array (.object "FoldGates$Standing")
  | 9 => .object "FoldGates$Search"
  | 10 => .array .int
  | 11 => .int
  | 12 => .int
  | _ => .int
theorem nmX5 : ∀ a, a < 14 → ∀ b, b < 14 → a ≠ b → (TX5 a).2.1 ≠ (TX5 b).2.1 := by decide +kernel
theorem tyX5_ok : ∀ k, k < 14 → parseFieldDescriptor (TX5 k).2.2.1 = some (tyX5 k) := by decide +kernel
abbrev cX5_init : ByteArray := prog_1_method_1_code
def yX5_init : MethodName := ⟨RX5, "<init>", "()V"⟩
abbrev cX5_row : ByteArray := prog_1_method_2_code
def yX5_row : MethodName := ⟨RX5, "row", "(III)I"⟩
abbrev cX5_set : ByteArray := prog_1_method_3_code
def yX5_set : MethodName := ⟨RX5, "set", "(III)I"⟩
abbrev cX5_copy : ByteArray := prog_1_method_4_code
def yX5_copy : MethodName := ⟨RX5, "copy", "(IIIII)I"⟩
abbrev cX5_drop : ByteArray := prog_1_method_5_code
def yX5_drop : MethodName := ⟨RX5, "drop", "(I)I"⟩
abbrev cX5_feed : ByteArray := prog_1_method_6_code
def yX5_feed : MethodName := ⟨RX5, "feed", "(JI)I"⟩
abbrev cX5_fold : ByteArray := prog_1_method_7_code
def yX5_fold : MethodName := ⟨RX5, "fold", "()I"⟩
abbrev cX5_fault : ByteArray := prog_1_method_8_code
def yX5_fault : MethodName := ⟨RX5, "fault", "()I"⟩
abbrev cX5_run : ByteArray := prog_1_method_9_code
def yX5_run : MethodName := ⟨RX5, "run", "(I)I"⟩
abbrev cX5_runs : ByteArray := prog_1_method_10_code
def yX5_runs : MethodName := ⟨RX5, "runs", "(III)I"⟩
abbrev cX5_dawn : ByteArray := prog_1_method_11_code
def yX5_dawn : MethodName := ⟨RX5, "dawn", "(I)I"⟩
abbrev cX5_undo : ByteArray := prog_1_method_12_code
def yX5_undo : MethodName := ⟨RX5, "undo", "()I"⟩
abbrev cX5_hurdle : ByteArray := prog_1_method_13_code
def yX5_hurdle : MethodName := ⟨RX5, "hurdle", "(II)I"⟩
abbrev cX5_heavy : ByteArray := prog_1_method_14_code
def yX5_heavy : MethodName := ⟨RX5, "heavy", "(I)I"⟩
abbrev cX5_pen : ByteArray := prog_1_method_15_code
def yX5_pen : MethodName := ⟨RX5, "pen", "(II)I"⟩
abbrev cX5_stood : ByteArray := prog_1_method_16_code
def yX5_stood : MethodName := ⟨RX5, "stood", "(IIII)I"⟩
abbrev cX5_ahead : ByteArray := prog_1_method_17_code
def yX5_ahead : MethodName := ⟨RX5, "ahead", "(III)I"⟩
abbrev cX5_reached : ByteArray := prog_1_method_18_code
def yX5_reached : MethodName := ⟨RX5, "reached", "(II)I"⟩
abbrev cX5_comes : ByteArray := prog_1_method_19_code
def yX5_comes : MethodName := ⟨RX5, "comes", "()I"⟩
abbrev cX5_round : ByteArray := prog_1_method_20_code
def yX5_round : MethodName := ⟨RX5, "round", "(II)I"⟩
abbrev cX5_sticks : ByteArray := prog_1_method_21_code
def yX5_sticks : MethodName := ⟨RX5, "sticks", "(III)I"⟩
abbrev cX5_theft : ByteArray := prog_1_method_22_code
def yX5_theft : MethodName := ⟨RX5, "theft", "(IIII)I"⟩
abbrev cX5_mixed : ByteArray := prog_1_method_23_code
def yX5_mixed : MethodName := ⟨RX5, "mixed", "(III)I"⟩
abbrev cX5_image : ByteArray := prog_1_method_24_code
def yX5_image : MethodName := ⟨RX5, "image", "(I)I"⟩
abbrev cX5_restore : ByteArray := prog_1_method_25_code
def yX5_restore : MethodName := ⟨RX5, "restore", "(I)I"⟩
abbrev cX5_kind : ByteArray := prog_1_method_26_code
def yX5_kind : MethodName := ⟨RX5, "kind", "(I)I"⟩
abbrev cX5_as : ByteArray := prog_1_method_27_code
def yX5_as : MethodName := ⟨RX5, "as", "(II)I"⟩
abbrev cX5_ask : ByteArray := prog_1_method_28_code
def yX5_ask : MethodName := ⟨RX5, "ask", "(II)I"⟩
abbrev cX5_trace : ByteArray := prog_1_method_29_code
def yX5_trace : MethodName := ⟨RX5, "trace", "(I)I"⟩
abbrev cX5_count : ByteArray := prog_1_method_30_code
def yX5_count : MethodName := ⟨RX5, "count", "(I)I"⟩
abbrev cX5_status : ByteArray := prog_1_method_31_code
def yX5_status : MethodName := ⟨RX5, "status", "()I"⟩
abbrev cX5_noFold : ByteArray := prog_1_method_32_code
def yX5_noFold : MethodName := ⟨RX5, "noFold", "()Z"⟩
abbrev cX5_isBeast : ByteArray := prog_1_method_33_code
def yX5_isBeast : MethodName := ⟨RX5, "isBeast", "(I)Z"⟩
abbrev cX5_isPen : ByteArray := prog_1_method_34_code
def yX5_isPen : MethodName := ⟨RX5, "isPen", "(I)Z"⟩
abbrev cX5_isStanding : ByteArray := prog_1_method_35_code
def yX5_isStanding : MethodName := ⟨RX5, "isStanding", "(I)Z"⟩
abbrev cX5_isRow : ByteArray := prog_1_method_36_code
def yX5_isRow : MethodName := ⟨RX5, "isRow", "(I)Z"⟩
abbrev cX5_isFirstOrSecond : ByteArray := prog_1_method_37_code
def yX5_isFirstOrSecond : MethodName := ⟨RX5, "isFirstOrSecond", "(I)Z"⟩
abbrev cX5_rowsThere : ByteArray := prog_1_method_38_code
def yX5_rowsThere : MethodName := ⟨RX5, "rowsThere", "()I"⟩
abbrev cX5_findingOf : ByteArray := prog_1_method_39_code
def yX5_findingOf : MethodName := ⟨RX5, "findingOf", "(III)I"⟩
abbrev cX5_found : ByteArray := prog_1_method_40_code
def yX5_found : MethodName := ⟨RX5, "found", "(I)I"⟩
abbrev cX5_foundNothing : ByteArray := prog_1_method_41_code
def yX5_foundNothing : MethodName := ⟨RX5, "foundNothing", "(I)I"⟩
abbrev cX5_areBeasts : ByteArray := prog_1_method_42_code
def yX5_areBeasts : MethodName := ⟨RX5, "areBeasts", "(III)Z"⟩
abbrev cX5_arePairs : ByteArray := prog_1_method_43_code
def yX5_arePairs : MethodName := ⟨RX5, "arePairs", "(III)Z"⟩
abbrev cX5_act : ByteArray := prog_1_method_44_code
def yX5_act : MethodName := ⟨RX5, "act", "(I)I"⟩
abbrev cX5_keepAct : ByteArray := prog_1_method_45_code
def yX5_keepAct : MethodName := ⟨RX5, "keepAct", "()V"⟩
abbrev cX5_forgetActs : ByteArray := prog_1_method_46_code
def yX5_forgetActs : MethodName := ⟨RX5, "forgetActs", "()V"⟩
abbrev cX5_comeAsTold : ByteArray := prog_1_method_47_code
def yX5_comeAsTold : MethodName := ⟨RX5, "comeAsTold", "(LFoldGates$Row;III)Z"⟩
abbrev cX5_searchFromNow : ByteArray := prog_1_method_48_code
def yX5_searchFromNow : MethodName := ⟨RX5, "searchFromNow", "()LFoldGates$Search;"⟩
abbrev cX5_roundLength : ByteArray := prog_1_method_49_code
def yX5_roundLength : MethodName := ⟨RX5, "roundLength", "(I)I"⟩
abbrev cX5_tailLength : ByteArray := prog_1_method_50_code
def yX5_tailLength : MethodName := ⟨RX5, "tailLength", "(II)I"⟩
abbrev cX5_asked : ByteArray := prog_1_method_51_code
def yX5_asked : MethodName := ⟨RX5, "asked", "(III)I"⟩
abbrev cX5_body : ByteArray := prog_1_method_52_code
def yX5_body : MethodName := ⟨RX5, "body", "(III)I"⟩
abbrev cX5_penNow : ByteArray := prog_1_method_53_code
def yX5_penNow : MethodName := ⟨RX5, "penNow", "(I)I"⟩
def RX6 : String := "FoldGatesModel"
def TX6 : u_T := fun k => match k with
  | 0 => ("FoldGatesModel", "row", "[I", true)
  | 1 => ("FoldGatesModel", "pasts", "[I", true)
  | 2 => ("FoldGatesModel", "pastMany", "I", false)
  | 3 => ("FoldGatesModel", "tape", "[I", true)
  | 4 => ("FoldGatesModel", "taped", "I", false)
  | 5 => ("FoldGatesModel", "fault", "I", false)
  | 6 => ("FoldGatesModel", "status", "I", false)
  | 7 => ("FoldGatesModel", "lanes", "[I", true)
  | 8 => ("FoldGatesModel", "sizes", "[I", true)
  | 9 => ("FoldGatesModel", "items", "[I", true)
  | 10 => ("FoldGatesModel", "traces", "[I", true)
  | 11 => ("FoldGatesModel", "traceMany", "I", false)
  | 12 => ("FoldGatesModel", "stuck", "I", false)
  | 13 => ("FoldGatesModel", "at", "I", false)
  | 14 => ("FoldGatesModel", "place", "I", false)
  | 15 => ("FoldGatesModel", "end", "I", false)
  | 16 => ("FoldGatesModel", "readPens", "I", false)
  | 17 => ("FoldGatesModel", "readHurdles", "[I", true)
  | 18 => ("FoldGatesModel", "readMany", "I", false)
  | 19 => ("FoldGatesModel", "readBeasts", "[I", true)
  | 20 => ("FoldGatesModel", "readBeastMany", "I", false)
  | 21 => ("FoldGatesModel", "fars", "[I", true)
  | 22 => ("FoldGatesModel", "queue", "[I", true)
  | 23 => ("FoldGatesModel", "queued", "I", false)
  | 24 => ("FoldGatesModel", "onWay", "[Z", true)
  | _ => ("FoldGatesModel", "comesTo", "[I", true)
def tyX6 : Nat → FieldType := fun k => match k with
  | 0 => .array .int
  | 1 => .array .int
  | 2 => .int
  | 3 => .array .int
  | 4 => .int
  | 5 => .int
  | 6 => .int
  | 7 => .array .int
  | 8 => .array .int
  | 9 => .array .int
  | 10 => .array .int
  | 11 => .int
  | 12 => .int
  | 13 => .int
  | 14 => .int
  | 15 => .int
  | 16 => .int
  | 17 => .array .int
  | 18 => .int
  | 19 => .array .int
  | 20 => .int
  | 21 => .array .int
  | 22 => .array .int
  | 23 => .int
  | 24 => .array .boolean
  | _ => .array .int
theorem nmX6 : ∀ a, a < 26 → ∀ b, b < 26 → a ≠ b → (TX6 a).2.1 ≠ (TX6 b).2.1 := by decide +kernel
theorem tyX6_ok : ∀ k, k < 26 → parseFieldDescriptor (TX6 k).2.2.1 = some (tyX6 k) := by decide +kernel
abbrev cX6_init : ByteArray := prog_8_method_1_code
def yX6_init : MethodName := ⟨RX6, "<init>", "()V"⟩
abbrev cX6_in : ByteArray := prog_8_method_2_code
def yX6_in : MethodName := ⟨RX6, "in", "(JJJ)Z"⟩
abbrev cX6_find : ByteArray := prog_8_method_4_code
def yX6_find : MethodName := ⟨RX6, "find", "(I)I"⟩
abbrev cX6_give : ByteArray := prog_8_method_5_code
def yX6_give : MethodName := ⟨RX6, "give", "(I)I"⟩
abbrev cX6_isRow : ByteArray := prog_8_method_6_code
def yX6_isRow : MethodName := ⟨RX6, "isRow", "(I)Z"⟩
abbrev cX6_row : ByteArray := prog_8_method_7_code
def yX6_row : MethodName := ⟨RX6, "row", "(III)I"⟩
abbrev cX6_set : ByteArray := prog_8_method_8_code
def yX6_set : MethodName := ⟨RX6, "set", "(III)I"⟩
abbrev cX6_isSpan : ByteArray := prog_8_method_9_code
def yX6_isSpan : MethodName := ⟨RX6, "isSpan", "(III)Z"⟩
abbrev cX6_copy : ByteArray := prog_8_method_10_code
def yX6_copy : MethodName := ⟨RX6, "copy", "(IIIII)I"⟩
abbrev cX6_drop : ByteArray := prog_8_method_11_code
def yX6_drop : MethodName := ⟨RX6, "drop", "(I)I"⟩
abbrev cX6_feed : ByteArray := prog_8_method_12_code
def yX6_feed : MethodName := ⟨RX6, "feed", "(JI)I"⟩
abbrev cX6_sort : ByteArray := prog_8_method_13_code
def yX6_sort : MethodName := ⟨RX6, "sort", "(I)I"⟩
abbrev cX6_token : ByteArray := prog_8_method_14_code
def yX6_token : MethodName := ⟨RX6, "token", "()V"⟩
abbrev cX6_isWord : ByteArray := prog_8_method_15_code
def yX6_isWord : MethodName := ⟨RX6, "isWord", "(II)Z"⟩
abbrev cX6_hurdleWord : ByteArray := prog_8_method_16_code
def yX6_hurdleWord : MethodName := ⟨RX6, "hurdleWord", "()I"⟩
abbrev cX6_beastWord : ByteArray := prog_8_method_17_code
def yX6_beastWord : MethodName := ⟨RX6, "beastWord", "()I"⟩
abbrev cX6_numberHere : ByteArray := prog_8_method_18_code
def yX6_numberHere : MethodName := ⟨RX6, "numberHere", "(II)I"⟩
abbrev cX6_number : ByteArray := prog_8_method_19_code
def yX6_number : MethodName := ⟨RX6, "number", "(II)I"⟩
abbrev cX6_readsSign : ByteArray := prog_8_method_20_code
def yX6_readsSign : MethodName := ⟨RX6, "readsSign", "()Z"⟩
abbrev cX6_way : ByteArray := prog_8_method_21_code
def yX6_way : MethodName := ⟨RX6, "way", "()I"⟩
abbrev cX6_readsLaw : ByteArray := prog_8_method_22_code
def yX6_readsLaw : MethodName := ⟨RX6, "readsLaw", "()Z"⟩
abbrev cX6_readsHurdle : ByteArray := prog_8_method_23_code
def yX6_readsHurdle : MethodName := ⟨RX6, "readsHurdle", "()Z"⟩
abbrev cX6_readsBeast : ByteArray := prog_8_method_24_code
def yX6_readsBeast : MethodName := ⟨RX6, "readsBeast", "()Z"⟩
abbrev cX6_readsAll : ByteArray := prog_8_method_25_code
def yX6_readsAll : MethodName := ⟨RX6, "readsAll", "()Z"⟩
abbrev cX6_fold : ByteArray := prog_8_method_26_code
def yX6_fold : MethodName := ⟨RX6, "fold", "()I"⟩
abbrev cX6_fault : ByteArray := prog_8_method_27_code
def yX6_fault : MethodName := ⟨RX6, "fault", "()I"⟩
abbrev cX6_isBeast : ByteArray := prog_8_method_28_code
def yX6_isBeast : MethodName := ⟨RX6, "isBeast", "(I)Z"⟩
abbrev cX6_isPen : ByteArray := prog_8_method_29_code
def yX6_isPen : MethodName := ⟨RX6, "isPen", "(I)Z"⟩
abbrev cX6_areStands : ByteArray := prog_8_method_30_code
def yX6_areStands : MethodName := ⟨RX6, "areStands", "(I)Z"⟩
abbrev cX6_sortOf : ByteArray := prog_8_method_31_code
def yX6_sortOf : MethodName := ⟨RX6, "sortOf", "(I)I"⟩
abbrev cX6_push : ByteArray := prog_8_method_32_code
def yX6_push : MethodName := ⟨RX6, "push", "(II)Z"⟩
abbrev cX6_turn : ByteArray := prog_8_method_33_code
def yX6_turn : MethodName := ⟨RX6, "turn", "(II)V"⟩
abbrev cX6_pass : ByteArray := prog_8_method_34_code
def yX6_pass : MethodName := ⟨RX6, "pass", "(III)I"⟩
abbrev cX6_go : ByteArray := prog_8_method_35_code
def yX6_go : MethodName := ⟨RX6, "go", "(II)I"⟩
abbrev cX6_inPens : ByteArray := prog_8_method_36_code
def yX6_inPens : MethodName := ⟨RX6, "inPens", "()I"⟩
abbrev cX6_keepPast : ByteArray := prog_8_method_37_code
def yX6_keepPast : MethodName := ⟨RX6, "keepPast", "()V"⟩
abbrev cX6_runOne : ByteArray := prog_8_method_38_code
def yX6_runOne : MethodName := ⟨RX6, "runOne", "(I)I"⟩
abbrev cX6_run : ByteArray := prog_8_method_39_code
def yX6_run : MethodName := ⟨RX6, "run", "(I)I"⟩
abbrev cX6_refused : ByteArray := prog_8_method_40_code
def yX6_refused : MethodName := ⟨RX6, "refused", "(III)I"⟩
abbrev cX6_areBeasts : ByteArray := prog_8_method_41_code
def yX6_areBeasts : MethodName := ⟨RX6, "areBeasts", "(II)Z"⟩
abbrev cX6_arePairs : ByteArray := prog_8_method_42_code
def yX6_arePairs : MethodName := ⟨RX6, "arePairs", "(II)Z"⟩
abbrev cX6_runs : ByteArray := prog_8_method_43_code
def yX6_runs : MethodName := ⟨RX6, "runs", "(III)I"⟩
abbrev cX6_dawn : ByteArray := prog_8_method_44_code
def yX6_dawn : MethodName := ⟨RX6, "dawn", "(I)I"⟩
abbrev cX6_undo : ByteArray := prog_8_method_45_code
def yX6_undo : MethodName := ⟨RX6, "undo", "()I"⟩
abbrev cX6_hurdle : ByteArray := prog_8_method_46_code
def yX6_hurdle : MethodName := ⟨RX6, "hurdle", "(II)I"⟩
abbrev cX6_heavy : ByteArray := prog_8_method_47_code
def yX6_heavy : MethodName := ⟨RX6, "heavy", "(I)I"⟩
abbrev cX6_pen : ByteArray := prog_8_method_48_code
def yX6_pen : MethodName := ⟨RX6, "pen", "(II)I"⟩
abbrev cX6_copyRow : ByteArray := prog_8_method_49_code
def yX6_copyRow : MethodName := ⟨RX6, "copyRow", "(II)V"⟩
abbrev cX6_comeSo : ByteArray := prog_8_method_50_code
def yX6_comeSo : MethodName := ⟨RX6, "comeSo", "(II)Z"⟩
abbrev cX6_refusedPairs : ByteArray := prog_8_method_51_code
def yX6_refusedPairs : MethodName := ⟨RX6, "refusedPairs", "(III)I"⟩
abbrev cX6_stood : ByteArray := prog_8_method_52_code
def yX6_stood : MethodName := ⟨RX6, "stood", "(IIII)I"⟩
abbrev cX6_wouldCome : ByteArray := prog_8_method_53_code
def yX6_wouldCome : MethodName := ⟨RX6, "wouldCome", "(I)I"⟩
abbrev cX6_ahead : ByteArray := prog_8_method_54_code
def yX6_ahead : MethodName := ⟨RX6, "ahead", "(III)I"⟩
abbrev cX6_number_ : ByteArray := prog_8_method_55_code
def yX6_number_ : MethodName := ⟨RX6, "number", "()I"⟩
abbrev cX6_takeOut : ByteArray := prog_8_method_56_code
def yX6_takeOut : MethodName := ⟨RX6, "takeOut", "(I)V"⟩
abbrev cX6_put : ByteArray := prog_8_method_57_code
def yX6_put : MethodName := ⟨RX6, "put", "(II)V"⟩
abbrev cX6_layFars : ByteArray := prog_8_method_58_code
def yX6_layFars : MethodName := ⟨RX6, "layFars", "()V"⟩
abbrev cX6_after : ByteArray := prog_8_method_59_code
def yX6_after : MethodName := ⟨RX6, "after", "(II)I"⟩
abbrev cX6_soonest : ByteArray := prog_8_method_60_code
def yX6_soonest : MethodName := ⟨RX6, "soonest", "(I)I"⟩
abbrev cX6_leads : ByteArray := prog_8_method_61_code
def yX6_leads : MethodName := ⟨RX6, "leads", "(II)Z"⟩
abbrev cX6_layWays : ByteArray := prog_8_method_62_code
def yX6_layWays : MethodName := ⟨RX6, "layWays", "(II)V"⟩
abbrev cX6_reached : ByteArray := prog_8_method_63_code
def yX6_reached : MethodName := ⟨RX6, "reached", "(II)I"⟩
abbrev cX6_comes : ByteArray := prog_8_method_64_code
def yX6_comes : MethodName := ⟨RX6, "comes", "()I"⟩
abbrev cX6_round : ByteArray := prog_8_method_65_code
def yX6_round : MethodName := ⟨RX6, "round", "(II)I"⟩
abbrev cX6_sticks : ByteArray := prog_8_method_66_code
def yX6_sticks : MethodName := ⟨RX6, "sticks", "(III)I"⟩
abbrev cX6_layPens : ByteArray := prog_8_method_67_code
def yX6_layPens : MethodName := ⟨RX6, "layPens", "(II)V"⟩
abbrev cX6_theft : ByteArray := prog_8_method_68_code
def yX6_theft : MethodName := ⟨RX6, "theft", "(IIII)I"⟩
abbrev cX6_mixed : ByteArray := prog_8_method_69_code
def yX6_mixed : MethodName := ⟨RX6, "mixed", "(III)I"⟩
abbrev cX6_image : ByteArray := prog_8_method_70_code
def yX6_image : MethodName := ⟨RX6, "image", "(I)I"⟩
abbrev cX6_restore : ByteArray := prog_8_method_71_code
def yX6_restore : MethodName := ⟨RX6, "restore", "(I)I"⟩
abbrev cX6_kind : ByteArray := prog_8_method_72_code
def yX6_kind : MethodName := ⟨RX6, "kind", "(I)I"⟩
abbrev cX6_isKind : ByteArray := prog_8_method_73_code
def yX6_isKind : MethodName := ⟨RX6, "isKind", "(II)Z"⟩
abbrev cX6_as : ByteArray := prog_8_method_74_code
def yX6_as : MethodName := ⟨RX6, "as", "(II)I"⟩
abbrev cX6_leave : ByteArray := prog_8_method_75_code
def yX6_leave : MethodName := ⟨RX6, "leave", "(I)V"⟩
abbrev cX6_heavyBody : ByteArray := prog_8_method_76_code
def yX6_heavyBody : MethodName := ⟨RX6, "heavyBody", "(I)I"⟩
abbrev cX6_numberBody : ByteArray := prog_8_method_77_code
def yX6_numberBody : MethodName := ⟨RX6, "numberBody", "(I)I"⟩
abbrev cX6_penBody : ByteArray := prog_8_method_78_code
def yX6_penBody : MethodName := ⟨RX6, "penBody", "(I)I"⟩
abbrev cX6_markOfEwe : ByteArray := prog_8_method_79_code
def yX6_markOfEwe : MethodName := ⟨RX6, "markOfEwe", "(I)I"⟩
abbrev cX6_eweBody : ByteArray := prog_8_method_80_code
def yX6_eweBody : MethodName := ⟨RX6, "eweBody", "(I)I"⟩
abbrev cX6_blindBody : ByteArray := prog_8_method_81_code
def yX6_blindBody : MethodName := ⟨RX6, "blindBody", "(I)I"⟩
abbrev cX6_sizeOfBlind : ByteArray := prog_8_method_82_code
def yX6_sizeOfBlind : MethodName := ⟨RX6, "sizeOfBlind", "(I)I"⟩
abbrev cX6_sizeOfEwe : ByteArray := prog_8_method_83_code
def yX6_sizeOfEwe : MethodName := ⟨RX6, "sizeOfEwe", "(I)I"⟩
abbrev cX6_markOfBlind : ByteArray := prog_8_method_84_code
def yX6_markOfBlind : MethodName := ⟨RX6, "markOfBlind", "(I)I"⟩
abbrev cX6_ask : ByteArray := prog_8_method_85_code
def yX6_ask : MethodName := ⟨RX6, "ask", "(II)I"⟩
abbrev cX6_trace : ByteArray := prog_8_method_86_code
def yX6_trace : MethodName := ⟨RX6, "trace", "(I)I"⟩
abbrev cX6_count : ByteArray := prog_8_method_87_code
def yX6_count : MethodName := ⟨RX6, "count", "(I)I"⟩
abbrev cX6_status : ByteArray := prog_8_method_88_code
def yX6_status : MethodName := ⟨RX6, "status", "()I"⟩
def RJx145de : String := "java/io/Serializable"
def TJx145de : u_T := fun k => match k with
  | _ => ("", "", "", false)
def tyJx145de : Nat → FieldType := fun k => match k with
  | _ => .int
theorem nmJx145de : ∀ a, a < 0 → ∀ b, b < 0 → a ≠ b → (TJx145de a).2.1 ≠ (TJx145de b).2.1 := by decide +kernel
theorem tyJx145de_ok : ∀ k, k < 0 → parseFieldDescriptor (TJx145de k).2.2.1 = some (tyJx145de k) := by decide +kernel
def RJx9f9b0 : String := "java/lang/CharSequence"
def TJx9f9b0 : u_T := fun k => match k with
  | _ => ("", "", "", false)
def tyJx9f9b0 : Nat → FieldType := fun k => match k with
  | _ => .int
theorem nmJx9f9b0 : ∀ a, a < 0 → ∀ b, b < 0 → a ≠ b → (TJx9f9b0 a).2.1 ≠ (TJx9f9b0 b).2.1 := by decide +kernel
theorem tyJx9f9b0_ok : ∀ k, k < 0 → parseFieldDescriptor (TJx9f9b0 k).2.2.1 = some (tyJx9f9b0 k) := by decide +kernel
def RJxb160c : String := "java/lang/Comparable"
def TJxb160c : u_T := fun k => match k with
  | _ => ("", "", "", false)
def tyJxb160c : Nat → FieldType := fun k => match k with
  | _ => .int
theorem nmJxb160c : ∀ a, a < 0 → ∀ b, b < 0 → a ≠ b → (TJxb160c a).2.1 ≠ (TJxb160c b).2.1 := by decide +kernel
theorem tyJxb160c_ok : ∀ k, k < 0 → parseFieldDescriptor (TJxb160c k).2.2.1 = some (tyJxb160c k) := by decide +kernel
def RJ13 : String := "java/lang/Long"
def TJ13 : u_T := fun k => match k with
  | _ => ("", "", "", false)
def tyJ13 : Nat → FieldType := fun k => match k with
  | _ => .int
theorem nmJ13 : ∀ a, a < 0 → ∀ b, b < 0 → a ≠ b → (TJ13 a).2.1 ≠ (TJ13 b).2.1 := by decide +kernel
theorem tyJ13_ok : ∀ k, k < 0 → parseFieldDescriptor (TJ13 k).2.2.1 = some (tyJ13 k) := by decide +kernel
abbrev cJ13_bitCount_95d88 : ByteArray := prog_9_method_50_code
def yJ13_bitCount_95d88 : MethodName := ⟨RJ13, "bitCount", "(J)I"⟩
def RJ0 : String := "java/lang/String"
def TJ0 : u_T := fun k => match k with
  | _ => ("", "", "", false)
def tyJ0 : Nat → FieldType := fun k => match k with
  | _ => .int
theorem nmJ0 : ∀ a, a < 0 → ∀ b, b < 0 → a ≠ b → (TJ0 a).2.1 ≠ (TJ0 b).2.1 := by decide +kernel
theorem tyJ0_ok : ∀ k, k < 0 → parseFieldDescriptor (TJ0 k).2.2.1 = some (tyJ0 k) := by decide +kernel
abbrev cJ0_length_8abf5 : ByteArray := prog_10_method_54_code
def yJ0_length_8abf5 : MethodName := ⟨RJ0, "length", "()I"⟩
abbrev cJ0_charAt_5068e : ByteArray := prog_10_method_56_code
def yJ0_charAt_5068e : MethodName := ⟨RJ0, "charAt", "(I)C"⟩
abbrev cJ0_coder_7d493 : ByteArray := prog_10_method_152_code
def yJ0_coder_7d493 : MethodName := ⟨RJ0, "coder", "()B"⟩
abbrev cJ0_isLatin1_aae02 : ByteArray := prog_10_method_154_code
def yJ0_isLatin1_aae02 : MethodName := ⟨RJ0, "isLatin1", "()Z"⟩
abbrev cJ0_checkIndex_df160 : ByteArray := prog_10_method_155_code
def yJ0_checkIndex_df160 : MethodName := ⟨RJ0, "checkIndex", "(II)V"⟩
def RJ1 : String := "java/lang/StringLatin1"
def TJ1 : u_T := fun k => match k with
  | _ => ("", "", "", false)
def tyJ1 : Nat → FieldType := fun k => match k with
  | _ => .int
theorem nmJ1 : ∀ a, a < 0 → ∀ b, b < 0 → a ≠ b → (TJ1 a).2.1 ≠ (TJ1 b).2.1 := by decide +kernel
theorem tyJ1_ok : ∀ k, k < 0 → parseFieldDescriptor (TJ1 k).2.2.1 = some (tyJ1 k) := by decide +kernel
abbrev cJ1_charAt_3b067 : ByteArray := prog_11_method_2_code
def yJ1_charAt_3b067 : MethodName := ⟨RJ1, "charAt", "([BI)C"⟩
def RJ2 : String := "java/lang/StringUTF16"
def TJ2 : u_T := fun k => match k with
  | _ => ("", "", "", false)
def tyJ2 : Nat → FieldType := fun k => match k with
  | _ => .int
theorem nmJ2 : ∀ a, a < 0 → ∀ b, b < 0 → a ≠ b → (TJ2 a).2.1 ≠ (TJ2 b).2.1 := by decide +kernel
theorem tyJ2_ok : ∀ k, k < 0 → parseFieldDescriptor (TJ2 k).2.2.1 = some (tyJ2 k) := by decide +kernel
abbrev cJ2_getChar_3b067 : ByteArray := prog_12_method_5_code
def yJ2_getChar_3b067 : MethodName := ⟨RJ2, "getChar", "([BI)C"⟩
abbrev cJ2_length_9d52b : ByteArray := prog_12_method_6_code
def yJ2_length_9d52b : MethodName := ⟨RJ2, "length", "([B)I"⟩
abbrev cJ2_charAt_3b067 : ByteArray := prog_12_method_83_code
def yJ2_charAt_3b067 : MethodName := ⟨RJ2, "charAt", "([BI)C"⟩
abbrev cJ2_checkIndex_2214a : ByteArray := prog_12_method_91_code
def yJ2_checkIndex_2214a : MethodName := ⟨RJ2, "checkIndex", "(I[B)V"⟩
def RJ10 : String := "java/lang/System"
def TJ10 : u_T := fun k => match k with
  | _ => ("", "", "", false)
def tyJ10 : Nat → FieldType := fun k => match k with
  | _ => .int
theorem nmJ10 : ∀ a, a < 0 → ∀ b, b < 0 → a ≠ b → (TJ10 a).2.1 ≠ (TJ10 b).2.1 := by decide +kernel
theorem tyJ10_ok : ∀ k, k < 0 → parseFieldDescriptor (TJ10 k).2.2.1 = some (tyJ10 k) := by decide +kernel
def RJxfd54e : String := "java/lang/constant/Constable"
def TJxfd54e : u_T := fun k => match k with
  | _ => ("", "", "", false)
def tyJxfd54e : Nat → FieldType := fun k => match k with
  | _ => .int
theorem nmJxfd54e : ∀ a, a < 0 → ∀ b, b < 0 → a ≠ b → (TJxfd54e a).2.1 ≠ (TJxfd54e b).2.1 := by decide +kernel
theorem tyJxfd54e_ok : ∀ k, k < 0 → parseFieldDescriptor (TJxfd54e k).2.2.1 = some (tyJxfd54e k) := by decide +kernel
def RJx3cf43 : String := "java/lang/constant/ConstantDesc"
def TJx3cf43 : u_T := fun k => match k with
  | _ => ("", "", "", false)
def tyJx3cf43 : Nat → FieldType := fun k => match k with
  | _ => .int
theorem nmJx3cf43 : ∀ a, a < 0 → ∀ b, b < 0 → a ≠ b → (TJx3cf43 a).2.1 ≠ (TJx3cf43 b).2.1 := by decide +kernel
theorem tyJx3cf43_ok : ∀ k, k < 0 → parseFieldDescriptor (TJx3cf43 k).2.2.1 = some (tyJx3cf43 k) := by decide +kernel
def RJ7 : String := "java/util/Arrays"
def TJ7 : u_T := fun k => match k with
  | _ => ("", "", "", false)
def tyJ7 : Nat → FieldType := fun k => match k with
  | _ => .int
theorem nmJ7 : ∀ a, a < 0 → ∀ b, b < 0 → a ≠ b → (TJ7 a).2.1 ≠ (TJ7 b).2.1 := by decide +kernel
theorem tyJ7_ok : ∀ k, k < 0 → parseFieldDescriptor (TJ7 k).2.2.1 = some (tyJ7 k) := by decide +kernel
abbrev cJ7_fill_53178 : ByteArray := prog_14_method_103_code
def yJ7_fill_53178 : MethodName := ⟨RJ7, "fill", "([II)V"⟩
def RJ3 : String := "jdk/internal/util/Preconditions"
def TJ3 : u_T := fun k => match k with
  | _ => ("", "", "", false)
def tyJ3 : Nat → FieldType := fun k => match k with
  | _ => .int
theorem nmJ3 : ∀ a, a < 0 → ∀ b, b < 0 → a ≠ b → (TJ3 a).2.1 ≠ (TJ3 b).2.1 := by decide +kernel
theorem tyJ3_ok : ∀ k, k < 0 → parseFieldDescriptor (TJ3 k).2.2.1 = some (tyJ3 k) := by decide +kernel
abbrev cJ3_checkIndex_8e157 : ByteArray := prog_15_method_11_code
def yJ3_checkIndex_8e157 : MethodName := ⟨RJ3, "checkIndex", "(IILjava/util/function/BiFunction;)I"⟩
def RL : String := "FoldGatesLaw"
abbrev cL_law : ByteArray := code
def yL_law : MethodName := ⟨RL, "law", "([I)Z"⟩
abbrev vwCl : List vw_C := [(RX0, TX0, 9), (RX1, TX1, 3), (RX2, TX2, 9), (RX3, TX3, 5), (RX4, TX4, 7), (RX5, TX5, 14), (RX6, TX6, 26)]
def gWS : List Cond := lw_tbl.filter goodWord
theorem gin0 {w : Cond} (h : w ∈ k2_sels lw_privs) (hg : goodWord w = true) : w ∈ gWS := List.mem_filter.mpr ⟨List.mem_append_left _ h, hg⟩
theorem gin {w : Cond} (h : w ∈ tables_1) (hg : goodWord w = true) : w ∈ gWS := List.mem_filter.mpr ⟨List.mem_append_right _ h, hg⟩
theorem gin1 {w : Cond} (i : Nat) (h : tables_1_1[i]? = some w) (hg : goodWord w = true) : w ∈ gWS := gin (List.mem_append_left _ (List.mem_of_getElem? h)) hg
theorem gin2 {w : Cond} (i : Nat) (h : tables_1_2[i]? = some w) (hg : goodWord w = true) : w ∈ gWS := gin (List.mem_append_right _ (List.mem_append_left _ (List.mem_of_getElem? h))) hg
theorem gin3 {w : Cond} (i : Nat) (h : tables_1_3[i]? = some w) (hg : goodWord w = true) : w ∈ gWS := gin (List.mem_append_right _ (List.mem_append_right _ (List.mem_append_left _ (List.mem_of_getElem? h)))) hg
theorem gin4 {w : Cond} (i : Nat) (h : tables_1_4[i]? = some w) (hg : goodWord w = true) : w ∈ gWS := gin (List.mem_append_right _ (List.mem_append_right _ (List.mem_append_right _ (List.mem_append_left _ (List.mem_of_getElem? h))))) hg
theorem gin5 {w : Cond} (i : Nat) (h : tables_1_5[i]? = some w) (hg : goodWord w = true) : w ∈ gWS := gin (List.mem_append_right _ (List.mem_append_right _ (List.mem_append_right _ (List.mem_append_right _ (List.mem_append_left _ (List.mem_of_getElem? h)))))) hg
theorem gin6 {w : Cond} (i : Nat) (h : tables_1_6[i]? = some w) (hg : goodWord w = true) : w ∈ gWS := gin (List.mem_append_right _ (List.mem_append_right _ (List.mem_append_right _ (List.mem_append_right _ (List.mem_append_right _ (List.mem_of_getElem? h)))))) hg
theorem wd_1_0 : (Jvm.Cond.initialized "FoldGatesLaw") ∈ gWS := gin1 0 rfl rfl
theorem wd_1_1 : (Jvm.Cond.initialized "FoldGates") ∈ gWS := gin1 1 rfl rfl
theorem wd_1_2 : (Jvm.Cond.initialized "FoldGates$Tape") ∈ gWS := gin1 2 rfl rfl
theorem wd_1_3 : (Jvm.Cond.initialized "FoldGates$Plan") ∈ gWS := gin1 3 rfl rfl
theorem wd_1_4 : (Jvm.Cond.initialized "FoldGates$Standing") ∈ gWS := gin1 4 rfl rfl
theorem wd_1_5 : (Jvm.Cond.initialized "FoldGates$Row") ∈ gWS := gin1 5 rfl rfl
theorem wd_1_6 : (Jvm.Cond.initialized "FoldGatesModel") ∈ gWS := gin1 6 rfl rfl
theorem wd_1_7 : (Jvm.Cond.initialized "java/util/Arrays") ∈ gWS := gin1 7 rfl rfl
theorem wd_1_8 : (Jvm.Cond.initialized "java/lang/System") ∈ gWS := gin1 8 rfl rfl
theorem wd_1_9 : (Jvm.Cond.initialized "java/lang/String") ∈ gWS := gin1 9 rfl rfl
theorem wd_1_10 : (Jvm.Cond.initialized "java/lang/StringLatin1") ∈ gWS := gin1 10 rfl rfl
theorem wd_1_11 : (Jvm.Cond.initialized "jdk/internal/util/Preconditions") ∈ gWS := gin1 11 rfl rfl
theorem wd_1_12 : (Jvm.Cond.initialized "java/lang/StringUTF16") ∈ gWS := gin1 12 rfl rfl
theorem wd_1_13 : (Jvm.Cond.initialized "FoldGates$Search") ∈ gWS := gin1 13 rfl rfl
theorem wd_1_14 : (Jvm.Cond.initialized "java/lang/Long") ∈ gWS := gin1 14 rfl rfl
theorem wd_1_15 : (Jvm.Cond.classLink "FoldGatesLaw" (7 : Nat) "FoldGates") ∈ gWS := gin1 15 rfl rfl
theorem wd_1_16 : (Jvm.Cond.instantiable "FoldGates" (14 : Nat)) ∈ gWS := gin1 16 rfl rfl
theorem wd_1_17 : (Jvm.Cond.methodLink "FoldGatesLaw" (9 : Nat) ({ cls := "FoldGates", name := "<init>", desc := "()V" } : Jvm.MethodName)) ∈ gWS := gin1 17 rfl rfl
theorem wd_1_18 : (Jvm.Cond.instanceMethod ({ cls := "FoldGates", name := "<init>", desc := "()V" } : Jvm.MethodName)) ∈ gWS := gin1 18 rfl rfl
theorem wd_1_19 : (Jvm.Cond.code ({ cls := "FoldGates", name := "<init>", desc := "()V" } : Jvm.MethodName) prog_1_method_1_code (3 : Nat) (Option.none : Option Jvm.ClassFile.FieldType)) ∈ gWS := gin1 19 rfl rfl
theorem wd_1_20 : (Jvm.Cond.methodLink "FoldGates" (3 : Nat) ({ cls := "java/lang/Object", name := "<init>", desc := "()V" } : Jvm.MethodName)) ∈ gWS := gin1 20 rfl rfl
theorem wd_1_21 : (Jvm.Cond.instanceMethod ({ cls := "java/lang/Object", name := "<init>", desc := "()V" } : Jvm.MethodName)) ∈ gWS := gin1 21 rfl rfl
theorem wd_1_22 : (Jvm.Cond.code ({ cls := "java/lang/Object", name := "<init>", desc := "()V" } : Jvm.MethodName) object_method_1_code (1 : Nat) (Option.none : Option Jvm.ClassFile.FieldType)) ∈ gWS := gin1 22 rfl rfl
theorem wd_1_23 : (Jvm.Cond.classLink "FoldGates" (9 : Nat) "FoldGates$Row") ∈ gWS := gin1 23 rfl rfl
theorem wd_1_25 : (Jvm.Cond.classLink "FoldGates" (15 : Nat) "FoldGates$Tape") ∈ gWS := gin1 25 rfl rfl
theorem wd_1_26 : (Jvm.Cond.instantiable "FoldGates$Tape" (7 : Nat)) ∈ gWS := gin1 26 rfl rfl
theorem wd_1_28 : (Jvm.Cond.instanceMethod ({ cls := "FoldGates$Tape", name := "<init>", desc := "()V" } : Jvm.MethodName)) ∈ gWS := gin1 28 rfl rfl
theorem wd_1_29 : (Jvm.Cond.code ({ cls := "FoldGates$Tape", name := "<init>", desc := "()V" } : Jvm.MethodName) prog_6_method_1_code (1 : Nat) (Option.none : Option Jvm.ClassFile.FieldType)) ∈ gWS := gin1 29 rfl rfl
theorem wd_1_30 : (Jvm.Cond.methodLink "FoldGates$Tape" (3 : Nat) ({ cls := "java/lang/Object", name := "<init>", desc := "()V" } : Jvm.MethodName)) ∈ gWS := gin1 30 rfl rfl
theorem wd_1_31 : (Jvm.Cond.fieldLink "FoldGates$Tape" (9 : Nat) "FoldGates$Tape" "bytes" "[B") ∈ gWS := gin1 31 rfl rfl
theorem wd_1_32 : (Jvm.Cond.fieldLink "FoldGates$Tape" (15 : Nat) "FoldGates$Tape" "length" "I") ∈ gWS := gin1 32 rfl rfl
theorem wd_1_33 : (Jvm.Cond.fieldLink "FoldGates" (122 : Nat) "FoldGates$Tape" "length" "I") ∈ gWS := gin1 33 rfl rfl
theorem wd_1_34 : (Jvm.Cond.fieldLink "FoldGates$Tape" (19 : Nat) "FoldGates$Tape" "start" "I") ∈ gWS := gin1 34 rfl rfl
theorem wd_1_35 : (Jvm.Cond.fieldLink "FoldGates" (138 : Nat) "FoldGates$Tape" "start" "I") ∈ gWS := gin1 35 rfl rfl
theorem wd_1_36 : (Jvm.Cond.fieldLink "FoldGates$Tape" (22 : Nat) "FoldGates$Tape" "end" "I") ∈ gWS := gin1 36 rfl rfl
theorem wd_1_37 : (Jvm.Cond.fieldLink "FoldGates$Tape" (25 : Nat) "FoldGates$Tape" "token" "I") ∈ gWS := gin1 37 rfl rfl
theorem wd_1_38 : (Jvm.Cond.fieldLink "FoldGates$Tape" (28 : Nat) "FoldGates$Tape" "value" "I") ∈ gWS := gin1 38 rfl rfl
theorem wd_1_39 : (Jvm.Cond.fieldLink "FoldGates$Tape" (31 : Nat) "FoldGates$Tape" "faultNumber" "I") ∈ gWS := gin1 39 rfl rfl
theorem wd_1_40 : (Jvm.Cond.fieldLink "FoldGates" (134 : Nat) "FoldGates$Tape" "faultNumber" "I") ∈ gWS := gin1 40 rfl rfl
theorem wd_1_41 : (Jvm.Cond.laysFinal "FoldGates$Tape" "FoldGates$Tape" "bytes" "[B") ∈ gWS := gin1 41 rfl rfl
theorem wd_1_43 : (Jvm.Cond.lays "FoldGates$Tape" "FoldGates$Tape" "length" "I") ∈ gWS := gin1 43 rfl rfl
theorem wd_1_45 : (Jvm.Cond.lays "FoldGates$Tape" "FoldGates$Tape" "start" "I") ∈ gWS := gin1 45 rfl rfl
theorem wd_1_47 : (Jvm.Cond.lays "FoldGates$Tape" "FoldGates$Tape" "end" "I") ∈ gWS := gin1 47 rfl rfl
theorem wd_1_49 : (Jvm.Cond.lays "FoldGates$Tape" "FoldGates$Tape" "token" "I") ∈ gWS := gin1 49 rfl rfl
theorem wd_1_51 : (Jvm.Cond.lays "FoldGates$Tape" "FoldGates$Tape" "value" "I") ∈ gWS := gin1 51 rfl rfl
theorem wd_1_53 : (Jvm.Cond.lays "FoldGates$Tape" "FoldGates$Tape" "faultNumber" "I") ∈ gWS := gin1 53 rfl rfl
theorem wd_1_56 : (Jvm.Cond.arrayClass Jvm.ClassFile.FieldType.byte) ∈ gWS := gin1 56 rfl rfl
theorem wd_1_57 : (Jvm.Cond.classLink "FoldGates" (22 : Nat) "FoldGates$Standing") ∈ gWS := gin1 57 rfl rfl
theorem wd_1_59 : (Jvm.Cond.classLink "FoldGates" (55 : Nat) "FoldGates$Plan") ∈ gWS := gin1 59 rfl rfl
theorem wd_1_60 : (Jvm.Cond.instantiable "FoldGates$Plan" (9 : Nat)) ∈ gWS := gin1 60 rfl rfl
theorem wd_1_62 : (Jvm.Cond.instanceMethod ({ cls := "FoldGates$Plan", name := "<init>", desc := "()V" } : Jvm.MethodName)) ∈ gWS := gin1 62 rfl rfl
theorem wd_1_63 : (Jvm.Cond.code ({ cls := "FoldGates$Plan", name := "<init>", desc := "()V" } : Jvm.MethodName) prog_2_method_1_code (1 : Nat) (Option.none : Option Jvm.ClassFile.FieldType)) ∈ gWS := gin1 63 rfl rfl
theorem wd_1_64 : (Jvm.Cond.methodLink "FoldGates$Plan" (3 : Nat) ({ cls := "java/lang/Object", name := "<init>", desc := "()V" } : Jvm.MethodName)) ∈ gWS := gin1 64 rfl rfl
theorem wd_1_65 : (Jvm.Cond.fieldLink "FoldGates$Plan" (9 : Nat) "FoldGates$Plan" "pens" "I") ∈ gWS := gin1 65 rfl rfl
theorem wd_1_66 : (Jvm.Cond.fieldLink "FoldGates$Tape" (64 : Nat) "FoldGates$Plan" "pens" "I") ∈ gWS := gin1 66 rfl rfl
theorem wd_1_67 : (Jvm.Cond.fieldLink "FoldGates" (259 : Nat) "FoldGates$Plan" "pens" "I") ∈ gWS := gin1 67 rfl rfl
theorem wd_1_68 : (Jvm.Cond.fieldLink "FoldGates$Plan" (15 : Nat) "FoldGates$Plan" "hurdles" "I") ∈ gWS := gin1 68 rfl rfl
theorem wd_1_69 : (Jvm.Cond.fieldLink "FoldGates$Tape" (76 : Nat) "FoldGates$Plan" "hurdles" "I") ∈ gWS := gin1 69 rfl rfl
theorem wd_1_70 : (Jvm.Cond.fieldLink "FoldGates$Standing" (47 : Nat) "FoldGates$Plan" "hurdles" "I") ∈ gWS := gin1 70 rfl rfl
theorem wd_1_71 : (Jvm.Cond.fieldLink "FoldGates" (147 : Nat) "FoldGates$Plan" "hurdles" "I") ∈ gWS := gin1 71 rfl rfl
theorem wd_1_72 : (Jvm.Cond.fieldLink "FoldGates$Plan" (18 : Nat) "FoldGates$Plan" "beasts" "I") ∈ gWS := gin1 72 rfl rfl
theorem wd_1_73 : (Jvm.Cond.fieldLink "FoldGates$Search" (84 : Nat) "FoldGates$Plan" "beasts" "I") ∈ gWS := gin1 73 rfl rfl
theorem wd_1_74 : (Jvm.Cond.fieldLink "FoldGates$Tape" (103 : Nat) "FoldGates$Plan" "beasts" "I") ∈ gWS := gin1 74 rfl rfl
theorem wd_1_75 : (Jvm.Cond.fieldLink "FoldGates" (279 : Nat) "FoldGates$Plan" "beasts" "I") ∈ gWS := gin1 75 rfl rfl
theorem wd_1_76 : (Jvm.Cond.fieldLink "FoldGates$Plan" (21 : Nat) "FoldGates$Plan" "hurdleSort" "[I") ∈ gWS := gin1 76 rfl rfl
theorem wd_1_77 : (Jvm.Cond.fieldLink "FoldGates$Tape" (83 : Nat) "FoldGates$Plan" "hurdleSort" "[I") ∈ gWS := gin1 77 rfl rfl
theorem wd_1_78 : (Jvm.Cond.fieldLink "FoldGates$Standing" (78 : Nat) "FoldGates$Plan" "hurdleSort" "[I") ∈ gWS := gin1 78 rfl rfl
theorem wd_1_79 : (Jvm.Cond.fieldLink "FoldGates" (197 : Nat) "FoldGates$Plan" "hurdleSort" "[I") ∈ gWS := gin1 79 rfl rfl
theorem wd_1_80 : (Jvm.Cond.fieldLink "FoldGates$Plan" (25 : Nat) "FoldGates$Plan" "left" "[I") ∈ gWS := gin1 80 rfl rfl
theorem wd_1_81 : (Jvm.Cond.fieldLink "FoldGates$Tape" (89 : Nat) "FoldGates$Plan" "left" "[I") ∈ gWS := gin1 81 rfl rfl
theorem wd_1_82 : (Jvm.Cond.fieldLink "FoldGates$Standing" (54 : Nat) "FoldGates$Plan" "left" "[I") ∈ gWS := gin1 82 rfl rfl
theorem wd_1_83 : (Jvm.Cond.fieldLink "FoldGates" (188 : Nat) "FoldGates$Plan" "left" "[I") ∈ gWS := gin1 83 rfl rfl
theorem wd_1_84 : (Jvm.Cond.fieldLink "FoldGates$Plan" (28 : Nat) "FoldGates$Plan" "right" "[I") ∈ gWS := gin1 84 rfl rfl
theorem wd_1_85 : (Jvm.Cond.fieldLink "FoldGates$Tape" (92 : Nat) "FoldGates$Plan" "right" "[I") ∈ gWS := gin1 85 rfl rfl
theorem wd_1_86 : (Jvm.Cond.fieldLink "FoldGates$Standing" (57 : Nat) "FoldGates$Plan" "right" "[I") ∈ gWS := gin1 86 rfl rfl
theorem wd_1_87 : (Jvm.Cond.fieldLink "FoldGates" (191 : Nat) "FoldGates$Plan" "right" "[I") ∈ gWS := gin1 87 rfl rfl
theorem wd_1_88 : (Jvm.Cond.fieldLink "FoldGates$Plan" (31 : Nat) "FoldGates$Plan" "tie" "[I") ∈ gWS := gin1 88 rfl rfl
theorem wd_1_89 : (Jvm.Cond.fieldLink "FoldGates$Tape" (95 : Nat) "FoldGates$Plan" "tie" "[I") ∈ gWS := gin1 89 rfl rfl
theorem wd_1_90 : (Jvm.Cond.fieldLink "FoldGates$Standing" (75 : Nat) "FoldGates$Plan" "tie" "[I") ∈ gWS := gin1 90 rfl rfl
theorem wd_1_91 : (Jvm.Cond.fieldLink "FoldGates" (194 : Nat) "FoldGates$Plan" "tie" "[I") ∈ gWS := gin1 91 rfl rfl
theorem wd_1_92 : (Jvm.Cond.fieldLink "FoldGates$Plan" (34 : Nat) "FoldGates$Plan" "beastKind" "[I") ∈ gWS := gin1 92 rfl rfl
theorem wd_1_93 : (Jvm.Cond.fieldLink "FoldGates$Tape" (109 : Nat) "FoldGates$Plan" "beastKind" "[I") ∈ gWS := gin1 93 rfl rfl
theorem wd_1_94 : (Jvm.Cond.fieldLink "FoldGates$Plan" (37 : Nat) "FoldGates$Plan" "beastHeavy" "[I") ∈ gWS := gin1 94 rfl rfl
theorem wd_1_95 : (Jvm.Cond.fieldLink "FoldGates$Tape" (111 : Nat) "FoldGates$Plan" "beastHeavy" "[I") ∈ gWS := gin1 95 rfl rfl
theorem wd_1_96 : (Jvm.Cond.fieldLink "FoldGates" (206 : Nat) "FoldGates$Plan" "beastHeavy" "[I") ∈ gWS := gin1 96 rfl rfl
theorem wd_1_97 : (Jvm.Cond.lays "FoldGates$Plan" "FoldGates$Plan" "pens" "I") ∈ gWS := gin1 97 rfl rfl
theorem wd_1_99 : (Jvm.Cond.lays "FoldGates$Plan" "FoldGates$Plan" "hurdles" "I") ∈ gWS := gin1 99 rfl rfl
theorem wd_1_101 : (Jvm.Cond.lays "FoldGates$Plan" "FoldGates$Plan" "beasts" "I") ∈ gWS := gin1 101 rfl rfl
theorem wd_1_103 : (Jvm.Cond.laysFinal "FoldGates$Plan" "FoldGates$Plan" "hurdleSort" "[I") ∈ gWS := gin1 103 rfl rfl
theorem wd_1_105 : (Jvm.Cond.laysFinal "FoldGates$Plan" "FoldGates$Plan" "left" "[I") ∈ gWS := gin1 105 rfl rfl
theorem wd_1_107 : (Jvm.Cond.laysFinal "FoldGates$Plan" "FoldGates$Plan" "right" "[I") ∈ gWS := gin1 107 rfl rfl
theorem wd_1_109 : (Jvm.Cond.laysFinal "FoldGates$Plan" "FoldGates$Plan" "tie" "[I") ∈ gWS := gin1 109 rfl rfl
theorem wd_1_111 : (Jvm.Cond.laysFinal "FoldGates$Plan" "FoldGates$Plan" "beastKind" "[I") ∈ gWS := gin1 111 rfl rfl
theorem wd_1_113 : (Jvm.Cond.laysFinal "FoldGates$Plan" "FoldGates$Plan" "beastHeavy" "[I") ∈ gWS := gin1 113 rfl rfl
theorem wd_1_116 : (Jvm.Cond.arrayClass Jvm.ClassFile.FieldType.int) ∈ gWS := gin1 116 rfl rfl
theorem wd_1_117 : (Jvm.Cond.instantiable "FoldGates$Standing" (5 : Nat)) ∈ gWS := gin1 117 rfl rfl
theorem wd_1_118 : (Jvm.Cond.methodLink "FoldGates" (58 : Nat) ({ cls := "FoldGates$Standing", name := "<init>", desc := "(LFoldGates$Plan;)V" } : Jvm.MethodName)) ∈ gWS := gin1 118 rfl rfl
theorem wd_1_119 : (Jvm.Cond.instanceMethod ({ cls := "FoldGates$Standing", name := "<init>", desc := "(LFoldGates$Plan;)V" } : Jvm.MethodName)) ∈ gWS := gin1 119 rfl rfl
theorem wd_1_120 : (Jvm.Cond.code ({ cls := "FoldGates$Standing", name := "<init>", desc := "(LFoldGates$Plan;)V" } : Jvm.MethodName) prog_5_method_1_code (2 : Nat) (Option.none : Option Jvm.ClassFile.FieldType)) ∈ gWS := gin1 120 rfl rfl
theorem wd_1_121 : (Jvm.Cond.methodLink "FoldGates$Standing" (3 : Nat) ({ cls := "java/lang/Object", name := "<init>", desc := "()V" } : Jvm.MethodName)) ∈ gWS := gin1 121 rfl rfl
theorem wd_1_122 : (Jvm.Cond.fieldLink "FoldGates$Standing" (25 : Nat) "FoldGates$Standing" "plan" "LFoldGates$Plan;") ∈ gWS := gin1 122 rfl rfl
theorem wd_1_123 : (Jvm.Cond.fieldLink "FoldGates$Search" (40 : Nat) "FoldGates$Standing" "plan" "LFoldGates$Plan;") ∈ gWS := gin1 123 rfl rfl
theorem wd_1_124 : (Jvm.Cond.fieldLink "FoldGates" (180 : Nat) "FoldGates$Standing" "plan" "LFoldGates$Plan;") ∈ gWS := gin1 124 rfl rfl
theorem wd_1_125 : (Jvm.Cond.fieldLink "FoldGates$Standing" (9 : Nat) "FoldGates$Standing" "stands" "I") ∈ gWS := gin1 125 rfl rfl
theorem wd_1_126 : (Jvm.Cond.fieldLink "FoldGates" (174 : Nat) "FoldGates$Standing" "stands" "I") ∈ gWS := gin1 126 rfl rfl
theorem wd_1_127 : (Jvm.Cond.fieldLink "FoldGates$Standing" (15 : Nat) "FoldGates$Standing" "pushed" "[I") ∈ gWS := gin1 127 rfl rfl
theorem wd_1_128 : (Jvm.Cond.fieldLink "FoldGates" (203 : Nat) "FoldGates$Standing" "pushed" "[I") ∈ gWS := gin1 128 rfl rfl
theorem wd_1_129 : (Jvm.Cond.fieldLink "FoldGates$Standing" (19 : Nat) "FoldGates$Standing" "penCount" "[I") ∈ gWS := gin1 129 rfl rfl
theorem wd_1_130 : (Jvm.Cond.fieldLink "FoldGates" (215 : Nat) "FoldGates$Standing" "penCount" "[I") ∈ gWS := gin1 130 rfl rfl
theorem wd_1_131 : (Jvm.Cond.fieldLink "FoldGates$Standing" (22 : Nat) "FoldGates$Standing" "penHeavy" "[I") ∈ gWS := gin1 131 rfl rfl
theorem wd_1_132 : (Jvm.Cond.fieldLink "FoldGates" (218 : Nat) "FoldGates$Standing" "penHeavy" "[I") ∈ gWS := gin1 132 rfl rfl
theorem wd_1_133 : (Jvm.Cond.lays "FoldGates$Standing" "FoldGates$Standing" "plan" "LFoldGates$Plan;") ∈ gWS := gin1 133 rfl rfl
theorem wd_1_135 : (Jvm.Cond.lays "FoldGates$Standing" "FoldGates$Standing" "stands" "I") ∈ gWS := gin1 135 rfl rfl
theorem wd_1_137 : (Jvm.Cond.laysFinal "FoldGates$Standing" "FoldGates$Standing" "pushed" "[I") ∈ gWS := gin1 137 rfl rfl
theorem wd_1_139 : (Jvm.Cond.laysFinal "FoldGates$Standing" "FoldGates$Standing" "penCount" "[I") ∈ gWS := gin1 139 rfl rfl
theorem wd_1_141 : (Jvm.Cond.laysFinal "FoldGates$Standing" "FoldGates$Standing" "penHeavy" "[I") ∈ gWS := gin1 141 rfl rfl
theorem wd_1_144 : (Jvm.Cond.instantiable "FoldGates$Row" (3 : Nat)) ∈ gWS := gin1 144 rfl rfl
theorem wd_1_146 : (Jvm.Cond.instanceMethod ({ cls := "FoldGates$Row", name := "<init>", desc := "()V" } : Jvm.MethodName)) ∈ gWS := gin1 146 rfl rfl
theorem wd_1_147 : (Jvm.Cond.code ({ cls := "FoldGates$Row", name := "<init>", desc := "()V" } : Jvm.MethodName) prog_3_method_1_code (1 : Nat) (Option.none : Option Jvm.ClassFile.FieldType)) ∈ gWS := gin1 147 rfl rfl
theorem wd_1_148 : (Jvm.Cond.methodLink "FoldGates$Row" (3 : Nat) ({ cls := "java/lang/Object", name := "<init>", desc := "()V" } : Jvm.MethodName)) ∈ gWS := gin1 148 rfl rfl
theorem wd_1_149 : (Jvm.Cond.fieldLink "FoldGates$Row" (9 : Nat) "FoldGates$Row" "items" "[I") ∈ gWS := gin1 149 rfl rfl
theorem wd_1_150 : (Jvm.Cond.fieldLink "FoldGates" (107 : Nat) "FoldGates$Row" "items" "[I") ∈ gWS := gin1 150 rfl rfl
theorem wd_1_151 : (Jvm.Cond.fieldLink "FoldGates$Row" (15 : Nat) "FoldGates$Row" "lane" "I") ∈ gWS := gin1 151 rfl rfl
theorem wd_1_152 : (Jvm.Cond.fieldLink "FoldGates" (100 : Nat) "FoldGates$Row" "lane" "I") ∈ gWS := gin1 152 rfl rfl
theorem wd_1_153 : (Jvm.Cond.fieldLink "FoldGates$Row" (19 : Nat) "FoldGates$Row" "size" "I") ∈ gWS := gin1 153 rfl rfl
theorem wd_1_154 : (Jvm.Cond.fieldLink "FoldGates" (116 : Nat) "FoldGates$Row" "size" "I") ∈ gWS := gin1 154 rfl rfl
theorem wd_1_155 : (Jvm.Cond.laysFinal "FoldGates$Row" "FoldGates$Row" "items" "[I") ∈ gWS := gin1 155 rfl rfl
theorem wd_1_157 : (Jvm.Cond.lays "FoldGates$Row" "FoldGates$Row" "lane" "I") ∈ gWS := gin1 157 rfl rfl
theorem wd_1_159 : (Jvm.Cond.lays "FoldGates$Row" "FoldGates$Row" "size" "I") ∈ gWS := gin1 159 rfl rfl
theorem wd_1_162 : (Jvm.Cond.fieldLink "FoldGates" (11 : Nat) "FoldGates" "rows" "[LFoldGates$Row;") ∈ gWS := gin1 162 rfl rfl
theorem wd_1_163 : (Jvm.Cond.fieldLink "FoldGates" (18 : Nat) "FoldGates" "tape" "LFoldGates$Tape;") ∈ gWS := gin1 163 rfl rfl
theorem wd_1_164 : (Jvm.Cond.fieldLink "FoldGates" (61 : Nat) "FoldGates" "now" "LFoldGates$Standing;") ∈ gWS := gin1 164 rfl rfl
theorem wd_1_165 : (Jvm.Cond.fieldLink "FoldGates" (65 : Nat) "FoldGates" "trial" "LFoldGates$Standing;") ∈ gWS := gin1 165 rfl rfl
theorem wd_1_166 : (Jvm.Cond.fieldLink "FoldGates" (68 : Nat) "FoldGates" "secondTrial" "LFoldGates$Standing;") ∈ gWS := gin1 166 rfl rfl
theorem wd_1_167 : (Jvm.Cond.fieldLink "FoldGates" (24 : Nat) "FoldGates" "acts" "[LFoldGates$Standing;") ∈ gWS := gin1 167 rfl rfl
theorem wd_1_168 : (Jvm.Cond.fieldLink "FoldGates" (28 : Nat) "FoldGates" "nextAct" "I") ∈ gWS := gin1 168 rfl rfl
theorem wd_1_169 : (Jvm.Cond.fieldLink "FoldGates" (32 : Nat) "FoldGates" "actsKept" "I") ∈ gWS := gin1 169 rfl rfl
theorem wd_1_170 : (Jvm.Cond.fieldLink "FoldGates" (35 : Nat) "FoldGates" "images" "[LFoldGates$Standing;") ∈ gWS := gin1 170 rfl rfl
theorem wd_1_171 : (Jvm.Cond.fieldLink "FoldGates" (38 : Nat) "FoldGates" "search" "LFoldGates$Search;") ∈ gWS := gin1 171 rfl rfl
theorem wd_1_172 : (Jvm.Cond.fieldLink "FoldGates" (42 : Nat) "FoldGates" "traced" "[I") ∈ gWS := gin1 172 rfl rfl
theorem wd_1_173 : (Jvm.Cond.fieldLink "FoldGates" (46 : Nat) "FoldGates" "tracedSize" "I") ∈ gWS := gin1 173 rfl rfl
theorem wd_1_174 : (Jvm.Cond.fieldLink "FoldGates" (49 : Nat) "FoldGates" "latestFault" "I") ∈ gWS := gin1 174 rfl rfl
theorem wd_1_175 : (Jvm.Cond.fieldLink "FoldGates" (52 : Nat) "FoldGates" "latestFinding" "I") ∈ gWS := gin1 175 rfl rfl
theorem wd_1_176 : (Jvm.Cond.laysFinal "FoldGates" "FoldGates" "rows" "[LFoldGates$Row;") ∈ gWS := gin1 176 rfl rfl
theorem wd_1_178 : (Jvm.Cond.laysFinal "FoldGates" "FoldGates" "tape" "LFoldGates$Tape;") ∈ gWS := gin1 178 rfl rfl
theorem wd_1_180 : (Jvm.Cond.laysFinal "FoldGates" "FoldGates" "now" "LFoldGates$Standing;") ∈ gWS := gin1 180 rfl rfl
theorem wd_1_182 : (Jvm.Cond.laysFinal "FoldGates" "FoldGates" "trial" "LFoldGates$Standing;") ∈ gWS := gin1 182 rfl rfl
theorem wd_1_184 : (Jvm.Cond.laysFinal "FoldGates" "FoldGates" "secondTrial" "LFoldGates$Standing;") ∈ gWS := gin1 184 rfl rfl
theorem wd_1_186 : (Jvm.Cond.laysFinal "FoldGates" "FoldGates" "acts" "[LFoldGates$Standing;") ∈ gWS := gin1 186 rfl rfl
theorem wd_1_188 : (Jvm.Cond.lays "FoldGates" "FoldGates" "nextAct" "I") ∈ gWS := gin1 188 rfl rfl
theorem wd_1_190 : (Jvm.Cond.lays "FoldGates" "FoldGates" "actsKept" "I") ∈ gWS := gin1 190 rfl rfl
theorem wd_1_192 : (Jvm.Cond.laysFinal "FoldGates" "FoldGates" "images" "[LFoldGates$Standing;") ∈ gWS := gin1 192 rfl rfl
theorem wd_1_194 : (Jvm.Cond.lays "FoldGates" "FoldGates" "search" "LFoldGates$Search;") ∈ gWS := gin1 194 rfl rfl
theorem wd_1_196 : (Jvm.Cond.laysFinal "FoldGates" "FoldGates" "traced" "[I") ∈ gWS := gin1 196 rfl rfl
theorem wd_1_198 : (Jvm.Cond.lays "FoldGates" "FoldGates" "tracedSize" "I") ∈ gWS := gin1 198 rfl rfl
theorem wd_1_200 : (Jvm.Cond.lays "FoldGates" "FoldGates" "latestFault" "I") ∈ gWS := gin1 200 rfl rfl
theorem wd_1_202 : (Jvm.Cond.lays "FoldGates" "FoldGates" "latestFinding" "I") ∈ gWS := gin1 202 rfl rfl
theorem wd_1_205 : (Jvm.Cond.methodLink "FoldGatesLaw" (13 : Nat) ({ cls := "FoldGates", name := "row", desc := "(III)I" } : Jvm.MethodName)) ∈ gWS := gin1 205 rfl rfl
theorem wd_1_206 : (Jvm.Cond.instanceMethod ({ cls := "FoldGates", name := "row", desc := "(III)I" } : Jvm.MethodName)) ∈ gWS := gin1 206 rfl rfl
theorem wd_1_207 : (Jvm.Cond.selects "FoldGates" ({ cls := "FoldGates", name := "row", desc := "(III)I" } : Jvm.MethodName) ({ cls := "FoldGates", name := "row", desc := "(III)I" } : Jvm.MethodName)) ∈ gWS := gin1 207 rfl rfl
theorem wd_1_208 : (Jvm.Cond.code ({ cls := "FoldGates", name := "row", desc := "(III)I" } : Jvm.MethodName) prog_1_method_2_code (4 : Nat) (Option.some Jvm.ClassFile.FieldType.int)) ∈ gWS := gin1 208 rfl rfl
theorem wd_1_209 : (Jvm.Cond.methodLink "FoldGates" (72 : Nat) ({ cls := "FoldGates", name := "isRow", desc := "(I)Z" } : Jvm.MethodName)) ∈ gWS := gin1 209 rfl rfl
theorem wd_1_210 : (Jvm.Cond.static ({ cls := "FoldGates", name := "isRow", desc := "(I)Z" } : Jvm.MethodName)) ∈ gWS := gin1 210 rfl rfl
theorem wd_1_211 : (Jvm.Cond.code ({ cls := "FoldGates", name := "isRow", desc := "(I)Z" } : Jvm.MethodName) prog_1_method_36_code (1 : Nat) (Option.some Jvm.ClassFile.FieldType.boolean)) ∈ gWS := gin1 211 rfl rfl
theorem wd_1_212 : (Jvm.Cond.constant "FoldGates" (76 : Nat) (-1000001 : Int32)) ∈ gWS := gin1 212 rfl rfl
theorem wd_1_213 : (Jvm.Cond.methodLink "FoldGates" (77 : Nat) ({ cls := "FoldGates", name := "found", desc := "(I)I" } : Jvm.MethodName)) ∈ gWS := gin1 213 rfl rfl
theorem wd_1_215 : (Jvm.Cond.instanceMethod ({ cls := "FoldGates", name := "found", desc := "(I)I" } : Jvm.MethodName)) ∈ gWS := gin1 215 rfl rfl
theorem wd_1_216 : (Jvm.Cond.code ({ cls := "FoldGates", name := "found", desc := "(I)I" } : Jvm.MethodName) prog_1_method_40_code (2 : Nat) (Option.some Jvm.ClassFile.FieldType.int)) ∈ gWS := gin1 216 rfl rfl
theorem wd_1_217 : (Jvm.Cond.constant "FoldGates" (282 : Nat) (-1000010 : Int32)) ∈ gWS := gin1 217 rfl rfl
theorem wd_1_218 : (Jvm.Cond.methodLink "FoldGates" (81 : Nat) ({ cls := "FoldGates$Row", name := "begin", desc := "(II)V" } : Jvm.MethodName)) ∈ gWS := gin1 218 rfl rfl
theorem wd_1_219 : (Jvm.Cond.instanceMethod ({ cls := "FoldGates$Row", name := "begin", desc := "(II)V" } : Jvm.MethodName)) ∈ gWS := gin1 219 rfl rfl
theorem wd_1_220 : (Jvm.Cond.selects "FoldGates$Row" ({ cls := "FoldGates$Row", name := "begin", desc := "(II)V" } : Jvm.MethodName) ({ cls := "FoldGates$Row", name := "begin", desc := "(II)V" } : Jvm.MethodName)) ∈ gWS := gin1 220 rfl rfl
theorem wd_1_221 : (Jvm.Cond.code ({ cls := "FoldGates$Row", name := "begin", desc := "(II)V" } : Jvm.MethodName) prog_3_method_4_code (3 : Nat) (Option.none : Option Jvm.ClassFile.FieldType)) ∈ gWS := gin1 221 rfl rfl
theorem wd_1_222 : (Jvm.Cond.methodLink "FoldGates$Row" (22 : Nat) ({ cls := "java/util/Arrays", name := "fill", desc := "([II)V" } : Jvm.MethodName)) ∈ gWS := gin1 222 rfl rfl
theorem wd_1_223 : (Jvm.Cond.static ({ cls := "java/util/Arrays", name := "fill", desc := "([II)V" } : Jvm.MethodName)) ∈ gWS := gin1 223 rfl rfl
theorem wd_1_224 : (Jvm.Cond.code ({ cls := "java/util/Arrays", name := "fill", desc := "([II)V" } : Jvm.MethodName) prog_14_method_103_code (4 : Nat) (Option.none : Option Jvm.ClassFile.FieldType)) ∈ gWS := gin1 224 rfl rfl
theorem wd_1_225 : (Jvm.Cond.methodLink "FoldGates" (85 : Nat) ({ cls := "FoldGates", name := "foundNothing", desc := "(I)I" } : Jvm.MethodName)) ∈ gWS := gin1 225 rfl rfl
theorem wd_1_227 : (Jvm.Cond.instanceMethod ({ cls := "FoldGates", name := "foundNothing", desc := "(I)I" } : Jvm.MethodName)) ∈ gWS := gin1 227 rfl rfl
theorem wd_1_228 : (Jvm.Cond.code ({ cls := "FoldGates", name := "foundNothing", desc := "(I)I" } : Jvm.MethodName) prog_1_method_41_code (2 : Nat) (Option.some Jvm.ClassFile.FieldType.int)) ∈ gWS := gin1 228 rfl rfl
theorem wd_1_229 : (Jvm.Cond.methodLink "FoldGatesLaw" (18 : Nat) ({ cls := "FoldGates", name := "set", desc := "(III)I" } : Jvm.MethodName)) ∈ gWS := gin1 229 rfl rfl
theorem wd_1_230 : (Jvm.Cond.instanceMethod ({ cls := "FoldGates", name := "set", desc := "(III)I" } : Jvm.MethodName)) ∈ gWS := gin1 230 rfl rfl
theorem wd_1_231 : (Jvm.Cond.selects "FoldGates" ({ cls := "FoldGates", name := "set", desc := "(III)I" } : Jvm.MethodName) ({ cls := "FoldGates", name := "set", desc := "(III)I" } : Jvm.MethodName)) ∈ gWS := gin1 231 rfl rfl
theorem wd_1_232 : (Jvm.Cond.code ({ cls := "FoldGates", name := "set", desc := "(III)I" } : Jvm.MethodName) prog_1_method_3_code (5 : Nat) (Option.some Jvm.ClassFile.FieldType.int)) ∈ gWS := gin1 232 rfl rfl
theorem wd_1_233 : (Jvm.Cond.methodLink "FoldGates" (88 : Nat) ({ cls := "FoldGates", name := "findingOf", desc := "(III)I" } : Jvm.MethodName)) ∈ gWS := gin1 233 rfl rfl
theorem wd_1_235 : (Jvm.Cond.instanceMethod ({ cls := "FoldGates", name := "findingOf", desc := "(III)I" } : Jvm.MethodName)) ∈ gWS := gin1 235 rfl rfl
theorem wd_1_236 : (Jvm.Cond.code ({ cls := "FoldGates", name := "findingOf", desc := "(III)I" } : Jvm.MethodName) prog_1_method_39_code (4 : Nat) (Option.some Jvm.ClassFile.FieldType.int)) ∈ gWS := gin1 236 rfl rfl
theorem wd_1_237 : (Jvm.Cond.methodLink "FoldGates" (96 : Nat) ({ cls := "FoldGates$Row", name := "isMissing", desc := "()Z" } : Jvm.MethodName)) ∈ gWS := gin1 237 rfl rfl
theorem wd_1_238 : (Jvm.Cond.instanceMethod ({ cls := "FoldGates$Row", name := "isMissing", desc := "()Z" } : Jvm.MethodName)) ∈ gWS := gin1 238 rfl rfl
theorem wd_1_239 : (Jvm.Cond.selects "FoldGates$Row" ({ cls := "FoldGates$Row", name := "isMissing", desc := "()Z" } : Jvm.MethodName) ({ cls := "FoldGates$Row", name := "isMissing", desc := "()Z" } : Jvm.MethodName)) ∈ gWS := gin1 239 rfl rfl
theorem wd_2_0 : (Jvm.Cond.code ({ cls := "FoldGates$Row", name := "isMissing", desc := "()Z" } : Jvm.MethodName) prog_3_method_2_code (1 : Nat) (Option.some Jvm.ClassFile.FieldType.boolean)) ∈ gWS := gin2 0 rfl rfl
theorem wd_2_1 : (Jvm.Cond.methodLink "FoldGates" (103 : Nat) ({ cls := "FoldGates$Row", name := "has", desc := "(II)Z" } : Jvm.MethodName)) ∈ gWS := gin2 1 rfl rfl
theorem wd_2_2 : (Jvm.Cond.instanceMethod ({ cls := "FoldGates$Row", name := "has", desc := "(II)Z" } : Jvm.MethodName)) ∈ gWS := gin2 2 rfl rfl
theorem wd_2_3 : (Jvm.Cond.selects "FoldGates$Row" ({ cls := "FoldGates$Row", name := "has", desc := "(II)Z" } : Jvm.MethodName) ({ cls := "FoldGates$Row", name := "has", desc := "(II)Z" } : Jvm.MethodName)) ∈ gWS := gin2 3 rfl rfl
theorem wd_2_4 : (Jvm.Cond.code ({ cls := "FoldGates$Row", name := "has", desc := "(II)Z" } : Jvm.MethodName) prog_3_method_3_code (3 : Nat) (Option.some Jvm.ClassFile.FieldType.boolean)) ∈ gWS := gin2 4 rfl rfl
theorem wd_2_5 : (Jvm.Cond.methodLink "FoldGates" (92 : Nat) ({ cls := "FoldGates$Row", name := "put", desc := "(II)I" } : Jvm.MethodName)) ∈ gWS := gin2 5 rfl rfl
theorem wd_2_6 : (Jvm.Cond.instanceMethod ({ cls := "FoldGates$Row", name := "put", desc := "(II)I" } : Jvm.MethodName)) ∈ gWS := gin2 6 rfl rfl
theorem wd_2_7 : (Jvm.Cond.selects "FoldGates$Row" ({ cls := "FoldGates$Row", name := "put", desc := "(II)I" } : Jvm.MethodName) ({ cls := "FoldGates$Row", name := "put", desc := "(II)I" } : Jvm.MethodName)) ∈ gWS := gin2 7 rfl rfl
theorem wd_2_8 : (Jvm.Cond.code ({ cls := "FoldGates$Row", name := "put", desc := "(II)I" } : Jvm.MethodName) prog_3_method_6_code (3 : Nat) (Option.some Jvm.ClassFile.FieldType.int)) ∈ gWS := gin2 8 rfl rfl
theorem wd_2_9 : (Jvm.Cond.methodLink "FoldGates$Row" (28 : Nat) ({ cls := "FoldGates$Row", name := "has", desc := "(II)Z" } : Jvm.MethodName)) ∈ gWS := gin2 9 rfl rfl
theorem wd_2_10 : (Jvm.Cond.constant "FoldGates$Row" (32 : Nat) (-1000000 : Int32)) ∈ gWS := gin2 10 rfl rfl
theorem wd_2_11 : (Jvm.Cond.methodLink "FoldGatesLaw" (22 : Nat) ({ cls := "FoldGates", name := "copy", desc := "(IIIII)I" } : Jvm.MethodName)) ∈ gWS := gin2 11 rfl rfl
theorem wd_2_12 : (Jvm.Cond.instanceMethod ({ cls := "FoldGates", name := "copy", desc := "(IIIII)I" } : Jvm.MethodName)) ∈ gWS := gin2 12 rfl rfl
theorem wd_2_13 : (Jvm.Cond.selects "FoldGates" ({ cls := "FoldGates", name := "copy", desc := "(IIIII)I" } : Jvm.MethodName) ({ cls := "FoldGates", name := "copy", desc := "(IIIII)I" } : Jvm.MethodName)) ∈ gWS := gin2 13 rfl rfl
theorem wd_2_14 : (Jvm.Cond.code ({ cls := "FoldGates", name := "copy", desc := "(IIIII)I" } : Jvm.MethodName) prog_1_method_4_code (8 : Nat) (Option.some Jvm.ClassFile.FieldType.int)) ∈ gWS := gin2 14 rfl rfl
theorem wd_2_15 : (Jvm.Cond.methodLink "FoldGates" (110 : Nat) ({ cls := "java/lang/System", name := "arraycopy", desc := "(Ljava/lang/Object;ILjava/lang/Object;II)V" } : Jvm.MethodName)) ∈ gWS := gin2 15 rfl rfl
theorem wd_2_16 : (Jvm.Cond.static ({ cls := "java/lang/System", name := "arraycopy", desc := "(Ljava/lang/Object;ILjava/lang/Object;II)V" } : Jvm.MethodName)) ∈ gWS := gin2 16 rfl rfl
theorem wd_2_17 : (Jvm.Cond.native ({ cls := "java/lang/System", name := "arraycopy", desc := "(Ljava/lang/Object;ILjava/lang/Object;II)V" } : Jvm.MethodName)) ∈ gWS := gin2 17 rfl rfl
theorem wd_2_18 : (Jvm.Cond.methodLink "FoldGatesLaw" (27 : Nat) ({ cls := "FoldGates", name := "drop", desc := "(I)I" } : Jvm.MethodName)) ∈ gWS := gin2 18 rfl rfl
theorem wd_2_19 : (Jvm.Cond.instanceMethod ({ cls := "FoldGates", name := "drop", desc := "(I)I" } : Jvm.MethodName)) ∈ gWS := gin2 19 rfl rfl
theorem wd_2_20 : (Jvm.Cond.selects "FoldGates" ({ cls := "FoldGates", name := "drop", desc := "(I)I" } : Jvm.MethodName) ({ cls := "FoldGates", name := "drop", desc := "(I)I" } : Jvm.MethodName)) ∈ gWS := gin2 20 rfl rfl
theorem wd_2_21 : (Jvm.Cond.code ({ cls := "FoldGates", name := "drop", desc := "(I)I" } : Jvm.MethodName) prog_1_method_5_code (3 : Nat) (Option.some Jvm.ClassFile.FieldType.int)) ∈ gWS := gin2 21 rfl rfl
theorem wd_2_22 : (Jvm.Cond.methodLink "FoldGates" (119 : Nat) ({ cls := "FoldGates$Row", name := "lose", desc := "()V" } : Jvm.MethodName)) ∈ gWS := gin2 22 rfl rfl
theorem wd_2_23 : (Jvm.Cond.instanceMethod ({ cls := "FoldGates$Row", name := "lose", desc := "()V" } : Jvm.MethodName)) ∈ gWS := gin2 23 rfl rfl
theorem wd_2_24 : (Jvm.Cond.selects "FoldGates$Row" ({ cls := "FoldGates$Row", name := "lose", desc := "()V" } : Jvm.MethodName) ({ cls := "FoldGates$Row", name := "lose", desc := "()V" } : Jvm.MethodName)) ∈ gWS := gin2 24 rfl rfl
theorem wd_2_25 : (Jvm.Cond.code ({ cls := "FoldGates$Row", name := "lose", desc := "()V" } : Jvm.MethodName) prog_3_method_5_code (1 : Nat) (Option.none : Option Jvm.ClassFile.FieldType)) ∈ gWS := gin2 25 rfl rfl
theorem wd_2_26 : (Jvm.Cond.methodLink "FoldGatesLaw" (34 : Nat) ({ cls := "FoldGates", name := "feed", desc := "(JI)I" } : Jvm.MethodName)) ∈ gWS := gin2 26 rfl rfl
theorem wd_2_27 : (Jvm.Cond.instanceMethod ({ cls := "FoldGates", name := "feed", desc := "(JI)I" } : Jvm.MethodName)) ∈ gWS := gin2 27 rfl rfl
theorem wd_2_28 : (Jvm.Cond.selects "FoldGates" ({ cls := "FoldGates", name := "feed", desc := "(JI)I" } : Jvm.MethodName) ({ cls := "FoldGates", name := "feed", desc := "(JI)I" } : Jvm.MethodName)) ∈ gWS := gin2 28 rfl rfl
theorem wd_2_29 : (Jvm.Cond.code ({ cls := "FoldGates", name := "feed", desc := "(JI)I" } : Jvm.MethodName) prog_1_method_6_code (4 : Nat) (Option.some Jvm.ClassFile.FieldType.int)) ∈ gWS := gin2 29 rfl rfl
theorem wd_2_30 : (Jvm.Cond.constant "FoldGates" (125 : Nat) (-1000003 : Int32)) ∈ gWS := gin2 30 rfl rfl
theorem wd_2_31 : (Jvm.Cond.methodLink "FoldGates" (126 : Nat) ({ cls := "FoldGates$Tape", name := "add", desc := "(JI)V" } : Jvm.MethodName)) ∈ gWS := gin2 31 rfl rfl
theorem wd_2_32 : (Jvm.Cond.instanceMethod ({ cls := "FoldGates$Tape", name := "add", desc := "(JI)V" } : Jvm.MethodName)) ∈ gWS := gin2 32 rfl rfl
theorem wd_2_33 : (Jvm.Cond.selects "FoldGates$Tape" ({ cls := "FoldGates$Tape", name := "add", desc := "(JI)V" } : Jvm.MethodName) ({ cls := "FoldGates$Tape", name := "add", desc := "(JI)V" } : Jvm.MethodName)) ∈ gWS := gin2 33 rfl rfl
theorem wd_2_34 : (Jvm.Cond.code ({ cls := "FoldGates$Tape", name := "add", desc := "(JI)V" } : Jvm.MethodName) prog_6_method_2_code (5 : Nat) (Option.none : Option Jvm.ClassFile.FieldType)) ∈ gWS := gin2 34 rfl rfl
theorem wd_2_35 : (Jvm.Cond.methodLink "FoldGatesLaw" (39 : Nat) ({ cls := "FoldGates", name := "fold", desc := "()I" } : Jvm.MethodName)) ∈ gWS := gin2 35 rfl rfl
theorem wd_2_36 : (Jvm.Cond.instanceMethod ({ cls := "FoldGates", name := "fold", desc := "()I" } : Jvm.MethodName)) ∈ gWS := gin2 36 rfl rfl
theorem wd_2_37 : (Jvm.Cond.selects "FoldGates" ({ cls := "FoldGates", name := "fold", desc := "()I" } : Jvm.MethodName) ({ cls := "FoldGates", name := "fold", desc := "()I" } : Jvm.MethodName)) ∈ gWS := gin2 37 rfl rfl
theorem wd_2_38 : (Jvm.Cond.code ({ cls := "FoldGates", name := "fold", desc := "()I" } : Jvm.MethodName) prog_1_method_7_code (2 : Nat) (Option.some Jvm.ClassFile.FieldType.int)) ∈ gWS := gin2 38 rfl rfl
theorem wd_2_39 : (Jvm.Cond.methodLink "FoldGates" (130 : Nat) ({ cls := "FoldGates$Tape", name := "read", desc := "()LFoldGates$Plan;" } : Jvm.MethodName)) ∈ gWS := gin2 39 rfl rfl
theorem wd_2_40 : (Jvm.Cond.instanceMethod ({ cls := "FoldGates$Tape", name := "read", desc := "()LFoldGates$Plan;" } : Jvm.MethodName)) ∈ gWS := gin2 40 rfl rfl
theorem wd_2_41 : (Jvm.Cond.selects "FoldGates$Tape" ({ cls := "FoldGates$Tape", name := "read", desc := "()LFoldGates$Plan;" } : Jvm.MethodName) ({ cls := "FoldGates$Tape", name := "read", desc := "()LFoldGates$Plan;" } : Jvm.MethodName)) ∈ gWS := gin2 41 rfl rfl
theorem wd_2_42 : (Jvm.Cond.code ({ cls := "FoldGates$Tape", name := "read", desc := "()LFoldGates$Plan;" } : Jvm.MethodName) prog_6_method_3_code (3 : Nat) (Option.some (Jvm.ClassFile.FieldType.object "FoldGates$Plan"))) ∈ gWS := gin2 42 rfl rfl
theorem wd_2_43 : (Jvm.Cond.classLink "FoldGates$Tape" (34 : Nat) "FoldGates$Plan") ∈ gWS := gin2 43 rfl rfl
theorem wd_2_45 : (Jvm.Cond.methodLink "FoldGates$Tape" (37 : Nat) ({ cls := "FoldGates$Tape", name := "next", desc := "()V" } : Jvm.MethodName)) ∈ gWS := gin2 45 rfl rfl
theorem wd_2_47 : (Jvm.Cond.instanceMethod ({ cls := "FoldGates$Tape", name := "next", desc := "()V" } : Jvm.MethodName)) ∈ gWS := gin2 47 rfl rfl
theorem wd_2_48 : (Jvm.Cond.code ({ cls := "FoldGates$Tape", name := "next", desc := "()V" } : Jvm.MethodName) prog_6_method_16_code (1 : Nat) (Option.none : Option Jvm.ClassFile.FieldType)) ∈ gWS := gin2 48 rfl rfl
theorem wd_2_49 : (Jvm.Cond.methodLink "FoldGates$Tape" (136 : Nat) ({ cls := "FoldGates$Tape", name := "byteAt", desc := "(I)I" } : Jvm.MethodName)) ∈ gWS := gin2 49 rfl rfl
theorem wd_2_51 : (Jvm.Cond.instanceMethod ({ cls := "FoldGates$Tape", name := "byteAt", desc := "(I)I" } : Jvm.MethodName)) ∈ gWS := gin2 51 rfl rfl
theorem wd_2_52 : (Jvm.Cond.code ({ cls := "FoldGates$Tape", name := "byteAt", desc := "(I)I" } : Jvm.MethodName) prog_6_method_18_code (2 : Nat) (Option.some Jvm.ClassFile.FieldType.int)) ∈ gWS := gin2 52 rfl rfl
theorem wd_2_53 : (Jvm.Cond.methodLink "FoldGates$Tape" (144 : Nat) ({ cls := "FoldGates$Tape", name := "isBlank", desc := "(I)Z" } : Jvm.MethodName)) ∈ gWS := gin2 53 rfl rfl
theorem wd_2_54 : (Jvm.Cond.static ({ cls := "FoldGates$Tape", name := "isBlank", desc := "(I)Z" } : Jvm.MethodName)) ∈ gWS := gin2 54 rfl rfl
theorem wd_2_55 : (Jvm.Cond.code ({ cls := "FoldGates$Tape", name := "isBlank", desc := "(I)Z" } : Jvm.MethodName) prog_6_method_19_code (1 : Nat) (Option.some Jvm.ClassFile.FieldType.boolean)) ∈ gWS := gin2 55 rfl rfl
theorem wd_2_56 : (Jvm.Cond.methodLink "FoldGates$Tape" (147 : Nat) ({ cls := "FoldGates$Tape", name := "isLetter", desc := "(I)Z" } : Jvm.MethodName)) ∈ gWS := gin2 56 rfl rfl
theorem wd_2_57 : (Jvm.Cond.static ({ cls := "FoldGates$Tape", name := "isLetter", desc := "(I)Z" } : Jvm.MethodName)) ∈ gWS := gin2 57 rfl rfl
theorem wd_2_58 : (Jvm.Cond.code ({ cls := "FoldGates$Tape", name := "isLetter", desc := "(I)Z" } : Jvm.MethodName) prog_6_method_20_code (1 : Nat) (Option.some Jvm.ClassFile.FieldType.boolean)) ∈ gWS := gin2 58 rfl rfl
theorem wd_2_59 : (Jvm.Cond.methodLink "FoldGates$Tape" (150 : Nat) ({ cls := "FoldGates$Tape", name := "isFigure", desc := "(I)Z" } : Jvm.MethodName)) ∈ gWS := gin2 59 rfl rfl
theorem wd_2_60 : (Jvm.Cond.static ({ cls := "FoldGates$Tape", name := "isFigure", desc := "(I)Z" } : Jvm.MethodName)) ∈ gWS := gin2 60 rfl rfl
theorem wd_2_61 : (Jvm.Cond.code ({ cls := "FoldGates$Tape", name := "isFigure", desc := "(I)Z" } : Jvm.MethodName) prog_6_method_21_code (1 : Nat) (Option.some Jvm.ClassFile.FieldType.boolean)) ∈ gWS := gin2 61 rfl rfl
theorem wd_2_62 : (Jvm.Cond.methodLink "FoldGates$Tape" (153 : Nat) ({ cls := "FoldGates$Tape", name := "nextNumber", desc := "()V" } : Jvm.MethodName)) ∈ gWS := gin2 62 rfl rfl
theorem wd_2_64 : (Jvm.Cond.instanceMethod ({ cls := "FoldGates$Tape", name := "nextNumber", desc := "()V" } : Jvm.MethodName)) ∈ gWS := gin2 64 rfl rfl
theorem wd_2_65 : (Jvm.Cond.code ({ cls := "FoldGates$Tape", name := "nextNumber", desc := "()V" } : Jvm.MethodName) prog_6_method_17_code (1 : Nat) (Option.none : Option Jvm.ClassFile.FieldType)) ∈ gWS := gin2 65 rfl rfl
theorem wd_2_66 : (Jvm.Cond.methodLink "FoldGates$Tape" (40 : Nat) ({ cls := "FoldGates$Tape", name := "readLaw", desc := "(LFoldGates$Plan;)Z" } : Jvm.MethodName)) ∈ gWS := gin2 66 rfl rfl
theorem wd_2_68 : (Jvm.Cond.instanceMethod ({ cls := "FoldGates$Tape", name := "readLaw", desc := "(LFoldGates$Plan;)Z" } : Jvm.MethodName)) ∈ gWS := gin2 68 rfl rfl
theorem wd_2_69 : (Jvm.Cond.code ({ cls := "FoldGates$Tape", name := "readLaw", desc := "(LFoldGates$Plan;)Z" } : Jvm.MethodName) prog_6_method_4_code (2 : Nat) (Option.some Jvm.ClassFile.FieldType.boolean)) ∈ gWS := gin2 69 rfl rfl
theorem wd_2_71 : (Jvm.Cond.methodLink "FoldGates$Tape" (52 : Nat) ({ cls := "FoldGates$Tape", name := "isWord", desc := "(Ljava/lang/String;)Z" } : Jvm.MethodName)) ∈ gWS := gin2 71 rfl rfl
theorem wd_2_73 : (Jvm.Cond.instanceMethod ({ cls := "FoldGates$Tape", name := "isWord", desc := "(Ljava/lang/String;)Z" } : Jvm.MethodName)) ∈ gWS := gin2 73 rfl rfl
theorem wd_2_74 : (Jvm.Cond.code ({ cls := "FoldGates$Tape", name := "isWord", desc := "(Ljava/lang/String;)Z" } : Jvm.MethodName) prog_6_method_15_code (3 : Nat) (Option.some Jvm.ClassFile.FieldType.boolean)) ∈ gWS := gin2 74 rfl rfl
theorem wd_2_75 : (Jvm.Cond.methodLink "FoldGates$Tape" (132 : Nat) ({ cls := "java/lang/String", name := "length", desc := "()I" } : Jvm.MethodName)) ∈ gWS := gin2 75 rfl rfl
theorem wd_2_76 : (Jvm.Cond.instanceMethod ({ cls := "java/lang/String", name := "length", desc := "()I" } : Jvm.MethodName)) ∈ gWS := gin2 76 rfl rfl
theorem wd_2_77 : (Jvm.Cond.selects "java/lang/String" ({ cls := "java/lang/String", name := "length", desc := "()I" } : Jvm.MethodName) ({ cls := "java/lang/String", name := "length", desc := "()I" } : Jvm.MethodName)) ∈ gWS := gin2 77 rfl rfl
theorem wd_2_78 : (Jvm.Cond.code ({ cls := "java/lang/String", name := "length", desc := "()I" } : Jvm.MethodName) prog_10_method_54_code (1 : Nat) (Option.some Jvm.ClassFile.FieldType.int)) ∈ gWS := gin2 78 rfl rfl
theorem wd_2_79 : (Jvm.Cond.methodLink "java/lang/String" (335 : Nat) ({ cls := "java/lang/String", name := "coder", desc := "()B" } : Jvm.MethodName)) ∈ gWS := gin2 79 rfl rfl
theorem wd_2_80 : (Jvm.Cond.instanceMethod ({ cls := "java/lang/String", name := "coder", desc := "()B" } : Jvm.MethodName)) ∈ gWS := gin2 80 rfl rfl
theorem wd_2_81 : (Jvm.Cond.selects "java/lang/String" ({ cls := "java/lang/String", name := "coder", desc := "()B" } : Jvm.MethodName) ({ cls := "java/lang/String", name := "coder", desc := "()B" } : Jvm.MethodName)) ∈ gWS := gin2 81 rfl rfl
theorem wd_2_82 : (Jvm.Cond.code ({ cls := "java/lang/String", name := "coder", desc := "()B" } : Jvm.MethodName) prog_10_method_152_code (1 : Nat) (Option.some Jvm.ClassFile.FieldType.byte)) ∈ gWS := gin2 82 rfl rfl
theorem wd_2_83 : (Jvm.Cond.fieldLink "java/lang/String" (38 : Nat) "java/lang/String" "COMPACT_STRINGS" "Z") ∈ gWS := gin2 83 rfl rfl
theorem wd_2_85 : (Jvm.Cond.methodLink "FoldGates$Tape" (140 : Nat) ({ cls := "java/lang/String", name := "charAt", desc := "(I)C" } : Jvm.MethodName)) ∈ gWS := gin2 85 rfl rfl
theorem wd_2_86 : (Jvm.Cond.instanceMethod ({ cls := "java/lang/String", name := "charAt", desc := "(I)C" } : Jvm.MethodName)) ∈ gWS := gin2 86 rfl rfl
theorem wd_2_87 : (Jvm.Cond.selects "java/lang/String" ({ cls := "java/lang/String", name := "charAt", desc := "(I)C" } : Jvm.MethodName) ({ cls := "java/lang/String", name := "charAt", desc := "(I)C" } : Jvm.MethodName)) ∈ gWS := gin2 87 rfl rfl
theorem wd_2_88 : (Jvm.Cond.code ({ cls := "java/lang/String", name := "charAt", desc := "(I)C" } : Jvm.MethodName) prog_10_method_56_code (2 : Nat) (Option.some Jvm.ClassFile.FieldType.char)) ∈ gWS := gin2 88 rfl rfl
theorem wd_2_89 : (Jvm.Cond.methodLink "java/lang/String" (492 : Nat) ({ cls := "java/lang/String", name := "isLatin1", desc := "()Z" } : Jvm.MethodName)) ∈ gWS := gin2 89 rfl rfl
theorem wd_2_90 : (Jvm.Cond.instanceMethod ({ cls := "java/lang/String", name := "isLatin1", desc := "()Z" } : Jvm.MethodName)) ∈ gWS := gin2 90 rfl rfl
theorem wd_2_91 : (Jvm.Cond.selects "java/lang/String" ({ cls := "java/lang/String", name := "isLatin1", desc := "()Z" } : Jvm.MethodName) ({ cls := "java/lang/String", name := "isLatin1", desc := "()Z" } : Jvm.MethodName)) ∈ gWS := gin2 91 rfl rfl
theorem wd_2_92 : (Jvm.Cond.code ({ cls := "java/lang/String", name := "isLatin1", desc := "()Z" } : Jvm.MethodName) prog_10_method_154_code (1 : Nat) (Option.some Jvm.ClassFile.FieldType.boolean)) ∈ gWS := gin2 92 rfl rfl
theorem wd_2_93 : (Jvm.Cond.methodLink "java/lang/String" (495 : Nat) ({ cls := "java/lang/StringLatin1", name := "charAt", desc := "([BI)C" } : Jvm.MethodName)) ∈ gWS := gin2 93 rfl rfl
theorem wd_2_94 : (Jvm.Cond.static ({ cls := "java/lang/StringLatin1", name := "charAt", desc := "([BI)C" } : Jvm.MethodName)) ∈ gWS := gin2 94 rfl rfl
theorem wd_2_95 : (Jvm.Cond.code ({ cls := "java/lang/StringLatin1", name := "charAt", desc := "([BI)C" } : Jvm.MethodName) prog_11_method_2_code (2 : Nat) (Option.some Jvm.ClassFile.FieldType.char)) ∈ gWS := gin2 95 rfl rfl
theorem wd_2_96 : (Jvm.Cond.methodLink "java/lang/StringLatin1" (9 : Nat) ({ cls := "java/lang/String", name := "checkIndex", desc := "(II)V" } : Jvm.MethodName)) ∈ gWS := gin2 96 rfl rfl
theorem wd_2_97 : (Jvm.Cond.static ({ cls := "java/lang/String", name := "checkIndex", desc := "(II)V" } : Jvm.MethodName)) ∈ gWS := gin2 97 rfl rfl
theorem wd_2_98 : (Jvm.Cond.code ({ cls := "java/lang/String", name := "checkIndex", desc := "(II)V" } : Jvm.MethodName) prog_10_method_155_code (2 : Nat) (Option.none : Option Jvm.ClassFile.FieldType)) ∈ gWS := gin2 98 rfl rfl
theorem wd_2_99 : (Jvm.Cond.fieldLink "java/lang/String" (1053 : Nat) "jdk/internal/util/Preconditions" "SIOOBE_FORMATTER" "Ljava/util/function/BiFunction;") ∈ gWS := gin2 99 rfl rfl
theorem wd_2_101 : (Jvm.Cond.methodLink "java/lang/String" (1059 : Nat) ({ cls := "jdk/internal/util/Preconditions", name := "checkIndex", desc := "(IILjava/util/function/BiFunction;)I" } : Jvm.MethodName)) ∈ gWS := gin2 101 rfl rfl
theorem wd_2_102 : (Jvm.Cond.static ({ cls := "jdk/internal/util/Preconditions", name := "checkIndex", desc := "(IILjava/util/function/BiFunction;)I" } : Jvm.MethodName)) ∈ gWS := gin2 102 rfl rfl
theorem wd_2_103 : (Jvm.Cond.code ({ cls := "jdk/internal/util/Preconditions", name := "checkIndex", desc := "(IILjava/util/function/BiFunction;)I" } : Jvm.MethodName) prog_15_method_11_code (3 : Nat) (Option.some Jvm.ClassFile.FieldType.int)) ∈ gWS := gin2 103 rfl rfl
theorem wd_2_104 : (Jvm.Cond.methodLink "java/lang/String" (498 : Nat) ({ cls := "java/lang/StringUTF16", name := "charAt", desc := "([BI)C" } : Jvm.MethodName)) ∈ gWS := gin2 104 rfl rfl
theorem wd_2_105 : (Jvm.Cond.static ({ cls := "java/lang/StringUTF16", name := "charAt", desc := "([BI)C" } : Jvm.MethodName)) ∈ gWS := gin2 105 rfl rfl
theorem wd_2_106 : (Jvm.Cond.code ({ cls := "java/lang/StringUTF16", name := "charAt", desc := "([BI)C" } : Jvm.MethodName) prog_12_method_83_code (2 : Nat) (Option.some Jvm.ClassFile.FieldType.char)) ∈ gWS := gin2 106 rfl rfl
theorem wd_2_107 : (Jvm.Cond.methodLink "java/lang/StringUTF16" (67 : Nat) ({ cls := "java/lang/StringUTF16", name := "checkIndex", desc := "(I[B)V" } : Jvm.MethodName)) ∈ gWS := gin2 107 rfl rfl
theorem wd_2_108 : (Jvm.Cond.static ({ cls := "java/lang/StringUTF16", name := "checkIndex", desc := "(I[B)V" } : Jvm.MethodName)) ∈ gWS := gin2 108 rfl rfl
theorem wd_2_109 : (Jvm.Cond.code ({ cls := "java/lang/StringUTF16", name := "checkIndex", desc := "(I[B)V" } : Jvm.MethodName) prog_12_method_91_code (2 : Nat) (Option.none : Option Jvm.ClassFile.FieldType)) ∈ gWS := gin2 109 rfl rfl
theorem wd_2_110 : (Jvm.Cond.methodLink "java/lang/StringUTF16" (48 : Nat) ({ cls := "java/lang/StringUTF16", name := "length", desc := "([B)I" } : Jvm.MethodName)) ∈ gWS := gin2 110 rfl rfl
theorem wd_2_111 : (Jvm.Cond.static ({ cls := "java/lang/StringUTF16", name := "length", desc := "([B)I" } : Jvm.MethodName)) ∈ gWS := gin2 111 rfl rfl
theorem wd_2_112 : (Jvm.Cond.code ({ cls := "java/lang/StringUTF16", name := "length", desc := "([B)I" } : Jvm.MethodName) prog_12_method_6_code (1 : Nat) (Option.some Jvm.ClassFile.FieldType.int)) ∈ gWS := gin2 112 rfl rfl
theorem wd_2_113 : (Jvm.Cond.methodLink "java/lang/StringUTF16" (414 : Nat) ({ cls := "java/lang/String", name := "checkIndex", desc := "(II)V" } : Jvm.MethodName)) ∈ gWS := gin2 113 rfl rfl
theorem wd_2_114 : (Jvm.Cond.methodLink "java/lang/StringUTF16" (71 : Nat) ({ cls := "java/lang/StringUTF16", name := "getChar", desc := "([BI)C" } : Jvm.MethodName)) ∈ gWS := gin2 114 rfl rfl
theorem wd_2_115 : (Jvm.Cond.static ({ cls := "java/lang/StringUTF16", name := "getChar", desc := "([BI)C" } : Jvm.MethodName)) ∈ gWS := gin2 115 rfl rfl
theorem wd_2_116 : (Jvm.Cond.code ({ cls := "java/lang/StringUTF16", name := "getChar", desc := "([BI)C" } : Jvm.MethodName) prog_12_method_5_code (2 : Nat) (Option.some Jvm.ClassFile.FieldType.char)) ∈ gWS := gin2 116 rfl rfl
theorem wd_2_117 : (Jvm.Cond.fieldLink "java/lang/StringUTF16" (44 : Nat) "java/lang/StringUTF16" "$assertionsDisabled" "Z") ∈ gWS := gin2 117 rfl rfl
theorem wd_2_119 : (Jvm.Cond.fieldLink "java/lang/StringUTF16" (59 : Nat) "java/lang/StringUTF16" "HI_BYTE_SHIFT" "I") ∈ gWS := gin2 119 rfl rfl
theorem wd_2_121 : (Jvm.Cond.fieldLink "java/lang/StringUTF16" (63 : Nat) "java/lang/StringUTF16" "LO_BYTE_SHIFT" "I") ∈ gWS := gin2 121 rfl rfl
theorem wd_2_123 : (Jvm.Cond.methodLink "FoldGates$Tape" (56 : Nat) ({ cls := "FoldGates$Tape", name := "faulty", desc := "(I)Z" } : Jvm.MethodName)) ∈ gWS := gin2 123 rfl rfl
theorem wd_2_125 : (Jvm.Cond.instanceMethod ({ cls := "FoldGates$Tape", name := "faulty", desc := "(I)Z" } : Jvm.MethodName)) ∈ gWS := gin2 125 rfl rfl
theorem wd_2_126 : (Jvm.Cond.code ({ cls := "FoldGates$Tape", name := "faulty", desc := "(I)Z" } : Jvm.MethodName) prog_6_method_14_code (2 : Nat) (Option.some Jvm.ClassFile.FieldType.boolean)) ∈ gWS := gin2 126 rfl rfl
theorem wd_2_127 : (Jvm.Cond.methodLink "FoldGates$Tape" (60 : Nat) ({ cls := "FoldGates$Tape", name := "isNumber", desc := "(II)Z" } : Jvm.MethodName)) ∈ gWS := gin2 127 rfl rfl
theorem wd_2_129 : (Jvm.Cond.instanceMethod ({ cls := "FoldGates$Tape", name := "isNumber", desc := "(II)Z" } : Jvm.MethodName)) ∈ gWS := gin2 129 rfl rfl
theorem wd_2_130 : (Jvm.Cond.code ({ cls := "FoldGates$Tape", name := "isNumber", desc := "(II)Z" } : Jvm.MethodName) prog_6_method_12_code (3 : Nat) (Option.some Jvm.ClassFile.FieldType.boolean)) ∈ gWS := gin2 130 rfl rfl
theorem wd_2_131 : (Jvm.Cond.methodLink "FoldGates$Tape" (67 : Nat) ({ cls := "FoldGates$Tape", name := "isSign", desc := "()Z" } : Jvm.MethodName)) ∈ gWS := gin2 131 rfl rfl
theorem wd_2_133 : (Jvm.Cond.instanceMethod ({ cls := "FoldGates$Tape", name := "isSign", desc := "()Z" } : Jvm.MethodName)) ∈ gWS := gin2 133 rfl rfl
theorem wd_2_134 : (Jvm.Cond.code ({ cls := "FoldGates$Tape", name := "isSign", desc := "()Z" } : Jvm.MethodName) prog_6_method_9_code (1 : Nat) (Option.some Jvm.ClassFile.FieldType.boolean)) ∈ gWS := gin2 134 rfl rfl
theorem wd_2_135 : (Jvm.Cond.methodLink "FoldGates$Tape" (44 : Nat) ({ cls := "FoldGates$Tape", name := "readHurdles", desc := "(LFoldGates$Plan;)Z" } : Jvm.MethodName)) ∈ gWS := gin2 135 rfl rfl
theorem wd_2_137 : (Jvm.Cond.instanceMethod ({ cls := "FoldGates$Tape", name := "readHurdles", desc := "(LFoldGates$Plan;)Z" } : Jvm.MethodName)) ∈ gWS := gin2 137 rfl rfl
theorem wd_2_138 : (Jvm.Cond.code ({ cls := "FoldGates$Tape", name := "readHurdles", desc := "(LFoldGates$Plan;)Z" } : Jvm.MethodName) prog_6_method_5_code (3 : Nat) (Option.some Jvm.ClassFile.FieldType.boolean)) ∈ gWS := gin2 138 rfl rfl
theorem wd_2_140 : (Jvm.Cond.methodLink "FoldGates$Tape" (73 : Nat) ({ cls := "FoldGates$Tape", name := "readHurdle", desc := "(LFoldGates$Plan;)Z" } : Jvm.MethodName)) ∈ gWS := gin2 140 rfl rfl
theorem wd_2_142 : (Jvm.Cond.instanceMethod ({ cls := "FoldGates$Tape", name := "readHurdle", desc := "(LFoldGates$Plan;)Z" } : Jvm.MethodName)) ∈ gWS := gin2 142 rfl rfl
theorem wd_2_143 : (Jvm.Cond.code ({ cls := "FoldGates$Tape", name := "readHurdle", desc := "(LFoldGates$Plan;)Z" } : Jvm.MethodName) prog_6_method_6_code (4 : Nat) (Option.some Jvm.ClassFile.FieldType.boolean)) ∈ gWS := gin2 143 rfl rfl
theorem wd_2_144 : (Jvm.Cond.methodLink "FoldGates$Tape" (79 : Nat) ({ cls := "FoldGates$Tape", name := "hurdleSort", desc := "()I" } : Jvm.MethodName)) ∈ gWS := gin2 144 rfl rfl
theorem wd_2_146 : (Jvm.Cond.instanceMethod ({ cls := "FoldGates$Tape", name := "hurdleSort", desc := "()I" } : Jvm.MethodName)) ∈ gWS := gin2 146 rfl rfl
theorem wd_2_147 : (Jvm.Cond.code ({ cls := "FoldGates$Tape", name := "hurdleSort", desc := "()I" } : Jvm.MethodName) prog_6_method_10_code (1 : Nat) (Option.some Jvm.ClassFile.FieldType.int)) ∈ gWS := gin2 147 rfl rfl
theorem wd_2_151 : (Jvm.Cond.methodLink "FoldGates$Tape" (86 : Nat) ({ cls := "FoldGates$Tape", name := "isWay", desc := "(LFoldGates$Plan;)Z" } : Jvm.MethodName)) ∈ gWS := gin2 151 rfl rfl
theorem wd_2_153 : (Jvm.Cond.instanceMethod ({ cls := "FoldGates$Tape", name := "isWay", desc := "(LFoldGates$Plan;)Z" } : Jvm.MethodName)) ∈ gWS := gin2 153 rfl rfl
theorem wd_2_154 : (Jvm.Cond.code ({ cls := "FoldGates$Tape", name := "isWay", desc := "(LFoldGates$Plan;)Z" } : Jvm.MethodName) prog_6_method_13_code (2 : Nat) (Option.some Jvm.ClassFile.FieldType.boolean)) ∈ gWS := gin2 154 rfl rfl
theorem wd_2_155 : (Jvm.Cond.methodLink "FoldGates$Tape" (130 : Nat) ({ cls := "FoldGates$Plan", name := "isWay", desc := "(I)Z" } : Jvm.MethodName)) ∈ gWS := gin2 155 rfl rfl
theorem wd_2_156 : (Jvm.Cond.instanceMethod ({ cls := "FoldGates$Plan", name := "isWay", desc := "(I)Z" } : Jvm.MethodName)) ∈ gWS := gin2 156 rfl rfl
theorem wd_2_157 : (Jvm.Cond.selects "FoldGates$Plan" ({ cls := "FoldGates$Plan", name := "isWay", desc := "(I)Z" } : Jvm.MethodName) ({ cls := "FoldGates$Plan", name := "isWay", desc := "(I)Z" } : Jvm.MethodName)) ∈ gWS := gin2 157 rfl rfl
theorem wd_2_158 : (Jvm.Cond.code ({ cls := "FoldGates$Plan", name := "isWay", desc := "(I)Z" } : Jvm.MethodName) prog_2_method_4_code (2 : Nat) (Option.some Jvm.ClassFile.FieldType.boolean)) ∈ gWS := gin2 158 rfl rfl
theorem wd_2_159 : (Jvm.Cond.methodLink "FoldGates$Tape" (47 : Nat) ({ cls := "FoldGates$Tape", name := "readBeasts", desc := "(LFoldGates$Plan;)Z" } : Jvm.MethodName)) ∈ gWS := gin2 159 rfl rfl
theorem wd_2_161 : (Jvm.Cond.instanceMethod ({ cls := "FoldGates$Tape", name := "readBeasts", desc := "(LFoldGates$Plan;)Z" } : Jvm.MethodName)) ∈ gWS := gin2 161 rfl rfl
theorem wd_2_162 : (Jvm.Cond.code ({ cls := "FoldGates$Tape", name := "readBeasts", desc := "(LFoldGates$Plan;)Z" } : Jvm.MethodName) prog_6_method_7_code (3 : Nat) (Option.some Jvm.ClassFile.FieldType.boolean)) ∈ gWS := gin2 162 rfl rfl
theorem wd_2_164 : (Jvm.Cond.methodLink "FoldGates$Tape" (100 : Nat) ({ cls := "FoldGates$Tape", name := "readBeast", desc := "(LFoldGates$Plan;)Z" } : Jvm.MethodName)) ∈ gWS := gin2 164 rfl rfl
theorem wd_2_166 : (Jvm.Cond.instanceMethod ({ cls := "FoldGates$Tape", name := "readBeast", desc := "(LFoldGates$Plan;)Z" } : Jvm.MethodName)) ∈ gWS := gin2 166 rfl rfl
theorem wd_2_167 : (Jvm.Cond.code ({ cls := "FoldGates$Tape", name := "readBeast", desc := "(LFoldGates$Plan;)Z" } : Jvm.MethodName) prog_6_method_8_code (4 : Nat) (Option.some Jvm.ClassFile.FieldType.boolean)) ∈ gWS := gin2 167 rfl rfl
theorem wd_2_168 : (Jvm.Cond.methodLink "FoldGates$Tape" (106 : Nat) ({ cls := "FoldGates$Tape", name := "beastKind", desc := "()I" } : Jvm.MethodName)) ∈ gWS := gin2 168 rfl rfl
theorem wd_2_170 : (Jvm.Cond.instanceMethod ({ cls := "FoldGates$Tape", name := "beastKind", desc := "()I" } : Jvm.MethodName)) ∈ gWS := gin2 170 rfl rfl
theorem wd_2_171 : (Jvm.Cond.code ({ cls := "FoldGates$Tape", name := "beastKind", desc := "()I" } : Jvm.MethodName) prog_6_method_11_code (1 : Nat) (Option.some Jvm.ClassFile.FieldType.int)) ∈ gWS := gin2 171 rfl rfl
theorem wd_2_177 : (Jvm.Cond.constant "FoldGates" (137 : Nat) (-1000100 : Int32)) ∈ gWS := gin2 177 rfl rfl
theorem wd_2_178 : (Jvm.Cond.methodLink "FoldGates" (141 : Nat) ({ cls := "FoldGates$Standing", name := "begin", desc := "(LFoldGates$Plan;I)V" } : Jvm.MethodName)) ∈ gWS := gin2 178 rfl rfl
theorem wd_2_179 : (Jvm.Cond.instanceMethod ({ cls := "FoldGates$Standing", name := "begin", desc := "(LFoldGates$Plan;I)V" } : Jvm.MethodName)) ∈ gWS := gin2 179 rfl rfl
theorem wd_2_180 : (Jvm.Cond.selects "FoldGates$Standing" ({ cls := "FoldGates$Standing", name := "begin", desc := "(LFoldGates$Plan;I)V" } : Jvm.MethodName) ({ cls := "FoldGates$Standing", name := "begin", desc := "(LFoldGates$Plan;I)V" } : Jvm.MethodName)) ∈ gWS := gin2 180 rfl rfl
theorem wd_2_181 : (Jvm.Cond.code ({ cls := "FoldGates$Standing", name := "begin", desc := "(LFoldGates$Plan;I)V" } : Jvm.MethodName) prog_5_method_2_code (3 : Nat) (Option.none : Option Jvm.ClassFile.FieldType)) ∈ gWS := gin2 181 rfl rfl
theorem wd_2_182 : (Jvm.Cond.methodLink "FoldGates$Standing" (29 : Nat) ({ cls := "java/util/Arrays", name := "fill", desc := "([II)V" } : Jvm.MethodName)) ∈ gWS := gin2 182 rfl rfl
theorem wd_2_183 : (Jvm.Cond.methodLink "FoldGates" (144 : Nat) ({ cls := "FoldGates", name := "forgetActs", desc := "()V" } : Jvm.MethodName)) ∈ gWS := gin2 183 rfl rfl
theorem wd_2_185 : (Jvm.Cond.instanceMethod ({ cls := "FoldGates", name := "forgetActs", desc := "()V" } : Jvm.MethodName)) ∈ gWS := gin2 185 rfl rfl
theorem wd_2_186 : (Jvm.Cond.code ({ cls := "FoldGates", name := "forgetActs", desc := "()V" } : Jvm.MethodName) prog_1_method_46_code (1 : Nat) (Option.none : Option Jvm.ClassFile.FieldType)) ∈ gWS := gin2 186 rfl rfl
theorem wd_2_187 : (Jvm.Cond.methodLink "FoldGatesLaw" (44 : Nat) ({ cls := "FoldGates", name := "fault", desc := "()I" } : Jvm.MethodName)) ∈ gWS := gin2 187 rfl rfl
theorem wd_2_188 : (Jvm.Cond.instanceMethod ({ cls := "FoldGates", name := "fault", desc := "()I" } : Jvm.MethodName)) ∈ gWS := gin2 188 rfl rfl
theorem wd_2_189 : (Jvm.Cond.selects "FoldGates" ({ cls := "FoldGates", name := "fault", desc := "()I" } : Jvm.MethodName) ({ cls := "FoldGates", name := "fault", desc := "()I" } : Jvm.MethodName)) ∈ gWS := gin2 189 rfl rfl
theorem wd_2_190 : (Jvm.Cond.code ({ cls := "FoldGates", name := "fault", desc := "()I" } : Jvm.MethodName) prog_1_method_8_code (1 : Nat) (Option.some Jvm.ClassFile.FieldType.int)) ∈ gWS := gin2 190 rfl rfl
theorem wd_2_191 : (Jvm.Cond.methodLink "FoldGatesLaw" (48 : Nat) ({ cls := "FoldGates", name := "run", desc := "(I)I" } : Jvm.MethodName)) ∈ gWS := gin2 191 rfl rfl
theorem wd_2_192 : (Jvm.Cond.instanceMethod ({ cls := "FoldGates", name := "run", desc := "(I)I" } : Jvm.MethodName)) ∈ gWS := gin2 192 rfl rfl
theorem wd_2_193 : (Jvm.Cond.selects "FoldGates" ({ cls := "FoldGates", name := "run", desc := "(I)I" } : Jvm.MethodName) ({ cls := "FoldGates", name := "run", desc := "(I)I" } : Jvm.MethodName)) ∈ gWS := gin2 193 rfl rfl
theorem wd_2_194 : (Jvm.Cond.code ({ cls := "FoldGates", name := "run", desc := "(I)I" } : Jvm.MethodName) prog_1_method_9_code (2 : Nat) (Option.some Jvm.ClassFile.FieldType.int)) ∈ gWS := gin2 194 rfl rfl
theorem wd_2_195 : (Jvm.Cond.methodLink "FoldGates" (150 : Nat) ({ cls := "FoldGates", name := "isBeast", desc := "(I)Z" } : Jvm.MethodName)) ∈ gWS := gin2 195 rfl rfl
theorem wd_2_197 : (Jvm.Cond.instanceMethod ({ cls := "FoldGates", name := "isBeast", desc := "(I)Z" } : Jvm.MethodName)) ∈ gWS := gin2 197 rfl rfl
theorem wd_2_198 : (Jvm.Cond.code ({ cls := "FoldGates", name := "isBeast", desc := "(I)Z" } : Jvm.MethodName) prog_1_method_33_code (2 : Nat) (Option.some Jvm.ClassFile.FieldType.boolean)) ∈ gWS := gin2 198 rfl rfl
theorem wd_2_199 : (Jvm.Cond.methodLink "FoldGates" (153 : Nat) ({ cls := "FoldGates$Standing", name := "inPens", desc := "()I" } : Jvm.MethodName)) ∈ gWS := gin2 199 rfl rfl
theorem wd_2_200 : (Jvm.Cond.instanceMethod ({ cls := "FoldGates$Standing", name := "inPens", desc := "()I" } : Jvm.MethodName)) ∈ gWS := gin2 200 rfl rfl
theorem wd_2_201 : (Jvm.Cond.selects "FoldGates$Standing" ({ cls := "FoldGates$Standing", name := "inPens", desc := "()I" } : Jvm.MethodName) ({ cls := "FoldGates$Standing", name := "inPens", desc := "()I" } : Jvm.MethodName)) ∈ gWS := gin2 201 rfl rfl
theorem wd_2_202 : (Jvm.Cond.code ({ cls := "FoldGates$Standing", name := "inPens", desc := "()I" } : Jvm.MethodName) prog_5_method_5_code (3 : Nat) (Option.some Jvm.ClassFile.FieldType.int)) ∈ gWS := gin2 202 rfl rfl
theorem wd_2_203 : (Jvm.Cond.methodLink "FoldGates" (157 : Nat) ({ cls := "FoldGates", name := "act", desc := "(I)I" } : Jvm.MethodName)) ∈ gWS := gin2 203 rfl rfl
theorem wd_2_205 : (Jvm.Cond.instanceMethod ({ cls := "FoldGates", name := "act", desc := "(I)I" } : Jvm.MethodName)) ∈ gWS := gin2 205 rfl rfl
theorem wd_2_206 : (Jvm.Cond.code ({ cls := "FoldGates", name := "act", desc := "(I)I" } : Jvm.MethodName) prog_1_method_44_code (3 : Nat) (Option.some Jvm.ClassFile.FieldType.int)) ∈ gWS := gin2 206 rfl rfl
theorem wd_2_207 : (Jvm.Cond.methodLink "FoldGates" (177 : Nat) ({ cls := "FoldGates", name := "keepAct", desc := "()V" } : Jvm.MethodName)) ∈ gWS := gin2 207 rfl rfl
theorem wd_2_209 : (Jvm.Cond.instanceMethod ({ cls := "FoldGates", name := "keepAct", desc := "()V" } : Jvm.MethodName)) ∈ gWS := gin2 209 rfl rfl
theorem wd_2_210 : (Jvm.Cond.code ({ cls := "FoldGates", name := "keepAct", desc := "()V" } : Jvm.MethodName) prog_1_method_45_code (1 : Nat) (Option.none : Option Jvm.ClassFile.FieldType)) ∈ gWS := gin2 210 rfl rfl
theorem wd_2_211 : (Jvm.Cond.methodLink "FoldGates" (184 : Nat) ({ cls := "FoldGates$Standing", name := "takeFrom", desc := "(LFoldGates$Standing;)V" } : Jvm.MethodName)) ∈ gWS := gin2 211 rfl rfl
theorem wd_2_212 : (Jvm.Cond.instanceMethod ({ cls := "FoldGates$Standing", name := "takeFrom", desc := "(LFoldGates$Standing;)V" } : Jvm.MethodName)) ∈ gWS := gin2 212 rfl rfl
theorem wd_2_213 : (Jvm.Cond.selects "FoldGates$Standing" ({ cls := "FoldGates$Standing", name := "takeFrom", desc := "(LFoldGates$Standing;)V" } : Jvm.MethodName) ({ cls := "FoldGates$Standing", name := "takeFrom", desc := "(LFoldGates$Standing;)V" } : Jvm.MethodName)) ∈ gWS := gin2 213 rfl rfl
theorem wd_2_214 : (Jvm.Cond.code ({ cls := "FoldGates$Standing", name := "takeFrom", desc := "(LFoldGates$Standing;)V" } : Jvm.MethodName) prog_5_method_3_code (2 : Nat) (Option.none : Option Jvm.ClassFile.FieldType)) ∈ gWS := gin2 214 rfl rfl
theorem wd_2_215 : (Jvm.Cond.methodLink "FoldGates$Standing" (35 : Nat) ({ cls := "java/lang/System", name := "arraycopy", desc := "(Ljava/lang/Object;ILjava/lang/Object;II)V" } : Jvm.MethodName)) ∈ gWS := gin2 215 rfl rfl
theorem wd_2_216 : (Jvm.Cond.methodLink "FoldGates" (229 : Nat) ({ cls := "FoldGates$Standing", name := "send", desc := "(II)I" } : Jvm.MethodName)) ∈ gWS := gin2 216 rfl rfl
theorem wd_2_217 : (Jvm.Cond.instanceMethod ({ cls := "FoldGates$Standing", name := "send", desc := "(II)I" } : Jvm.MethodName)) ∈ gWS := gin2 217 rfl rfl
theorem wd_2_218 : (Jvm.Cond.selects "FoldGates$Standing" ({ cls := "FoldGates$Standing", name := "send", desc := "(II)I" } : Jvm.MethodName) ({ cls := "FoldGates$Standing", name := "send", desc := "(II)I" } : Jvm.MethodName)) ∈ gWS := gin2 218 rfl rfl
theorem wd_2_219 : (Jvm.Cond.code ({ cls := "FoldGates$Standing", name := "send", desc := "(II)I" } : Jvm.MethodName) prog_5_method_7_code (7 : Nat) (Option.some Jvm.ClassFile.FieldType.int)) ∈ gWS := gin2 219 rfl rfl
theorem wd_2_220 : (Jvm.Cond.methodLink "FoldGates$Standing" (41 : Nat) ({ cls := "FoldGates$Plan", name := "kindOf", desc := "(I)I" } : Jvm.MethodName)) ∈ gWS := gin2 220 rfl rfl
theorem wd_2_221 : (Jvm.Cond.instanceMethod ({ cls := "FoldGates$Plan", name := "kindOf", desc := "(I)I" } : Jvm.MethodName)) ∈ gWS := gin2 221 rfl rfl
theorem wd_2_222 : (Jvm.Cond.selects "FoldGates$Plan" ({ cls := "FoldGates$Plan", name := "kindOf", desc := "(I)I" } : Jvm.MethodName) ({ cls := "FoldGates$Plan", name := "kindOf", desc := "(I)I" } : Jvm.MethodName)) ∈ gWS := gin2 222 rfl rfl
theorem wd_2_223 : (Jvm.Cond.code ({ cls := "FoldGates$Plan", name := "kindOf", desc := "(I)I" } : Jvm.MethodName) prog_2_method_2_code (2 : Nat) (Option.some Jvm.ClassFile.FieldType.int)) ∈ gWS := gin2 223 rfl rfl
theorem wd_2_224 : (Jvm.Cond.methodLink "FoldGates$Standing" (50 : Nat) ({ cls := "FoldGates$Standing", name := "pass", desc := "(III)I" } : Jvm.MethodName)) ∈ gWS := gin2 224 rfl rfl
theorem wd_2_226 : (Jvm.Cond.instanceMethod ({ cls := "FoldGates$Standing", name := "pass", desc := "(III)I" } : Jvm.MethodName)) ∈ gWS := gin2 226 rfl rfl
theorem wd_2_227 : (Jvm.Cond.code ({ cls := "FoldGates$Standing", name := "pass", desc := "(III)I" } : Jvm.MethodName) prog_5_method_8_code (7 : Nat) (Option.some Jvm.ClassFile.FieldType.int)) ∈ gWS := gin2 227 rfl rfl
theorem wd_2_228 : (Jvm.Cond.methodLink "FoldGates$Standing" (61 : Nat) ({ cls := "FoldGates$Standing", name := "sideOf", desc := "(I)I" } : Jvm.MethodName)) ∈ gWS := gin2 228 rfl rfl
theorem wd_2_229 : (Jvm.Cond.instanceMethod ({ cls := "FoldGates$Standing", name := "sideOf", desc := "(I)I" } : Jvm.MethodName)) ∈ gWS := gin2 229 rfl rfl
theorem wd_2_230 : (Jvm.Cond.selects "FoldGates$Standing" ({ cls := "FoldGates$Standing", name := "sideOf", desc := "(I)I" } : Jvm.MethodName) ({ cls := "FoldGates$Standing", name := "sideOf", desc := "(I)I" } : Jvm.MethodName)) ∈ gWS := gin2 230 rfl rfl
theorem wd_2_231 : (Jvm.Cond.code ({ cls := "FoldGates$Standing", name := "sideOf", desc := "(I)I" } : Jvm.MethodName) prog_5_method_4_code (2 : Nat) (Option.some Jvm.ClassFile.FieldType.int)) ∈ gWS := gin2 231 rfl rfl
theorem wd_2_232 : (Jvm.Cond.methodLink "FoldGates$Standing" (64 : Nat) ({ cls := "FoldGates$Standing", name := "isFixed", desc := "(II)Z" } : Jvm.MethodName)) ∈ gWS := gin2 232 rfl rfl
theorem wd_2_234 : (Jvm.Cond.instanceMethod ({ cls := "FoldGates$Standing", name := "isFixed", desc := "(II)Z" } : Jvm.MethodName)) ∈ gWS := gin2 234 rfl rfl
theorem wd_2_235 : (Jvm.Cond.code ({ cls := "FoldGates$Standing", name := "isFixed", desc := "(II)Z" } : Jvm.MethodName) prog_5_method_9_code (3 : Nat) (Option.some Jvm.ClassFile.FieldType.boolean)) ∈ gWS := gin2 235 rfl rfl
theorem wd_2_236 : (Jvm.Cond.methodLink "FoldGates$Standing" (68 : Nat) ({ cls := "FoldGates$Standing", name := "sideTaken", desc := "(II)I" } : Jvm.MethodName)) ∈ gWS := gin2 236 rfl rfl
theorem wd_2_237 : (Jvm.Cond.static ({ cls := "FoldGates$Standing", name := "sideTaken", desc := "(II)I" } : Jvm.MethodName)) ∈ gWS := gin2 237 rfl rfl
theorem wd_2_238 : (Jvm.Cond.code ({ cls := "FoldGates$Standing", name := "sideTaken", desc := "(II)I" } : Jvm.MethodName) prog_5_method_10_code (2 : Nat) (Option.some Jvm.ClassFile.FieldType.int)) ∈ gWS := gin2 238 rfl rfl
theorem wd_2_239 : (Jvm.Cond.methodLink "FoldGates$Standing" (72 : Nat) ({ cls := "FoldGates$Standing", name := "sideLeftBehind", desc := "(III)I" } : Jvm.MethodName)) ∈ gWS := gin2 239 rfl rfl
theorem wd_3_1 : (Jvm.Cond.instanceMethod ({ cls := "FoldGates$Standing", name := "sideLeftBehind", desc := "(III)I" } : Jvm.MethodName)) ∈ gWS := gin3 1 rfl rfl
theorem wd_3_2 : (Jvm.Cond.code ({ cls := "FoldGates$Standing", name := "sideLeftBehind", desc := "(III)I" } : Jvm.MethodName) prog_5_method_11_code (5 : Nat) (Option.some Jvm.ClassFile.FieldType.int)) ∈ gWS := gin3 2 rfl rfl
theorem wd_3_3 : (Jvm.Cond.constant "FoldGates$Standing" (60 : Nat) (-1000000 : Int32)) ∈ gWS := gin3 3 rfl rfl
theorem wd_3_4 : (Jvm.Cond.methodLink "FoldGates" (283 : Nat) ({ cls := "FoldGates$Plan", name := "heavyOf", desc := "(I)I" } : Jvm.MethodName)) ∈ gWS := gin3 4 rfl rfl
theorem wd_3_5 : (Jvm.Cond.instanceMethod ({ cls := "FoldGates$Plan", name := "heavyOf", desc := "(I)I" } : Jvm.MethodName)) ∈ gWS := gin3 5 rfl rfl
theorem wd_3_6 : (Jvm.Cond.selects "FoldGates$Plan" ({ cls := "FoldGates$Plan", name := "heavyOf", desc := "(I)I" } : Jvm.MethodName) ({ cls := "FoldGates$Plan", name := "heavyOf", desc := "(I)I" } : Jvm.MethodName)) ∈ gWS := gin3 6 rfl rfl
theorem wd_3_7 : (Jvm.Cond.code ({ cls := "FoldGates$Plan", name := "heavyOf", desc := "(I)I" } : Jvm.MethodName) prog_2_method_3_code (2 : Nat) (Option.some Jvm.ClassFile.FieldType.int)) ∈ gWS := gin3 7 rfl rfl
theorem wd_3_8 : (Jvm.Cond.methodLink "FoldGates" (286 : Nat) ({ cls := "FoldGates$Standing", name := nmAd, desc := "(II)V" } : Jvm.MethodName)) ∈ gWS := gin3 8 rfl rfl
theorem wd_3_9 : (Jvm.Cond.instanceMethod ({ cls := "FoldGates$Standing", name := nmAd, desc := "(II)V" } : Jvm.MethodName)) ∈ gWS := gin3 9 rfl rfl
theorem wd_3_10 : (Jvm.Cond.selects "FoldGates$Standing" ({ cls := "FoldGates$Standing", name := nmAd, desc := "(II)V" } : Jvm.MethodName) ({ cls := "FoldGates$Standing", name := nmAd, desc := "(II)V" } : Jvm.MethodName)) ∈ gWS := gin3 10 rfl rfl
theorem wd_3_11 : (Jvm.Cond.code ({ cls := "FoldGates$Standing", name := nmAd, desc := "(II)V" } : Jvm.MethodName) prog_5_method_6_code (3 : Nat) (Option.none : Option Jvm.ClassFile.FieldType)) ∈ gWS := gin3 11 rfl rfl
theorem wd_3_12 : (Jvm.Cond.methodLink "FoldGatesLaw" (52 : Nat) ({ cls := "FoldGates", name := "runs", desc := "(III)I" } : Jvm.MethodName)) ∈ gWS := gin3 12 rfl rfl
theorem wd_3_13 : (Jvm.Cond.instanceMethod ({ cls := "FoldGates", name := "runs", desc := "(III)I" } : Jvm.MethodName)) ∈ gWS := gin3 13 rfl rfl
theorem wd_3_14 : (Jvm.Cond.selects "FoldGates" ({ cls := "FoldGates", name := "runs", desc := "(III)I" } : Jvm.MethodName) ({ cls := "FoldGates", name := "runs", desc := "(III)I" } : Jvm.MethodName)) ∈ gWS := gin3 14 rfl rfl
theorem wd_3_15 : (Jvm.Cond.code ({ cls := "FoldGates", name := "runs", desc := "(III)I" } : Jvm.MethodName) prog_1_method_10_code (7 : Nat) (Option.some Jvm.ClassFile.FieldType.int)) ∈ gWS := gin3 15 rfl rfl
theorem wd_3_16 : (Jvm.Cond.methodLink "FoldGates" (160 : Nat) ({ cls := "FoldGates", name := "noFold", desc := "()Z" } : Jvm.MethodName)) ∈ gWS := gin3 16 rfl rfl
theorem wd_3_18 : (Jvm.Cond.instanceMethod ({ cls := "FoldGates", name := "noFold", desc := "()Z" } : Jvm.MethodName)) ∈ gWS := gin3 18 rfl rfl
theorem wd_3_19 : (Jvm.Cond.code ({ cls := "FoldGates", name := "noFold", desc := "()Z" } : Jvm.MethodName) prog_1_method_32_code (1 : Nat) (Option.some Jvm.ClassFile.FieldType.boolean)) ∈ gWS := gin3 19 rfl rfl
theorem wd_3_20 : (Jvm.Cond.constant "FoldGates" (163 : Nat) (-1000002 : Int32)) ∈ gWS := gin3 20 rfl rfl
theorem wd_3_21 : (Jvm.Cond.methodLink "FoldGates" (164 : Nat) ({ cls := "FoldGates", name := "areBeasts", desc := "(III)Z" } : Jvm.MethodName)) ∈ gWS := gin3 21 rfl rfl
theorem wd_3_23 : (Jvm.Cond.instanceMethod ({ cls := "FoldGates", name := "areBeasts", desc := "(III)Z" } : Jvm.MethodName)) ∈ gWS := gin3 23 rfl rfl
theorem wd_3_24 : (Jvm.Cond.code ({ cls := "FoldGates", name := "areBeasts", desc := "(III)Z" } : Jvm.MethodName) prog_1_method_42_code (5 : Nat) (Option.some Jvm.ClassFile.FieldType.boolean)) ∈ gWS := gin3 24 rfl rfl
theorem wd_3_25 : (Jvm.Cond.methodLink "FoldGates" (168 : Nat) ({ cls := "FoldGates$Row", name := "item", desc := "(I)I" } : Jvm.MethodName)) ∈ gWS := gin3 25 rfl rfl
theorem wd_3_26 : (Jvm.Cond.instanceMethod ({ cls := "FoldGates$Row", name := "item", desc := "(I)I" } : Jvm.MethodName)) ∈ gWS := gin3 26 rfl rfl
theorem wd_3_27 : (Jvm.Cond.selects "FoldGates$Row" ({ cls := "FoldGates$Row", name := "item", desc := "(I)I" } : Jvm.MethodName) ({ cls := "FoldGates$Row", name := "item", desc := "(I)I" } : Jvm.MethodName)) ∈ gWS := gin3 27 rfl rfl
theorem wd_3_28 : (Jvm.Cond.code ({ cls := "FoldGates$Row", name := "item", desc := "(I)I" } : Jvm.MethodName) prog_3_method_7_code (2 : Nat) (Option.some Jvm.ClassFile.FieldType.int)) ∈ gWS := gin3 28 rfl rfl
theorem wd_3_29 : (Jvm.Cond.methodLink "FoldGatesLaw" (56 : Nat) ({ cls := "FoldGates", name := "dawn", desc := "(I)I" } : Jvm.MethodName)) ∈ gWS := gin3 29 rfl rfl
theorem wd_3_30 : (Jvm.Cond.instanceMethod ({ cls := "FoldGates", name := "dawn", desc := "(I)I" } : Jvm.MethodName)) ∈ gWS := gin3 30 rfl rfl
theorem wd_3_31 : (Jvm.Cond.selects "FoldGates" ({ cls := "FoldGates", name := "dawn", desc := "(I)I" } : Jvm.MethodName) ({ cls := "FoldGates", name := "dawn", desc := "(I)I" } : Jvm.MethodName)) ∈ gWS := gin3 31 rfl rfl
theorem wd_3_32 : (Jvm.Cond.code ({ cls := "FoldGates", name := "dawn", desc := "(I)I" } : Jvm.MethodName) prog_1_method_11_code (3 : Nat) (Option.some Jvm.ClassFile.FieldType.int)) ∈ gWS := gin3 32 rfl rfl
theorem wd_3_33 : (Jvm.Cond.methodLink "FoldGates" (171 : Nat) ({ cls := "FoldGates", name := "isStanding", desc := "(I)Z" } : Jvm.MethodName)) ∈ gWS := gin3 33 rfl rfl
theorem wd_3_35 : (Jvm.Cond.instanceMethod ({ cls := "FoldGates", name := "isStanding", desc := "(I)Z" } : Jvm.MethodName)) ∈ gWS := gin3 35 rfl rfl
theorem wd_3_36 : (Jvm.Cond.code ({ cls := "FoldGates", name := "isStanding", desc := "(I)Z" } : Jvm.MethodName) prog_1_method_35_code (2 : Nat) (Option.some Jvm.ClassFile.FieldType.boolean)) ∈ gWS := gin3 36 rfl rfl
theorem wd_3_37 : (Jvm.Cond.methodLink "FoldGatesLaw" (60 : Nat) ({ cls := "FoldGates", name := "undo", desc := "()I" } : Jvm.MethodName)) ∈ gWS := gin3 37 rfl rfl
theorem wd_3_38 : (Jvm.Cond.instanceMethod ({ cls := "FoldGates", name := "undo", desc := "()I" } : Jvm.MethodName)) ∈ gWS := gin3 38 rfl rfl
theorem wd_3_39 : (Jvm.Cond.selects "FoldGates" ({ cls := "FoldGates", name := "undo", desc := "()I" } : Jvm.MethodName) ({ cls := "FoldGates", name := "undo", desc := "()I" } : Jvm.MethodName)) ∈ gWS := gin3 39 rfl rfl
theorem wd_3_40 : (Jvm.Cond.code ({ cls := "FoldGates", name := "undo", desc := "()I" } : Jvm.MethodName) prog_1_method_12_code (1 : Nat) (Option.some Jvm.ClassFile.FieldType.int)) ∈ gWS := gin3 40 rfl rfl
theorem wd_3_41 : (Jvm.Cond.methodLink "FoldGatesLaw" (64 : Nat) ({ cls := "FoldGates", name := "hurdle", desc := "(II)I" } : Jvm.MethodName)) ∈ gWS := gin3 41 rfl rfl
theorem wd_3_42 : (Jvm.Cond.instanceMethod ({ cls := "FoldGates", name := "hurdle", desc := "(II)I" } : Jvm.MethodName)) ∈ gWS := gin3 42 rfl rfl
theorem wd_3_43 : (Jvm.Cond.selects "FoldGates" ({ cls := "FoldGates", name := "hurdle", desc := "(II)I" } : Jvm.MethodName) ({ cls := "FoldGates", name := "hurdle", desc := "(II)I" } : Jvm.MethodName)) ∈ gWS := gin3 43 rfl rfl
theorem wd_3_44 : (Jvm.Cond.code ({ cls := "FoldGates", name := "hurdle", desc := "(II)I" } : Jvm.MethodName) prog_1_method_13_code (3 : Nat) (Option.some Jvm.ClassFile.FieldType.int)) ∈ gWS := gin3 44 rfl rfl
theorem wd_3_45 : (Jvm.Cond.methodLink "FoldGates" (200 : Nat) ({ cls := "FoldGates$Standing", name := "sideOf", desc := "(I)I" } : Jvm.MethodName)) ∈ gWS := gin3 45 rfl rfl
theorem wd_3_46 : (Jvm.Cond.methodLink "FoldGatesLaw" (69 : Nat) ({ cls := "FoldGates", name := "heavy", desc := "(I)I" } : Jvm.MethodName)) ∈ gWS := gin3 46 rfl rfl
theorem wd_3_47 : (Jvm.Cond.instanceMethod ({ cls := "FoldGates", name := "heavy", desc := "(I)I" } : Jvm.MethodName)) ∈ gWS := gin3 47 rfl rfl
theorem wd_3_48 : (Jvm.Cond.selects "FoldGates" ({ cls := "FoldGates", name := "heavy", desc := "(I)I" } : Jvm.MethodName) ({ cls := "FoldGates", name := "heavy", desc := "(I)I" } : Jvm.MethodName)) ∈ gWS := gin3 48 rfl rfl
theorem wd_3_49 : (Jvm.Cond.code ({ cls := "FoldGates", name := "heavy", desc := "(I)I" } : Jvm.MethodName) prog_1_method_14_code (2 : Nat) (Option.some Jvm.ClassFile.FieldType.int)) ∈ gWS := gin3 49 rfl rfl
theorem wd_3_50 : (Jvm.Cond.methodLink "FoldGatesLaw" (73 : Nat) ({ cls := "FoldGates", name := "pen", desc := "(II)I" } : Jvm.MethodName)) ∈ gWS := gin3 50 rfl rfl
theorem wd_3_51 : (Jvm.Cond.instanceMethod ({ cls := "FoldGates", name := "pen", desc := "(II)I" } : Jvm.MethodName)) ∈ gWS := gin3 51 rfl rfl
theorem wd_3_52 : (Jvm.Cond.selects "FoldGates" ({ cls := "FoldGates", name := "pen", desc := "(II)I" } : Jvm.MethodName) ({ cls := "FoldGates", name := "pen", desc := "(II)I" } : Jvm.MethodName)) ∈ gWS := gin3 52 rfl rfl
theorem wd_3_53 : (Jvm.Cond.code ({ cls := "FoldGates", name := "pen", desc := "(II)I" } : Jvm.MethodName) prog_1_method_15_code (3 : Nat) (Option.some Jvm.ClassFile.FieldType.int)) ∈ gWS := gin3 53 rfl rfl
theorem wd_3_54 : (Jvm.Cond.methodLink "FoldGates" (209 : Nat) ({ cls := "FoldGates", name := "isPen", desc := "(I)Z" } : Jvm.MethodName)) ∈ gWS := gin3 54 rfl rfl
theorem wd_3_56 : (Jvm.Cond.instanceMethod ({ cls := "FoldGates", name := "isPen", desc := "(I)Z" } : Jvm.MethodName)) ∈ gWS := gin3 56 rfl rfl
theorem wd_3_57 : (Jvm.Cond.code ({ cls := "FoldGates", name := "isPen", desc := "(I)Z" } : Jvm.MethodName) prog_1_method_34_code (2 : Nat) (Option.some Jvm.ClassFile.FieldType.boolean)) ∈ gWS := gin3 57 rfl rfl
theorem wd_3_58 : (Jvm.Cond.methodLink "FoldGates" (212 : Nat) ({ cls := "FoldGates", name := "isFirstOrSecond", desc := "(I)Z" } : Jvm.MethodName)) ∈ gWS := gin3 58 rfl rfl
theorem wd_3_59 : (Jvm.Cond.static ({ cls := "FoldGates", name := "isFirstOrSecond", desc := "(I)Z" } : Jvm.MethodName)) ∈ gWS := gin3 59 rfl rfl
theorem wd_3_60 : (Jvm.Cond.code ({ cls := "FoldGates", name := "isFirstOrSecond", desc := "(I)Z" } : Jvm.MethodName) prog_1_method_37_code (1 : Nat) (Option.some Jvm.ClassFile.FieldType.boolean)) ∈ gWS := gin3 60 rfl rfl
theorem wd_3_61 : (Jvm.Cond.methodLink "FoldGatesLaw" (77 : Nat) ({ cls := "FoldGates", name := "stood", desc := "(IIII)I" } : Jvm.MethodName)) ∈ gWS := gin3 61 rfl rfl
theorem wd_3_62 : (Jvm.Cond.instanceMethod ({ cls := "FoldGates", name := "stood", desc := "(IIII)I" } : Jvm.MethodName)) ∈ gWS := gin3 62 rfl rfl
theorem wd_3_63 : (Jvm.Cond.selects "FoldGates" ({ cls := "FoldGates", name := "stood", desc := "(IIII)I" } : Jvm.MethodName) ({ cls := "FoldGates", name := "stood", desc := "(IIII)I" } : Jvm.MethodName)) ∈ gWS := gin3 63 rfl rfl
theorem wd_3_64 : (Jvm.Cond.code ({ cls := "FoldGates", name := "stood", desc := "(IIII)I" } : Jvm.MethodName) prog_1_method_16_code (9 : Nat) (Option.some Jvm.ClassFile.FieldType.int)) ∈ gWS := gin3 64 rfl rfl
theorem wd_3_65 : (Jvm.Cond.methodLink "FoldGates" (221 : Nat) ({ cls := "FoldGates", name := "arePairs", desc := "(III)Z" } : Jvm.MethodName)) ∈ gWS := gin3 65 rfl rfl
theorem wd_3_67 : (Jvm.Cond.instanceMethod ({ cls := "FoldGates", name := "arePairs", desc := "(III)Z" } : Jvm.MethodName)) ∈ gWS := gin3 67 rfl rfl
theorem wd_3_68 : (Jvm.Cond.code ({ cls := "FoldGates", name := "arePairs", desc := "(III)Z" } : Jvm.MethodName) prog_1_method_43_code (5 : Nat) (Option.some Jvm.ClassFile.FieldType.boolean)) ∈ gWS := gin3 68 rfl rfl
theorem wd_3_69 : (Jvm.Cond.constant "FoldGates" (224 : Nat) (-1000000 : Int32)) ∈ gWS := gin3 69 rfl rfl
theorem wd_3_70 : (Jvm.Cond.methodLink "FoldGates" (225 : Nat) ({ cls := "FoldGates", name := "comeAsTold", desc := "(LFoldGates$Row;III)Z" } : Jvm.MethodName)) ∈ gWS := gin3 70 rfl rfl
theorem wd_3_72 : (Jvm.Cond.instanceMethod ({ cls := "FoldGates", name := "comeAsTold", desc := "(LFoldGates$Row;III)Z" } : Jvm.MethodName)) ∈ gWS := gin3 72 rfl rfl
theorem wd_3_73 : (Jvm.Cond.code ({ cls := "FoldGates", name := "comeAsTold", desc := "(LFoldGates$Row;III)Z" } : Jvm.MethodName) prog_1_method_47_code (6 : Nat) (Option.some Jvm.ClassFile.FieldType.boolean)) ∈ gWS := gin3 73 rfl rfl
theorem wd_3_74 : (Jvm.Cond.methodLink "FoldGatesLaw" (82 : Nat) ({ cls := "FoldGates", name := "ahead", desc := "(III)I" } : Jvm.MethodName)) ∈ gWS := gin3 74 rfl rfl
theorem wd_3_75 : (Jvm.Cond.instanceMethod ({ cls := "FoldGates", name := "ahead", desc := "(III)I" } : Jvm.MethodName)) ∈ gWS := gin3 75 rfl rfl
theorem wd_3_76 : (Jvm.Cond.selects "FoldGates" ({ cls := "FoldGates", name := "ahead", desc := "(III)I" } : Jvm.MethodName) ({ cls := "FoldGates", name := "ahead", desc := "(III)I" } : Jvm.MethodName)) ∈ gWS := gin3 76 rfl rfl
theorem wd_3_77 : (Jvm.Cond.code ({ cls := "FoldGates", name := "ahead", desc := "(III)I" } : Jvm.MethodName) prog_1_method_17_code (5 : Nat) (Option.some Jvm.ClassFile.FieldType.int)) ∈ gWS := gin3 77 rfl rfl
theorem wd_3_78 : (Jvm.Cond.methodLink "FoldGatesLaw" (86 : Nat) ({ cls := "FoldGates", name := "reached", desc := "(II)I" } : Jvm.MethodName)) ∈ gWS := gin3 78 rfl rfl
theorem wd_3_79 : (Jvm.Cond.instanceMethod ({ cls := "FoldGates", name := "reached", desc := "(II)I" } : Jvm.MethodName)) ∈ gWS := gin3 79 rfl rfl
theorem wd_3_80 : (Jvm.Cond.selects "FoldGates" ({ cls := "FoldGates", name := "reached", desc := "(II)I" } : Jvm.MethodName) ({ cls := "FoldGates", name := "reached", desc := "(II)I" } : Jvm.MethodName)) ∈ gWS := gin3 80 rfl rfl
theorem wd_3_81 : (Jvm.Cond.code ({ cls := "FoldGates", name := "reached", desc := "(II)I" } : Jvm.MethodName) prog_1_method_18_code (5 : Nat) (Option.some Jvm.ClassFile.FieldType.int)) ∈ gWS := gin3 81 rfl rfl
theorem wd_3_82 : (Jvm.Cond.methodLink "FoldGates" (232 : Nat) ({ cls := "FoldGates", name := "searchFromNow", desc := "()LFoldGates$Search;" } : Jvm.MethodName)) ∈ gWS := gin3 82 rfl rfl
theorem wd_3_84 : (Jvm.Cond.instanceMethod ({ cls := "FoldGates", name := "searchFromNow", desc := "()LFoldGates$Search;" } : Jvm.MethodName)) ∈ gWS := gin3 84 rfl rfl
theorem wd_3_85 : (Jvm.Cond.code ({ cls := "FoldGates", name := "searchFromNow", desc := "()LFoldGates$Search;" } : Jvm.MethodName) prog_1_method_48_code (1 : Nat) (Option.some (Jvm.ClassFile.FieldType.object "FoldGates$Search"))) ∈ gWS := gin3 85 rfl rfl
theorem wd_3_86 : (Jvm.Cond.classLink "FoldGates" (237 : Nat) "FoldGates$Search") ∈ gWS := gin3 86 rfl rfl
theorem wd_3_87 : (Jvm.Cond.instantiable "FoldGates$Search" (9 : Nat)) ∈ gWS := gin3 87 rfl rfl
theorem wd_3_88 : (Jvm.Cond.methodLink "FoldGates" (289 : Nat) ({ cls := "FoldGates$Search", name := "<init>", desc := "(LFoldGates$Standing;)V" } : Jvm.MethodName)) ∈ gWS := gin3 88 rfl rfl
theorem wd_3_89 : (Jvm.Cond.instanceMethod ({ cls := "FoldGates$Search", name := "<init>", desc := "(LFoldGates$Standing;)V" } : Jvm.MethodName)) ∈ gWS := gin3 89 rfl rfl
theorem wd_3_90 : (Jvm.Cond.code ({ cls := "FoldGates$Search", name := "<init>", desc := "(LFoldGates$Standing;)V" } : Jvm.MethodName) prog_4_method_1_code (2 : Nat) (Option.none : Option Jvm.ClassFile.FieldType)) ∈ gWS := gin3 90 rfl rfl
theorem wd_3_91 : (Jvm.Cond.methodLink "FoldGates$Search" (3 : Nat) ({ cls := "java/lang/Object", name := "<init>", desc := "()V" } : Jvm.MethodName)) ∈ gWS := gin3 91 rfl rfl
theorem wd_3_92 : (Jvm.Cond.classLink "FoldGates$Search" (38 : Nat) "FoldGates$Standing") ∈ gWS := gin3 92 rfl rfl
theorem wd_3_93 : (Jvm.Cond.methodLink "FoldGates$Search" (41 : Nat) ({ cls := "FoldGates$Standing", name := "<init>", desc := "(LFoldGates$Plan;)V" } : Jvm.MethodName)) ∈ gWS := gin3 93 rfl rfl
theorem wd_3_94 : (Jvm.Cond.fieldLink "FoldGates$Search" (44 : Nat) "FoldGates$Search" "trial" "LFoldGates$Standing;") ∈ gWS := gin3 94 rfl rfl
theorem wd_3_95 : (Jvm.Cond.fieldLink "FoldGates$Search" (9 : Nat) "FoldGates$Search" "plan" "LFoldGates$Plan;") ∈ gWS := gin3 95 rfl rfl
theorem wd_3_96 : (Jvm.Cond.fieldLink "FoldGates$Search" (15 : Nat) "FoldGates$Search" "start" "I") ∈ gWS := gin3 96 rfl rfl
theorem wd_3_97 : (Jvm.Cond.fieldLink "FoldGates$Search" (19 : Nat) "FoldGates$Search" "movers" "I") ∈ gWS := gin3 97 rfl rfl
theorem wd_3_98 : (Jvm.Cond.fieldLink "FoldGates$Search" (22 : Nat) "FoldGates$Search" "found" "I") ∈ gWS := gin3 98 rfl rfl
theorem wd_3_99 : (Jvm.Cond.fieldLink "FoldGates$Search" (25 : Nat) "FoldGates$Search" "standingsFound" "I") ∈ gWS := gin3 99 rfl rfl
theorem wd_3_100 : (Jvm.Cond.fieldLink "FoldGates" (247 : Nat) "FoldGates$Search" "standingsFound" "I") ∈ gWS := gin3 100 rfl rfl
theorem wd_3_101 : (Jvm.Cond.fieldLink "FoldGates$Search" (28 : Nat) "FoldGates$Search" "order" "[I") ∈ gWS := gin3 101 rfl rfl
theorem wd_3_102 : (Jvm.Cond.fieldLink "FoldGates$Search" (32 : Nat) "FoldGates$Search" "cameBy" "[I") ∈ gWS := gin3 102 rfl rfl
theorem wd_3_103 : (Jvm.Cond.fieldLink "FoldGates$Search" (35 : Nat) "FoldGates$Search" "firstOf" "[I") ∈ gWS := gin3 103 rfl rfl
theorem wd_3_104 : (Jvm.Cond.laysFinal "FoldGates$Search" "FoldGates$Search" "trial" "LFoldGates$Standing;") ∈ gWS := gin3 104 rfl rfl
theorem wd_3_106 : (Jvm.Cond.lays "FoldGates$Search" "FoldGates$Search" "plan" "LFoldGates$Plan;") ∈ gWS := gin3 106 rfl rfl
theorem wd_3_108 : (Jvm.Cond.lays "FoldGates$Search" "FoldGates$Search" "start" "I") ∈ gWS := gin3 108 rfl rfl
theorem wd_3_110 : (Jvm.Cond.lays "FoldGates$Search" "FoldGates$Search" "movers" "I") ∈ gWS := gin3 110 rfl rfl
theorem wd_3_112 : (Jvm.Cond.lays "FoldGates$Search" "FoldGates$Search" "found" "I") ∈ gWS := gin3 112 rfl rfl
theorem wd_3_114 : (Jvm.Cond.lays "FoldGates$Search" "FoldGates$Search" "standingsFound" "I") ∈ gWS := gin3 114 rfl rfl
theorem wd_3_116 : (Jvm.Cond.lays "FoldGates$Search" "FoldGates$Search" "order" "[I") ∈ gWS := gin3 116 rfl rfl
theorem wd_3_118 : (Jvm.Cond.lays "FoldGates$Search" "FoldGates$Search" "cameBy" "[I") ∈ gWS := gin3 118 rfl rfl
theorem wd_3_120 : (Jvm.Cond.laysFinal "FoldGates$Search" "FoldGates$Search" "firstOf" "[I") ∈ gWS := gin3 120 rfl rfl
theorem wd_3_123 : (Jvm.Cond.methodLink "FoldGates" (291 : Nat) ({ cls := "FoldGates$Search", name := "from", desc := "(LFoldGates$Standing;)V" } : Jvm.MethodName)) ∈ gWS := gin3 123 rfl rfl
theorem wd_3_124 : (Jvm.Cond.instanceMethod ({ cls := "FoldGates$Search", name := "from", desc := "(LFoldGates$Standing;)V" } : Jvm.MethodName)) ∈ gWS := gin3 124 rfl rfl
theorem wd_3_125 : (Jvm.Cond.selects "FoldGates$Search" ({ cls := "FoldGates$Search", name := "from", desc := "(LFoldGates$Standing;)V" } : Jvm.MethodName) ({ cls := "FoldGates$Search", name := "from", desc := "(LFoldGates$Standing;)V" } : Jvm.MethodName)) ∈ gWS := gin3 125 rfl rfl
theorem wd_3_126 : (Jvm.Cond.code ({ cls := "FoldGates$Search", name := "from", desc := "(LFoldGates$Standing;)V" } : Jvm.MethodName) prog_4_method_2_code (5 : Nat) (Option.none : Option Jvm.ClassFile.FieldType)) ∈ gWS := gin3 126 rfl rfl
theorem wd_3_127 : (Jvm.Cond.methodLink "FoldGates$Search" (48 : Nat) ({ cls := "FoldGates$Standing", name := "code", desc := "()I" } : Jvm.MethodName)) ∈ gWS := gin3 127 rfl rfl
theorem wd_3_128 : (Jvm.Cond.instanceMethod ({ cls := "FoldGates$Standing", name := "code", desc := "()I" } : Jvm.MethodName)) ∈ gWS := gin3 128 rfl rfl
theorem wd_3_129 : (Jvm.Cond.selects "FoldGates$Standing" ({ cls := "FoldGates$Standing", name := "code", desc := "()I" } : Jvm.MethodName) ({ cls := "FoldGates$Standing", name := "code", desc := "()I" } : Jvm.MethodName)) ∈ gWS := gin3 129 rfl rfl
theorem wd_3_130 : (Jvm.Cond.code ({ cls := "FoldGates$Standing", name := "code", desc := "()I" } : Jvm.MethodName) prog_5_method_12_code (3 : Nat) (Option.some Jvm.ClassFile.FieldType.int)) ∈ gWS := gin3 130 rfl rfl
theorem wd_3_131 : (Jvm.Cond.methodLink "FoldGates$Search" (52 : Nat) ({ cls := "FoldGates$Plan", name := "firstOfKinds", desc := "()I" } : Jvm.MethodName)) ∈ gWS := gin3 131 rfl rfl
theorem wd_3_132 : (Jvm.Cond.instanceMethod ({ cls := "FoldGates$Plan", name := "firstOfKinds", desc := "()I" } : Jvm.MethodName)) ∈ gWS := gin3 132 rfl rfl
theorem wd_3_133 : (Jvm.Cond.selects "FoldGates$Plan" ({ cls := "FoldGates$Plan", name := "firstOfKinds", desc := "()I" } : Jvm.MethodName) ({ cls := "FoldGates$Plan", name := "firstOfKinds", desc := "()I" } : Jvm.MethodName)) ∈ gWS := gin3 133 rfl rfl
theorem wd_3_134 : (Jvm.Cond.code ({ cls := "FoldGates$Plan", name := "firstOfKinds", desc := "()I" } : Jvm.MethodName) prog_2_method_8_code (4 : Nat) (Option.some Jvm.ClassFile.FieldType.int)) ∈ gWS := gin3 134 rfl rfl
theorem wd_3_135 : (Jvm.Cond.methodLink "FoldGates$Plan" (40 : Nat) ({ cls := "FoldGates$Plan", name := "kindOf", desc := "(I)I" } : Jvm.MethodName)) ∈ gWS := gin3 135 rfl rfl
theorem wd_3_136 : (Jvm.Cond.methodLink "FoldGates$Search" (57 : Nat) ({ cls := "FoldGates$Plan", name := "codes", desc := "()I" } : Jvm.MethodName)) ∈ gWS := gin3 136 rfl rfl
theorem wd_3_137 : (Jvm.Cond.instanceMethod ({ cls := "FoldGates$Plan", name := "codes", desc := "()I" } : Jvm.MethodName)) ∈ gWS := gin3 137 rfl rfl
theorem wd_3_138 : (Jvm.Cond.selects "FoldGates$Plan" ({ cls := "FoldGates$Plan", name := "codes", desc := "()I" } : Jvm.MethodName) ({ cls := "FoldGates$Plan", name := "codes", desc := "()I" } : Jvm.MethodName)) ∈ gWS := gin3 138 rfl rfl
theorem wd_3_139 : (Jvm.Cond.code ({ cls := "FoldGates$Plan", name := "codes", desc := "()I" } : Jvm.MethodName) prog_2_method_5_code (3 : Nat) (Option.some Jvm.ClassFile.FieldType.int)) ∈ gWS := gin3 139 rfl rfl
theorem wd_3_140 : (Jvm.Cond.methodLink "FoldGates$Search" (60 : Nat) ({ cls := "FoldGates$Search", name := "makeRoom", desc := "(I)V" } : Jvm.MethodName)) ∈ gWS := gin3 140 rfl rfl
theorem wd_3_142 : (Jvm.Cond.instanceMethod ({ cls := "FoldGates$Search", name := "makeRoom", desc := "(I)V" } : Jvm.MethodName)) ∈ gWS := gin3 142 rfl rfl
theorem wd_3_143 : (Jvm.Cond.code ({ cls := "FoldGates$Search", name := "makeRoom", desc := "(I)V" } : Jvm.MethodName) prog_4_method_3_code (2 : Nat) (Option.none : Option Jvm.ClassFile.FieldType)) ∈ gWS := gin3 143 rfl rfl
theorem wd_3_144 : (Jvm.Cond.methodLink "FoldGates$Search" (64 : Nat) ({ cls := "java/util/Arrays", name := "fill", desc := "([II)V" } : Jvm.MethodName)) ∈ gWS := gin3 144 rfl rfl
theorem wd_3_145 : (Jvm.Cond.methodLink "FoldGates$Search" (70 : Nat) ({ cls := "FoldGates$Standing", name := "begin", desc := "(LFoldGates$Plan;I)V" } : Jvm.MethodName)) ∈ gWS := gin3 145 rfl rfl
theorem wd_3_146 : (Jvm.Cond.methodLink "FoldGates$Search" (74 : Nat) ({ cls := "FoldGates$Search", name := "note", desc := "(II)V" } : Jvm.MethodName)) ∈ gWS := gin3 146 rfl rfl
theorem wd_3_148 : (Jvm.Cond.instanceMethod ({ cls := "FoldGates$Search", name := "note", desc := "(II)V" } : Jvm.MethodName)) ∈ gWS := gin3 148 rfl rfl
theorem wd_3_149 : (Jvm.Cond.code ({ cls := "FoldGates$Search", name := "note", desc := "(II)V" } : Jvm.MethodName) prog_4_method_5_code (4 : Nat) (Option.none : Option Jvm.ClassFile.FieldType)) ∈ gWS := gin3 149 rfl rfl
theorem wd_3_150 : (Jvm.Cond.methodLink "FoldGates$Search" (94 : Nat) ({ cls := "FoldGates$Search", name := "isCode", desc := "(I)Z" } : Jvm.MethodName)) ∈ gWS := gin3 150 rfl rfl
theorem wd_3_152 : (Jvm.Cond.instanceMethod ({ cls := "FoldGates$Search", name := "isCode", desc := "(I)Z" } : Jvm.MethodName)) ∈ gWS := gin3 152 rfl rfl
theorem wd_3_153 : (Jvm.Cond.code ({ cls := "FoldGates$Search", name := "isCode", desc := "(I)Z" } : Jvm.MethodName) prog_4_method_6_code (2 : Nat) (Option.some Jvm.ClassFile.FieldType.boolean)) ∈ gWS := gin3 153 rfl rfl
theorem wd_3_154 : (Jvm.Cond.methodLink "FoldGates$Search" (98 : Nat) ({ cls := "FoldGates$Plan", name := "standsIn", desc := "(I)I" } : Jvm.MethodName)) ∈ gWS := gin3 154 rfl rfl
theorem wd_3_155 : (Jvm.Cond.instanceMethod ({ cls := "FoldGates$Plan", name := "standsIn", desc := "(I)I" } : Jvm.MethodName)) ∈ gWS := gin3 155 rfl rfl
theorem wd_3_156 : (Jvm.Cond.selects "FoldGates$Plan" ({ cls := "FoldGates$Plan", name := "standsIn", desc := "(I)I" } : Jvm.MethodName) ({ cls := "FoldGates$Plan", name := "standsIn", desc := "(I)I" } : Jvm.MethodName)) ∈ gWS := gin3 156 rfl rfl
theorem wd_3_157 : (Jvm.Cond.code ({ cls := "FoldGates$Plan", name := "standsIn", desc := "(I)I" } : Jvm.MethodName) prog_2_method_6_code (2 : Nat) (Option.some Jvm.ClassFile.FieldType.int)) ∈ gWS := gin3 157 rfl rfl
theorem wd_3_158 : (Jvm.Cond.methodLink "FoldGates$Search" (78 : Nat) ({ cls := "FoldGates$Plan", name := "mostStandings", desc := "()I" } : Jvm.MethodName)) ∈ gWS := gin3 158 rfl rfl
theorem wd_3_159 : (Jvm.Cond.instanceMethod ({ cls := "FoldGates$Plan", name := "mostStandings", desc := "()I" } : Jvm.MethodName)) ∈ gWS := gin3 159 rfl rfl
theorem wd_3_160 : (Jvm.Cond.selects "FoldGates$Plan" ({ cls := "FoldGates$Plan", name := "mostStandings", desc := "()I" } : Jvm.MethodName) ({ cls := "FoldGates$Plan", name := "mostStandings", desc := "()I" } : Jvm.MethodName)) ∈ gWS := gin3 160 rfl rfl
theorem wd_3_161 : (Jvm.Cond.code ({ cls := "FoldGates$Plan", name := "mostStandings", desc := "()I" } : Jvm.MethodName) prog_2_method_7_code (3 : Nat) (Option.some Jvm.ClassFile.FieldType.int)) ∈ gWS := gin3 161 rfl rfl
theorem wd_3_162 : (Jvm.Cond.methodLink "FoldGates$Search" (81 : Nat) ({ cls := "FoldGates$Search", name := "spread", desc := "(I)V" } : Jvm.MethodName)) ∈ gWS := gin3 162 rfl rfl
theorem wd_3_164 : (Jvm.Cond.instanceMethod ({ cls := "FoldGates$Search", name := "spread", desc := "(I)V" } : Jvm.MethodName)) ∈ gWS := gin3 164 rfl rfl
theorem wd_3_165 : (Jvm.Cond.code ({ cls := "FoldGates$Search", name := "spread", desc := "(I)V" } : Jvm.MethodName) prog_4_method_4_code (3 : Nat) (Option.none : Option Jvm.ClassFile.FieldType)) ∈ gWS := gin3 165 rfl rfl
theorem wd_3_166 : (Jvm.Cond.methodLink "FoldGates$Search" (87 : Nat) ({ cls := "FoldGates$Standing", name := "standAs", desc := "(I)V" } : Jvm.MethodName)) ∈ gWS := gin3 166 rfl rfl
theorem wd_3_167 : (Jvm.Cond.instanceMethod ({ cls := "FoldGates$Standing", name := "standAs", desc := "(I)V" } : Jvm.MethodName)) ∈ gWS := gin3 167 rfl rfl
theorem wd_3_168 : (Jvm.Cond.selects "FoldGates$Standing" ({ cls := "FoldGates$Standing", name := "standAs", desc := "(I)V" } : Jvm.MethodName) ({ cls := "FoldGates$Standing", name := "standAs", desc := "(I)V" } : Jvm.MethodName)) ∈ gWS := gin3 168 rfl rfl
theorem wd_3_169 : (Jvm.Cond.code ({ cls := "FoldGates$Standing", name := "standAs", desc := "(I)V" } : Jvm.MethodName) prog_5_method_13_code (4 : Nat) (Option.none : Option Jvm.ClassFile.FieldType)) ∈ gWS := gin3 169 rfl rfl
theorem wd_3_170 : (Jvm.Cond.methodLink "FoldGates$Standing" (81 : Nat) ({ cls := "FoldGates$Plan", name := "standsIn", desc := "(I)I" } : Jvm.MethodName)) ∈ gWS := gin3 170 rfl rfl
theorem wd_3_171 : (Jvm.Cond.methodLink "FoldGates$Search" (90 : Nat) ({ cls := "FoldGates$Standing", name := "send", desc := "(II)I" } : Jvm.MethodName)) ∈ gWS := gin3 171 rfl rfl
theorem wd_3_172 : (Jvm.Cond.methodLink "FoldGates" (236 : Nat) ({ cls := "FoldGates$Search", name := "finds", desc := "(I)Z" } : Jvm.MethodName)) ∈ gWS := gin3 172 rfl rfl
theorem wd_3_173 : (Jvm.Cond.instanceMethod ({ cls := "FoldGates$Search", name := "finds", desc := "(I)Z" } : Jvm.MethodName)) ∈ gWS := gin3 173 rfl rfl
theorem wd_3_174 : (Jvm.Cond.selects "FoldGates$Search" ({ cls := "FoldGates$Search", name := "finds", desc := "(I)Z" } : Jvm.MethodName) ({ cls := "FoldGates$Search", name := "finds", desc := "(I)Z" } : Jvm.MethodName)) ∈ gWS := gin3 174 rfl rfl
theorem wd_3_175 : (Jvm.Cond.code ({ cls := "FoldGates$Search", name := "finds", desc := "(I)Z" } : Jvm.MethodName) prog_4_method_8_code (2 : Nat) (Option.some Jvm.ClassFile.FieldType.boolean)) ∈ gWS := gin3 175 rfl rfl
theorem wd_3_176 : (Jvm.Cond.methodLink "FoldGates" (241 : Nat) ({ cls := "FoldGates$Search", name := "lengthTo", desc := "(I)I" } : Jvm.MethodName)) ∈ gWS := gin3 176 rfl rfl
theorem wd_3_177 : (Jvm.Cond.instanceMethod ({ cls := "FoldGates$Search", name := "lengthTo", desc := "(I)I" } : Jvm.MethodName)) ∈ gWS := gin3 177 rfl rfl
theorem wd_3_178 : (Jvm.Cond.selects "FoldGates$Search" ({ cls := "FoldGates$Search", name := "lengthTo", desc := "(I)I" } : Jvm.MethodName) ({ cls := "FoldGates$Search", name := "lengthTo", desc := "(I)I" } : Jvm.MethodName)) ∈ gWS := gin3 178 rfl rfl
theorem wd_3_179 : (Jvm.Cond.code ({ cls := "FoldGates$Search", name := "lengthTo", desc := "(I)I" } : Jvm.MethodName) prog_4_method_9_code (4 : Nat) (Option.some Jvm.ClassFile.FieldType.int)) ∈ gWS := gin3 179 rfl rfl
theorem wd_3_180 : (Jvm.Cond.methodLink "FoldGates$Search" (102 : Nat) ({ cls := "FoldGates$Search", name := "finds", desc := "(I)Z" } : Jvm.MethodName)) ∈ gWS := gin3 180 rfl rfl
theorem wd_3_181 : (Jvm.Cond.methodLink "FoldGates$Search" (105 : Nat) ({ cls := "FoldGates$Search", name := "isBehindOther", desc := "(I)Z" } : Jvm.MethodName)) ∈ gWS := gin3 181 rfl rfl
theorem wd_3_183 : (Jvm.Cond.instanceMethod ({ cls := "FoldGates$Search", name := "isBehindOther", desc := "(I)Z" } : Jvm.MethodName)) ∈ gWS := gin3 183 rfl rfl
theorem wd_3_184 : (Jvm.Cond.code ({ cls := "FoldGates$Search", name := "isBehindOther", desc := "(I)Z" } : Jvm.MethodName) prog_4_method_7_code (2 : Nat) (Option.some Jvm.ClassFile.FieldType.boolean)) ∈ gWS := gin3 184 rfl rfl
theorem wd_3_185 : (Jvm.Cond.methodLink "FoldGates" (244 : Nat) ({ cls := "FoldGates$Search", name := "beastBefore", desc := "(II)I" } : Jvm.MethodName)) ∈ gWS := gin3 185 rfl rfl
theorem wd_3_186 : (Jvm.Cond.instanceMethod ({ cls := "FoldGates$Search", name := "beastBefore", desc := "(II)I" } : Jvm.MethodName)) ∈ gWS := gin3 186 rfl rfl
theorem wd_3_187 : (Jvm.Cond.selects "FoldGates$Search" ({ cls := "FoldGates$Search", name := "beastBefore", desc := "(II)I" } : Jvm.MethodName) ({ cls := "FoldGates$Search", name := "beastBefore", desc := "(II)I" } : Jvm.MethodName)) ∈ gWS := gin3 187 rfl rfl
theorem wd_3_188 : (Jvm.Cond.code ({ cls := "FoldGates$Search", name := "beastBefore", desc := "(II)I" } : Jvm.MethodName) prog_4_method_10_code (5 : Nat) (Option.some Jvm.ClassFile.FieldType.int)) ∈ gWS := gin3 188 rfl rfl
theorem wd_3_189 : (Jvm.Cond.constant "FoldGates$Search" (108 : Nat) (-1000000 : Int32)) ∈ gWS := gin3 189 rfl rfl
theorem wd_3_190 : (Jvm.Cond.methodLink "FoldGatesLaw" (90 : Nat) ({ cls := "FoldGates", name := "comes", desc := "()I" } : Jvm.MethodName)) ∈ gWS := gin3 190 rfl rfl
theorem wd_3_191 : (Jvm.Cond.instanceMethod ({ cls := "FoldGates", name := "comes", desc := "()I" } : Jvm.MethodName)) ∈ gWS := gin3 191 rfl rfl
theorem wd_3_192 : (Jvm.Cond.selects "FoldGates" ({ cls := "FoldGates", name := "comes", desc := "()I" } : Jvm.MethodName) ({ cls := "FoldGates", name := "comes", desc := "()I" } : Jvm.MethodName)) ∈ gWS := gin3 192 rfl rfl
theorem wd_3_193 : (Jvm.Cond.code ({ cls := "FoldGates", name := "comes", desc := "()I" } : Jvm.MethodName) prog_1_method_19_code (1 : Nat) (Option.some Jvm.ClassFile.FieldType.int)) ∈ gWS := gin3 193 rfl rfl
theorem wd_3_194 : (Jvm.Cond.methodLink "FoldGatesLaw" (94 : Nat) ({ cls := "FoldGates", name := "round", desc := "(II)I" } : Jvm.MethodName)) ∈ gWS := gin3 194 rfl rfl
theorem wd_3_195 : (Jvm.Cond.instanceMethod ({ cls := "FoldGates", name := "round", desc := "(II)I" } : Jvm.MethodName)) ∈ gWS := gin3 195 rfl rfl
theorem wd_3_196 : (Jvm.Cond.selects "FoldGates" ({ cls := "FoldGates", name := "round", desc := "(II)I" } : Jvm.MethodName) ({ cls := "FoldGates", name := "round", desc := "(II)I" } : Jvm.MethodName)) ∈ gWS := gin3 196 rfl rfl
theorem wd_3_197 : (Jvm.Cond.code ({ cls := "FoldGates", name := "round", desc := "(II)I" } : Jvm.MethodName) prog_1_method_20_code (4 : Nat) (Option.some Jvm.ClassFile.FieldType.int)) ∈ gWS := gin3 197 rfl rfl
theorem wd_3_198 : (Jvm.Cond.methodLink "FoldGates" (250 : Nat) ({ cls := "FoldGates", name := "roundLength", desc := "(I)I" } : Jvm.MethodName)) ∈ gWS := gin3 198 rfl rfl
theorem wd_3_200 : (Jvm.Cond.instanceMethod ({ cls := "FoldGates", name := "roundLength", desc := "(I)I" } : Jvm.MethodName)) ∈ gWS := gin3 200 rfl rfl
theorem wd_3_201 : (Jvm.Cond.code ({ cls := "FoldGates", name := "roundLength", desc := "(I)I" } : Jvm.MethodName) prog_1_method_49_code (6 : Nat) (Option.some Jvm.ClassFile.FieldType.int)) ∈ gWS := gin3 201 rfl rfl
theorem wd_3_202 : (Jvm.Cond.methodLink "FoldGates" (294 : Nat) ({ cls := "FoldGates$Standing", name := "code", desc := "()I" } : Jvm.MethodName)) ∈ gWS := gin3 202 rfl rfl
theorem wd_3_203 : (Jvm.Cond.methodLink "FoldGates" (253 : Nat) ({ cls := "FoldGates", name := "tailLength", desc := "(II)I" } : Jvm.MethodName)) ∈ gWS := gin3 203 rfl rfl
theorem wd_3_205 : (Jvm.Cond.instanceMethod ({ cls := "FoldGates", name := "tailLength", desc := "(II)I" } : Jvm.MethodName)) ∈ gWS := gin3 205 rfl rfl
theorem wd_3_206 : (Jvm.Cond.code ({ cls := "FoldGates", name := "tailLength", desc := "(II)I" } : Jvm.MethodName) prog_1_method_50_code (4 : Nat) (Option.some Jvm.ClassFile.FieldType.int)) ∈ gWS := gin3 206 rfl rfl
theorem wd_3_207 : (Jvm.Cond.methodLink "FoldGatesLaw" (98 : Nat) ({ cls := "FoldGates", name := "sticks", desc := "(III)I" } : Jvm.MethodName)) ∈ gWS := gin3 207 rfl rfl
theorem wd_3_208 : (Jvm.Cond.instanceMethod ({ cls := "FoldGates", name := "sticks", desc := "(III)I" } : Jvm.MethodName)) ∈ gWS := gin3 208 rfl rfl
theorem wd_3_209 : (Jvm.Cond.selects "FoldGates" ({ cls := "FoldGates", name := "sticks", desc := "(III)I" } : Jvm.MethodName) ({ cls := "FoldGates", name := "sticks", desc := "(III)I" } : Jvm.MethodName)) ∈ gWS := gin3 209 rfl rfl
theorem wd_3_210 : (Jvm.Cond.code ({ cls := "FoldGates", name := "sticks", desc := "(III)I" } : Jvm.MethodName) prog_1_method_21_code (7 : Nat) (Option.some Jvm.ClassFile.FieldType.int)) ∈ gWS := gin3 210 rfl rfl
theorem wd_3_211 : (Jvm.Cond.methodLink "FoldGatesLaw" (102 : Nat) ({ cls := "FoldGates", name := "theft", desc := "(IIII)I" } : Jvm.MethodName)) ∈ gWS := gin3 211 rfl rfl
theorem wd_3_212 : (Jvm.Cond.instanceMethod ({ cls := "FoldGates", name := "theft", desc := "(IIII)I" } : Jvm.MethodName)) ∈ gWS := gin3 212 rfl rfl
theorem wd_3_213 : (Jvm.Cond.selects "FoldGates" ({ cls := "FoldGates", name := "theft", desc := "(IIII)I" } : Jvm.MethodName) ({ cls := "FoldGates", name := "theft", desc := "(IIII)I" } : Jvm.MethodName)) ∈ gWS := gin3 213 rfl rfl
theorem wd_3_214 : (Jvm.Cond.code ({ cls := "FoldGates", name := "theft", desc := "(IIII)I" } : Jvm.MethodName) prog_1_method_22_code (9 : Nat) (Option.some Jvm.ClassFile.FieldType.int)) ∈ gWS := gin3 214 rfl rfl
theorem wd_3_215 : (Jvm.Cond.methodLink "FoldGatesLaw" (106 : Nat) ({ cls := "FoldGates", name := "mixed", desc := "(III)I" } : Jvm.MethodName)) ∈ gWS := gin3 215 rfl rfl
theorem wd_3_216 : (Jvm.Cond.instanceMethod ({ cls := "FoldGates", name := "mixed", desc := "(III)I" } : Jvm.MethodName)) ∈ gWS := gin3 216 rfl rfl
theorem wd_3_217 : (Jvm.Cond.selects "FoldGates" ({ cls := "FoldGates", name := "mixed", desc := "(III)I" } : Jvm.MethodName) ({ cls := "FoldGates", name := "mixed", desc := "(III)I" } : Jvm.MethodName)) ∈ gWS := gin3 217 rfl rfl
theorem wd_3_218 : (Jvm.Cond.code ({ cls := "FoldGates", name := "mixed", desc := "(III)I" } : Jvm.MethodName) prog_1_method_23_code (11 : Nat) (Option.some Jvm.ClassFile.FieldType.int)) ∈ gWS := gin3 218 rfl rfl
theorem wd_3_219 : (Jvm.Cond.methodLink "FoldGates" (256 : Nat) ({ cls := "FoldGates$Plan", name := "kindOf", desc := "(I)I" } : Jvm.MethodName)) ∈ gWS := gin3 219 rfl rfl
theorem wd_3_220 : (Jvm.Cond.constantLong "FoldGates" (262 : Nat) (63 : Int64)) ∈ gWS := gin3 220 rfl rfl
theorem wd_3_221 : (Jvm.Cond.methodLink "FoldGates" (264 : Nat) ({ cls := "java/lang/Long", name := "bitCount", desc := "(J)I" } : Jvm.MethodName)) ∈ gWS := gin3 221 rfl rfl
theorem wd_3_222 : (Jvm.Cond.static ({ cls := "java/lang/Long", name := "bitCount", desc := "(J)I" } : Jvm.MethodName)) ∈ gWS := gin3 222 rfl rfl
theorem wd_3_223 : (Jvm.Cond.code ({ cls := "java/lang/Long", name := "bitCount", desc := "(J)I" } : Jvm.MethodName) prog_9_method_50_code (2 : Nat) (Option.some Jvm.ClassFile.FieldType.int)) ∈ gWS := gin3 223 rfl rfl
theorem wd_3_224 : (Jvm.Cond.constantLong "java/lang/Long" (314 : Nat) (6148914691236517205 : Int64)) ∈ gWS := gin3 224 rfl rfl
theorem wd_3_225 : (Jvm.Cond.constantLong "java/lang/Long" (316 : Nat) (3689348814741910323 : Int64)) ∈ gWS := gin3 225 rfl rfl
theorem wd_3_226 : (Jvm.Cond.constantLong "java/lang/Long" (318 : Nat) (1085102592571150095 : Int64)) ∈ gWS := gin3 226 rfl rfl
theorem wd_3_227 : (Jvm.Cond.methodLink "FoldGatesLaw" (110 : Nat) ({ cls := "FoldGates", name := "image", desc := "(I)I" } : Jvm.MethodName)) ∈ gWS := gin3 227 rfl rfl
theorem wd_3_228 : (Jvm.Cond.instanceMethod ({ cls := "FoldGates", name := "image", desc := "(I)I" } : Jvm.MethodName)) ∈ gWS := gin3 228 rfl rfl
theorem wd_3_229 : (Jvm.Cond.selects "FoldGates" ({ cls := "FoldGates", name := "image", desc := "(I)I" } : Jvm.MethodName) ({ cls := "FoldGates", name := "image", desc := "(I)I" } : Jvm.MethodName)) ∈ gWS := gin3 229 rfl rfl
theorem wd_3_230 : (Jvm.Cond.code ({ cls := "FoldGates", name := "image", desc := "(I)I" } : Jvm.MethodName) prog_1_method_24_code (2 : Nat) (Option.some Jvm.ClassFile.FieldType.int)) ∈ gWS := gin3 230 rfl rfl
theorem wd_3_231 : (Jvm.Cond.methodLink "FoldGatesLaw" (114 : Nat) ({ cls := "FoldGates", name := "restore", desc := "(I)I" } : Jvm.MethodName)) ∈ gWS := gin3 231 rfl rfl
theorem wd_3_232 : (Jvm.Cond.instanceMethod ({ cls := "FoldGates", name := "restore", desc := "(I)I" } : Jvm.MethodName)) ∈ gWS := gin3 232 rfl rfl
theorem wd_3_233 : (Jvm.Cond.selects "FoldGates" ({ cls := "FoldGates", name := "restore", desc := "(I)I" } : Jvm.MethodName) ({ cls := "FoldGates", name := "restore", desc := "(I)I" } : Jvm.MethodName)) ∈ gWS := gin3 233 rfl rfl
theorem wd_3_234 : (Jvm.Cond.code ({ cls := "FoldGates", name := "restore", desc := "(I)I" } : Jvm.MethodName) prog_1_method_25_code (2 : Nat) (Option.some Jvm.ClassFile.FieldType.int)) ∈ gWS := gin3 234 rfl rfl
theorem wd_3_235 : (Jvm.Cond.methodLink "FoldGatesLaw" (118 : Nat) ({ cls := "FoldGates", name := "kind", desc := "(I)I" } : Jvm.MethodName)) ∈ gWS := gin3 235 rfl rfl
theorem wd_3_236 : (Jvm.Cond.instanceMethod ({ cls := "FoldGates", name := "kind", desc := "(I)I" } : Jvm.MethodName)) ∈ gWS := gin3 236 rfl rfl
theorem wd_3_237 : (Jvm.Cond.selects "FoldGates" ({ cls := "FoldGates", name := "kind", desc := "(I)I" } : Jvm.MethodName) ({ cls := "FoldGates", name := "kind", desc := "(I)I" } : Jvm.MethodName)) ∈ gWS := gin3 237 rfl rfl
theorem wd_3_238 : (Jvm.Cond.code ({ cls := "FoldGates", name := "kind", desc := "(I)I" } : Jvm.MethodName) prog_1_method_26_code (2 : Nat) (Option.some Jvm.ClassFile.FieldType.int)) ∈ gWS := gin3 238 rfl rfl
theorem wd_3_239 : (Jvm.Cond.methodLink "FoldGatesLaw" (122 : Nat) ({ cls := "FoldGates", name := "as", desc := "(II)I" } : Jvm.MethodName)) ∈ gWS := gin3 239 rfl rfl
theorem wd_4_0 : (Jvm.Cond.instanceMethod ({ cls := "FoldGates", name := "as", desc := "(II)I" } : Jvm.MethodName)) ∈ gWS := gin4 0 rfl rfl
theorem wd_4_1 : (Jvm.Cond.selects "FoldGates" ({ cls := "FoldGates", name := "as", desc := "(II)I" } : Jvm.MethodName) ({ cls := "FoldGates", name := "as", desc := "(II)I" } : Jvm.MethodName)) ∈ gWS := gin4 1 rfl rfl
theorem wd_4_2 : (Jvm.Cond.code ({ cls := "FoldGates", name := "as", desc := "(II)I" } : Jvm.MethodName) prog_1_method_27_code (5 : Nat) (Option.some Jvm.ClassFile.FieldType.int)) ∈ gWS := gin4 2 rfl rfl
theorem wd_4_3 : (Jvm.Cond.fieldLink "FoldGates" (270 : Nat) "FoldGates" "KIND_ABOVE" "[I") ∈ gWS := gin4 3 rfl rfl
theorem wd_4_5 : (Jvm.Cond.methodLink "FoldGatesLaw" (126 : Nat) ({ cls := "FoldGates", name := "ask", desc := "(II)I" } : Jvm.MethodName)) ∈ gWS := gin4 5 rfl rfl
theorem wd_4_6 : (Jvm.Cond.instanceMethod ({ cls := "FoldGates", name := "ask", desc := "(II)I" } : Jvm.MethodName)) ∈ gWS := gin4 6 rfl rfl
theorem wd_4_7 : (Jvm.Cond.selects "FoldGates" ({ cls := "FoldGates", name := "ask", desc := "(II)I" } : Jvm.MethodName) ({ cls := "FoldGates", name := "ask", desc := "(II)I" } : Jvm.MethodName)) ∈ gWS := gin4 7 rfl rfl
theorem wd_4_8 : (Jvm.Cond.code ({ cls := "FoldGates", name := "ask", desc := "(II)I" } : Jvm.MethodName) prog_1_method_28_code (3 : Nat) (Option.some Jvm.ClassFile.FieldType.int)) ∈ gWS := gin4 8 rfl rfl
theorem wd_4_9 : (Jvm.Cond.methodLink "FoldGates" (273 : Nat) ({ cls := "FoldGates", name := "asked", desc := "(III)I" } : Jvm.MethodName)) ∈ gWS := gin4 9 rfl rfl
theorem wd_4_11 : (Jvm.Cond.instanceMethod ({ cls := "FoldGates", name := "asked", desc := "(III)I" } : Jvm.MethodName)) ∈ gWS := gin4 11 rfl rfl
theorem wd_4_12 : (Jvm.Cond.code ({ cls := "FoldGates", name := "asked", desc := "(III)I" } : Jvm.MethodName) prog_1_method_51_code (7 : Nat) (Option.some Jvm.ClassFile.FieldType.int)) ∈ gWS := gin4 12 rfl rfl
theorem wd_4_13 : (Jvm.Cond.fieldLink "FoldGates" (297 : Nat) "FoldGates" "SIZE_BODIES" "[I") ∈ gWS := gin4 13 rfl rfl
theorem wd_4_15 : (Jvm.Cond.fieldLink "FoldGates" (300 : Nat) "FoldGates" "MARK_BODIES" "[I") ∈ gWS := gin4 15 rfl rfl
theorem wd_4_17 : (Jvm.Cond.methodLink "FoldGates" (303 : Nat) ({ cls := "FoldGates", name := "body", desc := "(III)I" } : Jvm.MethodName)) ∈ gWS := gin4 17 rfl rfl
theorem wd_4_19 : (Jvm.Cond.instanceMethod ({ cls := "FoldGates", name := "body", desc := "(III)I" } : Jvm.MethodName)) ∈ gWS := gin4 19 rfl rfl
theorem wd_4_20 : (Jvm.Cond.code ({ cls := "FoldGates", name := "body", desc := "(III)I" } : Jvm.MethodName) prog_1_method_52_code (5 : Nat) (Option.some Jvm.ClassFile.FieldType.int)) ∈ gWS := gin4 20 rfl rfl
theorem wd_4_21 : (Jvm.Cond.methodLink "FoldGates" (306 : Nat) ({ cls := "FoldGates", name := "penNow", desc := "(I)I" } : Jvm.MethodName)) ∈ gWS := gin4 21 rfl rfl
theorem wd_4_23 : (Jvm.Cond.instanceMethod ({ cls := "FoldGates", name := "penNow", desc := "(I)I" } : Jvm.MethodName)) ∈ gWS := gin4 23 rfl rfl
theorem wd_4_24 : (Jvm.Cond.code ({ cls := "FoldGates", name := "penNow", desc := "(I)I" } : Jvm.MethodName) prog_1_method_53_code (2 : Nat) (Option.some Jvm.ClassFile.FieldType.int)) ∈ gWS := gin4 24 rfl rfl
theorem wd_4_25 : (Jvm.Cond.methodLink "FoldGatesLaw" (130 : Nat) ({ cls := "FoldGates", name := "trace", desc := "(I)I" } : Jvm.MethodName)) ∈ gWS := gin4 25 rfl rfl
theorem wd_4_26 : (Jvm.Cond.instanceMethod ({ cls := "FoldGates", name := "trace", desc := "(I)I" } : Jvm.MethodName)) ∈ gWS := gin4 26 rfl rfl
theorem wd_4_27 : (Jvm.Cond.selects "FoldGates" ({ cls := "FoldGates", name := "trace", desc := "(I)I" } : Jvm.MethodName) ({ cls := "FoldGates", name := "trace", desc := "(I)I" } : Jvm.MethodName)) ∈ gWS := gin4 27 rfl rfl
theorem wd_4_28 : (Jvm.Cond.code ({ cls := "FoldGates", name := "trace", desc := "(I)I" } : Jvm.MethodName) prog_1_method_29_code (2 : Nat) (Option.some Jvm.ClassFile.FieldType.int)) ∈ gWS := gin4 28 rfl rfl
theorem wd_4_29 : (Jvm.Cond.methodLink "FoldGatesLaw" (134 : Nat) ({ cls := "FoldGates", name := "count", desc := "(I)I" } : Jvm.MethodName)) ∈ gWS := gin4 29 rfl rfl
theorem wd_4_30 : (Jvm.Cond.instanceMethod ({ cls := "FoldGates", name := "count", desc := "(I)I" } : Jvm.MethodName)) ∈ gWS := gin4 30 rfl rfl
theorem wd_4_31 : (Jvm.Cond.selects "FoldGates" ({ cls := "FoldGates", name := "count", desc := "(I)I" } : Jvm.MethodName) ({ cls := "FoldGates", name := "count", desc := "(I)I" } : Jvm.MethodName)) ∈ gWS := gin4 31 rfl rfl
theorem wd_4_32 : (Jvm.Cond.code ({ cls := "FoldGates", name := "count", desc := "(I)I" } : Jvm.MethodName) prog_1_method_30_code (2 : Nat) (Option.some Jvm.ClassFile.FieldType.int)) ∈ gWS := gin4 32 rfl rfl
theorem wd_4_33 : (Jvm.Cond.methodLink "FoldGates" (276 : Nat) ({ cls := "FoldGates", name := "rowsThere", desc := "()I" } : Jvm.MethodName)) ∈ gWS := gin4 33 rfl rfl
theorem wd_4_35 : (Jvm.Cond.instanceMethod ({ cls := "FoldGates", name := "rowsThere", desc := "()I" } : Jvm.MethodName)) ∈ gWS := gin4 35 rfl rfl
theorem wd_4_36 : (Jvm.Cond.code ({ cls := "FoldGates", name := "rowsThere", desc := "()I" } : Jvm.MethodName) prog_1_method_38_code (3 : Nat) (Option.some Jvm.ClassFile.FieldType.int)) ∈ gWS := gin4 36 rfl rfl
theorem wd_4_37 : (Jvm.Cond.methodLink "FoldGatesLaw" (138 : Nat) ({ cls := "FoldGates", name := "status", desc := "()I" } : Jvm.MethodName)) ∈ gWS := gin4 37 rfl rfl
theorem wd_4_38 : (Jvm.Cond.instanceMethod ({ cls := "FoldGates", name := "status", desc := "()I" } : Jvm.MethodName)) ∈ gWS := gin4 38 rfl rfl
theorem wd_4_39 : (Jvm.Cond.selects "FoldGates" ({ cls := "FoldGates", name := "status", desc := "()I" } : Jvm.MethodName) ({ cls := "FoldGates", name := "status", desc := "()I" } : Jvm.MethodName)) ∈ gWS := gin4 39 rfl rfl
theorem wd_4_40 : (Jvm.Cond.code ({ cls := "FoldGates", name := "status", desc := "()I" } : Jvm.MethodName) prog_1_method_31_code (1 : Nat) (Option.some Jvm.ClassFile.FieldType.int)) ∈ gWS := gin4 40 rfl rfl
theorem wd_4_41 : (Jvm.Cond.classLink "FoldGatesLaw" (10 : Nat) "FoldGatesModel") ∈ gWS := gin4 41 rfl rfl
theorem wd_4_42 : (Jvm.Cond.instantiable "FoldGatesModel" (26 : Nat)) ∈ gWS := gin4 42 rfl rfl
theorem wd_4_43 : (Jvm.Cond.methodLink "FoldGatesLaw" (12 : Nat) ({ cls := "FoldGatesModel", name := "<init>", desc := "()V" } : Jvm.MethodName)) ∈ gWS := gin4 43 rfl rfl
theorem wd_4_44 : (Jvm.Cond.instanceMethod ({ cls := "FoldGatesModel", name := "<init>", desc := "()V" } : Jvm.MethodName)) ∈ gWS := gin4 44 rfl rfl
theorem wd_4_45 : (Jvm.Cond.code ({ cls := "FoldGatesModel", name := "<init>", desc := "()V" } : Jvm.MethodName) prog_8_method_1_code (1 : Nat) (Option.none : Option Jvm.ClassFile.FieldType)) ∈ gWS := gin4 45 rfl rfl
theorem wd_4_46 : (Jvm.Cond.methodLink "FoldGatesModel" (1 : Nat) ({ cls := "java/lang/Object", name := "<init>", desc := "()V" } : Jvm.MethodName)) ∈ gWS := gin4 46 rfl rfl
theorem wd_4_47 : (Jvm.Cond.constant "FoldGatesModel" (19 : Nat) (-1000000 : Int32)) ∈ gWS := gin4 47 rfl rfl
theorem wd_4_48 : (Jvm.Cond.fieldLink "FoldGatesModel" (7 : Nat) "FoldGatesModel" "row" "[I") ∈ gWS := gin4 48 rfl rfl
theorem wd_4_49 : (Jvm.Cond.fieldLink "FoldGatesModel" (13 : Nat) "FoldGatesModel" "pasts" "[I") ∈ gWS := gin4 49 rfl rfl
theorem wd_4_50 : (Jvm.Cond.fieldLink "FoldGatesModel" (167 : Nat) "FoldGatesModel" "pastMany" "I") ∈ gWS := gin4 50 rfl rfl
theorem wd_4_51 : (Jvm.Cond.fieldLink "FoldGatesModel" (16 : Nat) "FoldGatesModel" "tape" "[I") ∈ gWS := gin4 51 rfl rfl
theorem wd_4_52 : (Jvm.Cond.fieldLink "FoldGatesModel" (85 : Nat) "FoldGatesModel" "taped" "I") ∈ gWS := gin4 52 rfl rfl
theorem wd_4_53 : (Jvm.Cond.fieldLink "FoldGatesModel" (113 : Nat) "FoldGatesModel" "fault" "I") ∈ gWS := gin4 53 rfl rfl
theorem wd_4_54 : (Jvm.Cond.fieldLink "FoldGatesModel" (55 : Nat) "FoldGatesModel" "status" "I") ∈ gWS := gin4 54 rfl rfl
theorem wd_4_55 : (Jvm.Cond.fieldLink "FoldGatesModel" (20 : Nat) "FoldGatesModel" "lanes" "[I") ∈ gWS := gin4 55 rfl rfl
theorem wd_4_56 : (Jvm.Cond.fieldLink "FoldGatesModel" (23 : Nat) "FoldGatesModel" "sizes" "[I") ∈ gWS := gin4 56 rfl rfl
theorem wd_4_57 : (Jvm.Cond.fieldLink "FoldGatesModel" (26 : Nat) "FoldGatesModel" "items" "[I") ∈ gWS := gin4 57 rfl rfl
theorem wd_4_58 : (Jvm.Cond.fieldLink "FoldGatesModel" (29 : Nat) "FoldGatesModel" "traces" "[I") ∈ gWS := gin4 58 rfl rfl
theorem wd_4_59 : (Jvm.Cond.fieldLink "FoldGatesModel" (268 : Nat) "FoldGatesModel" "traceMany" "I") ∈ gWS := gin4 59 rfl rfl
theorem wd_4_60 : (Jvm.Cond.fieldLink "FoldGatesModel" (32 : Nat) "FoldGatesModel" "stuck" "I") ∈ gWS := gin4 60 rfl rfl
theorem wd_4_61 : (Jvm.Cond.fieldLink "FoldGatesModel" (91 : Nat) "FoldGatesModel" "at" "I") ∈ gWS := gin4 61 rfl rfl
theorem wd_4_62 : (Jvm.Cond.fieldLink "FoldGatesModel" (94 : Nat) "FoldGatesModel" "place" "I") ∈ gWS := gin4 62 rfl rfl
theorem wd_4_63 : (Jvm.Cond.fieldLink "FoldGatesModel" (100 : Nat) "FoldGatesModel" "end" "I") ∈ gWS := gin4 63 rfl rfl
theorem wd_4_64 : (Jvm.Cond.fieldLink "FoldGatesModel" (123 : Nat) "FoldGatesModel" "readPens" "I") ∈ gWS := gin4 64 rfl rfl
theorem wd_4_65 : (Jvm.Cond.fieldLink "FoldGatesModel" (36 : Nat) "FoldGatesModel" "readHurdles" "[I") ∈ gWS := gin4 65 rfl rfl
theorem wd_4_66 : (Jvm.Cond.fieldLink "FoldGatesModel" (128 : Nat) "FoldGatesModel" "readMany" "I") ∈ gWS := gin4 66 rfl rfl
theorem wd_4_67 : (Jvm.Cond.fieldLink "FoldGatesModel" (39 : Nat) "FoldGatesModel" "readBeasts" "[I") ∈ gWS := gin4 67 rfl rfl
theorem wd_4_68 : (Jvm.Cond.fieldLink "FoldGatesModel" (146 : Nat) "FoldGatesModel" "readBeastMany" "I") ∈ gWS := gin4 68 rfl rfl
theorem wd_4_69 : (Jvm.Cond.fieldLink "FoldGatesModel" (42 : Nat) "FoldGatesModel" "fars" "[I") ∈ gWS := gin4 69 rfl rfl
theorem wd_4_70 : (Jvm.Cond.fieldLink "FoldGatesModel" (45 : Nat) "FoldGatesModel" "queue" "[I") ∈ gWS := gin4 70 rfl rfl
theorem wd_4_71 : (Jvm.Cond.fieldLink "FoldGatesModel" (233 : Nat) "FoldGatesModel" "queued" "I") ∈ gWS := gin4 71 rfl rfl
theorem wd_4_72 : (Jvm.Cond.fieldLink "FoldGatesModel" (48 : Nat) "FoldGatesModel" "onWay" "[Z") ∈ gWS := gin4 72 rfl rfl
theorem wd_4_73 : (Jvm.Cond.fieldLink "FoldGatesModel" (52 : Nat) "FoldGatesModel" "comesTo" "[I") ∈ gWS := gin4 73 rfl rfl
theorem wd_4_74 : (Jvm.Cond.laysFinal "FoldGatesModel" "FoldGatesModel" "row" "[I") ∈ gWS := gin4 74 rfl rfl
theorem wd_4_76 : (Jvm.Cond.laysFinal "FoldGatesModel" "FoldGatesModel" "pasts" "[I") ∈ gWS := gin4 76 rfl rfl
theorem wd_4_78 : (Jvm.Cond.lays "FoldGatesModel" "FoldGatesModel" "pastMany" "I") ∈ gWS := gin4 78 rfl rfl
theorem wd_4_80 : (Jvm.Cond.laysFinal "FoldGatesModel" "FoldGatesModel" "tape" "[I") ∈ gWS := gin4 80 rfl rfl
theorem wd_4_82 : (Jvm.Cond.lays "FoldGatesModel" "FoldGatesModel" "taped" "I") ∈ gWS := gin4 82 rfl rfl
theorem wd_4_84 : (Jvm.Cond.lays "FoldGatesModel" "FoldGatesModel" "fault" "I") ∈ gWS := gin4 84 rfl rfl
theorem wd_4_86 : (Jvm.Cond.lays "FoldGatesModel" "FoldGatesModel" "status" "I") ∈ gWS := gin4 86 rfl rfl
theorem wd_4_88 : (Jvm.Cond.laysFinal "FoldGatesModel" "FoldGatesModel" "lanes" "[I") ∈ gWS := gin4 88 rfl rfl
theorem wd_4_90 : (Jvm.Cond.laysFinal "FoldGatesModel" "FoldGatesModel" "sizes" "[I") ∈ gWS := gin4 90 rfl rfl
theorem wd_4_92 : (Jvm.Cond.laysFinal "FoldGatesModel" "FoldGatesModel" "items" "[I") ∈ gWS := gin4 92 rfl rfl
theorem wd_4_94 : (Jvm.Cond.laysFinal "FoldGatesModel" "FoldGatesModel" "traces" "[I") ∈ gWS := gin4 94 rfl rfl
theorem wd_4_96 : (Jvm.Cond.lays "FoldGatesModel" "FoldGatesModel" "traceMany" "I") ∈ gWS := gin4 96 rfl rfl
theorem wd_4_98 : (Jvm.Cond.lays "FoldGatesModel" "FoldGatesModel" "stuck" "I") ∈ gWS := gin4 98 rfl rfl
theorem wd_4_100 : (Jvm.Cond.lays "FoldGatesModel" "FoldGatesModel" "at" "I") ∈ gWS := gin4 100 rfl rfl
theorem wd_4_102 : (Jvm.Cond.lays "FoldGatesModel" "FoldGatesModel" "place" "I") ∈ gWS := gin4 102 rfl rfl
theorem wd_4_104 : (Jvm.Cond.lays "FoldGatesModel" "FoldGatesModel" "end" "I") ∈ gWS := gin4 104 rfl rfl
theorem wd_4_106 : (Jvm.Cond.lays "FoldGatesModel" "FoldGatesModel" "readPens" "I") ∈ gWS := gin4 106 rfl rfl
theorem wd_4_108 : (Jvm.Cond.laysFinal "FoldGatesModel" "FoldGatesModel" "readHurdles" "[I") ∈ gWS := gin4 108 rfl rfl
theorem wd_4_110 : (Jvm.Cond.lays "FoldGatesModel" "FoldGatesModel" "readMany" "I") ∈ gWS := gin4 110 rfl rfl
theorem wd_4_112 : (Jvm.Cond.laysFinal "FoldGatesModel" "FoldGatesModel" "readBeasts" "[I") ∈ gWS := gin4 112 rfl rfl
theorem wd_4_114 : (Jvm.Cond.lays "FoldGatesModel" "FoldGatesModel" "readBeastMany" "I") ∈ gWS := gin4 114 rfl rfl
theorem wd_4_116 : (Jvm.Cond.laysFinal "FoldGatesModel" "FoldGatesModel" "fars" "[I") ∈ gWS := gin4 116 rfl rfl
theorem wd_4_118 : (Jvm.Cond.laysFinal "FoldGatesModel" "FoldGatesModel" "queue" "[I") ∈ gWS := gin4 118 rfl rfl
theorem wd_4_120 : (Jvm.Cond.lays "FoldGatesModel" "FoldGatesModel" "queued" "I") ∈ gWS := gin4 120 rfl rfl
theorem wd_4_122 : (Jvm.Cond.laysFinal "FoldGatesModel" "FoldGatesModel" "onWay" "[Z") ∈ gWS := gin4 122 rfl rfl
theorem wd_4_124 : (Jvm.Cond.laysFinal "FoldGatesModel" "FoldGatesModel" "comesTo" "[I") ∈ gWS := gin4 124 rfl rfl
theorem wd_4_127 : (Jvm.Cond.arrayClass Jvm.ClassFile.FieldType.boolean) ∈ gWS := gin4 127 rfl rfl
theorem wd_4_128 : (Jvm.Cond.methodLink "FoldGatesLaw" (17 : Nat) ({ cls := "FoldGatesModel", name := "row", desc := "(III)I" } : Jvm.MethodName)) ∈ gWS := gin4 128 rfl rfl
theorem wd_4_129 : (Jvm.Cond.instanceMethod ({ cls := "FoldGatesModel", name := "row", desc := "(III)I" } : Jvm.MethodName)) ∈ gWS := gin4 129 rfl rfl
theorem wd_4_130 : (Jvm.Cond.selects "FoldGatesModel" ({ cls := "FoldGatesModel", name := "row", desc := "(III)I" } : Jvm.MethodName) ({ cls := "FoldGatesModel", name := "row", desc := "(III)I" } : Jvm.MethodName)) ∈ gWS := gin4 130 rfl rfl
theorem wd_4_131 : (Jvm.Cond.code ({ cls := "FoldGatesModel", name := "row", desc := "(III)I" } : Jvm.MethodName) prog_8_method_7_code (5 : Nat) (Option.some Jvm.ClassFile.FieldType.int)) ∈ gWS := gin4 131 rfl rfl
theorem wd_4_132 : (Jvm.Cond.methodLink "FoldGatesModel" (65 : Nat) ({ cls := "FoldGatesModel", name := "isRow", desc := "(I)Z" } : Jvm.MethodName)) ∈ gWS := gin4 132 rfl rfl
theorem wd_4_133 : (Jvm.Cond.static ({ cls := "FoldGatesModel", name := "isRow", desc := "(I)Z" } : Jvm.MethodName)) ∈ gWS := gin4 133 rfl rfl
theorem wd_4_134 : (Jvm.Cond.code ({ cls := "FoldGatesModel", name := "isRow", desc := "(I)Z" } : Jvm.MethodName) prog_8_method_6_code (1 : Nat) (Option.some Jvm.ClassFile.FieldType.boolean)) ∈ gWS := gin4 134 rfl rfl
theorem wd_4_135 : (Jvm.Cond.constantLong "FoldGatesModel" (59 : Nat) (7 : Int64)) ∈ gWS := gin4 135 rfl rfl
theorem wd_4_136 : (Jvm.Cond.methodLink "FoldGatesModel" (61 : Nat) ({ cls := "FoldGatesModel", name := "in", desc := "(JJJ)Z" } : Jvm.MethodName)) ∈ gWS := gin4 136 rfl rfl
theorem wd_4_137 : (Jvm.Cond.static ({ cls := "FoldGatesModel", name := "in", desc := "(JJJ)Z" } : Jvm.MethodName)) ∈ gWS := gin4 137 rfl rfl
theorem wd_4_138 : (Jvm.Cond.code ({ cls := "FoldGatesModel", name := "in", desc := "(JJJ)Z" } : Jvm.MethodName) prog_8_method_2_code (6 : Nat) (Option.some Jvm.ClassFile.FieldType.boolean)) ∈ gWS := gin4 138 rfl rfl
theorem wd_4_139 : (Jvm.Cond.constantLong "FoldGatesModel" (69 : Nat) (2 : Int64)) ∈ gWS := gin4 139 rfl rfl
theorem wd_4_140 : (Jvm.Cond.constant "FoldGatesModel" (71 : Nat) (-1000001 : Int32)) ∈ gWS := gin4 140 rfl rfl
theorem wd_4_141 : (Jvm.Cond.methodLink "FoldGatesModel" (72 : Nat) ({ cls := "FoldGatesModel", name := "find", desc := "(I)I" } : Jvm.MethodName)) ∈ gWS := gin4 141 rfl rfl
theorem wd_4_143 : (Jvm.Cond.instanceMethod ({ cls := "FoldGatesModel", name := "find", desc := "(I)I" } : Jvm.MethodName)) ∈ gWS := gin4 143 rfl rfl
theorem wd_4_144 : (Jvm.Cond.code ({ cls := "FoldGatesModel", name := "find", desc := "(I)I" } : Jvm.MethodName) prog_8_method_4_code (2 : Nat) (Option.some Jvm.ClassFile.FieldType.int)) ∈ gWS := gin4 144 rfl rfl
theorem wd_4_145 : (Jvm.Cond.constant "FoldGatesModel" (58 : Nat) (-1000010 : Int32)) ∈ gWS := gin4 145 rfl rfl
theorem wd_4_146 : (Jvm.Cond.methodLink "FoldGatesModel" (76 : Nat) ({ cls := "FoldGatesModel", name := "give", desc := "(I)I" } : Jvm.MethodName)) ∈ gWS := gin4 146 rfl rfl
theorem wd_4_148 : (Jvm.Cond.instanceMethod ({ cls := "FoldGatesModel", name := "give", desc := "(I)I" } : Jvm.MethodName)) ∈ gWS := gin4 148 rfl rfl
theorem wd_4_149 : (Jvm.Cond.code ({ cls := "FoldGatesModel", name := "give", desc := "(I)I" } : Jvm.MethodName) prog_8_method_5_code (2 : Nat) (Option.some Jvm.ClassFile.FieldType.int)) ∈ gWS := gin4 149 rfl rfl
theorem wd_4_150 : (Jvm.Cond.methodLink "FoldGatesLaw" (21 : Nat) ({ cls := "FoldGatesModel", name := "set", desc := "(III)I" } : Jvm.MethodName)) ∈ gWS := gin4 150 rfl rfl
theorem wd_4_151 : (Jvm.Cond.instanceMethod ({ cls := "FoldGatesModel", name := "set", desc := "(III)I" } : Jvm.MethodName)) ∈ gWS := gin4 151 rfl rfl
theorem wd_4_152 : (Jvm.Cond.selects "FoldGatesModel" ({ cls := "FoldGatesModel", name := "set", desc := "(III)I" } : Jvm.MethodName) ({ cls := "FoldGatesModel", name := "set", desc := "(III)I" } : Jvm.MethodName)) ∈ gWS := gin4 152 rfl rfl
theorem wd_4_153 : (Jvm.Cond.code ({ cls := "FoldGatesModel", name := "set", desc := "(III)I" } : Jvm.MethodName) prog_8_method_8_code (4 : Nat) (Option.some Jvm.ClassFile.FieldType.int)) ∈ gWS := gin4 153 rfl rfl
theorem wd_4_154 : (Jvm.Cond.methodLink "FoldGatesLaw" (26 : Nat) ({ cls := "FoldGatesModel", name := "copy", desc := "(IIIII)I" } : Jvm.MethodName)) ∈ gWS := gin4 154 rfl rfl
theorem wd_4_155 : (Jvm.Cond.instanceMethod ({ cls := "FoldGatesModel", name := "copy", desc := "(IIIII)I" } : Jvm.MethodName)) ∈ gWS := gin4 155 rfl rfl
theorem wd_4_156 : (Jvm.Cond.selects "FoldGatesModel" ({ cls := "FoldGatesModel", name := "copy", desc := "(IIIII)I" } : Jvm.MethodName) ({ cls := "FoldGatesModel", name := "copy", desc := "(IIIII)I" } : Jvm.MethodName)) ∈ gWS := gin4 156 rfl rfl
theorem wd_4_157 : (Jvm.Cond.code ({ cls := "FoldGatesModel", name := "copy", desc := "(IIIII)I" } : Jvm.MethodName) prog_8_method_10_code (8 : Nat) (Option.some Jvm.ClassFile.FieldType.int)) ∈ gWS := gin4 157 rfl rfl
theorem wd_4_158 : (Jvm.Cond.methodLink "FoldGatesModel" (79 : Nat) ({ cls := "FoldGatesModel", name := "isSpan", desc := "(III)Z" } : Jvm.MethodName)) ∈ gWS := gin4 158 rfl rfl
theorem wd_4_160 : (Jvm.Cond.instanceMethod ({ cls := "FoldGatesModel", name := "isSpan", desc := "(III)Z" } : Jvm.MethodName)) ∈ gWS := gin4 160 rfl rfl
theorem wd_4_161 : (Jvm.Cond.code ({ cls := "FoldGatesModel", name := "isSpan", desc := "(III)Z" } : Jvm.MethodName) prog_8_method_9_code (4 : Nat) (Option.some Jvm.ClassFile.FieldType.boolean)) ∈ gWS := gin4 161 rfl rfl
theorem wd_4_162 : (Jvm.Cond.methodLink "FoldGatesLaw" (31 : Nat) ({ cls := "FoldGatesModel", name := "drop", desc := "(I)I" } : Jvm.MethodName)) ∈ gWS := gin4 162 rfl rfl
theorem wd_4_163 : (Jvm.Cond.instanceMethod ({ cls := "FoldGatesModel", name := "drop", desc := "(I)I" } : Jvm.MethodName)) ∈ gWS := gin4 163 rfl rfl
theorem wd_4_164 : (Jvm.Cond.selects "FoldGatesModel" ({ cls := "FoldGatesModel", name := "drop", desc := "(I)I" } : Jvm.MethodName) ({ cls := "FoldGatesModel", name := "drop", desc := "(I)I" } : Jvm.MethodName)) ∈ gWS := gin4 164 rfl rfl
theorem wd_4_165 : (Jvm.Cond.code ({ cls := "FoldGatesModel", name := "drop", desc := "(I)I" } : Jvm.MethodName) prog_8_method_11_code (2 : Nat) (Option.some Jvm.ClassFile.FieldType.int)) ∈ gWS := gin4 165 rfl rfl
theorem wd_4_166 : (Jvm.Cond.methodLink "FoldGatesLaw" (38 : Nat) ({ cls := "FoldGatesModel", name := "feed", desc := "(JI)I" } : Jvm.MethodName)) ∈ gWS := gin4 166 rfl rfl
theorem wd_4_167 : (Jvm.Cond.instanceMethod ({ cls := "FoldGatesModel", name := "feed", desc := "(JI)I" } : Jvm.MethodName)) ∈ gWS := gin4 167 rfl rfl
theorem wd_4_168 : (Jvm.Cond.selects "FoldGatesModel" ({ cls := "FoldGatesModel", name := "feed", desc := "(JI)I" } : Jvm.MethodName) ({ cls := "FoldGatesModel", name := "feed", desc := "(JI)I" } : Jvm.MethodName)) ∈ gWS := gin4 168 rfl rfl
theorem wd_4_169 : (Jvm.Cond.code ({ cls := "FoldGatesModel", name := "feed", desc := "(JI)I" } : Jvm.MethodName) prog_8_method_12_code (5 : Nat) (Option.some Jvm.ClassFile.FieldType.int)) ∈ gWS := gin4 169 rfl rfl
theorem wd_4_170 : (Jvm.Cond.constantLong "FoldGatesModel" (83 : Nat) (8 : Int64)) ∈ gWS := gin4 170 rfl rfl
theorem wd_4_171 : (Jvm.Cond.constant "FoldGatesModel" (88 : Nat) (-1000003 : Int32)) ∈ gWS := gin4 171 rfl rfl
theorem wd_4_172 : (Jvm.Cond.constantLong "FoldGatesModel" (89 : Nat) (255 : Int64)) ∈ gWS := gin4 172 rfl rfl
theorem wd_4_173 : (Jvm.Cond.methodLink "FoldGatesLaw" (43 : Nat) ({ cls := "FoldGatesModel", name := "fold", desc := "()I" } : Jvm.MethodName)) ∈ gWS := gin4 173 rfl rfl
theorem wd_4_174 : (Jvm.Cond.instanceMethod ({ cls := "FoldGatesModel", name := "fold", desc := "()I" } : Jvm.MethodName)) ∈ gWS := gin4 174 rfl rfl
theorem wd_4_175 : (Jvm.Cond.selects "FoldGatesModel" ({ cls := "FoldGatesModel", name := "fold", desc := "()I" } : Jvm.MethodName) ({ cls := "FoldGatesModel", name := "fold", desc := "()I" } : Jvm.MethodName)) ∈ gWS := gin4 175 rfl rfl
theorem wd_4_176 : (Jvm.Cond.code ({ cls := "FoldGatesModel", name := "fold", desc := "()I" } : Jvm.MethodName) prog_8_method_26_code (4 : Nat) (Option.some Jvm.ClassFile.FieldType.int)) ∈ gWS := gin4 176 rfl rfl
theorem wd_4_177 : (Jvm.Cond.methodLink "FoldGatesModel" (163 : Nat) ({ cls := "FoldGatesModel", name := "readsAll", desc := "()Z" } : Jvm.MethodName)) ∈ gWS := gin4 177 rfl rfl
theorem wd_4_179 : (Jvm.Cond.instanceMethod ({ cls := "FoldGatesModel", name := "readsAll", desc := "()Z" } : Jvm.MethodName)) ∈ gWS := gin4 179 rfl rfl
theorem wd_4_180 : (Jvm.Cond.code ({ cls := "FoldGatesModel", name := "readsAll", desc := "()Z" } : Jvm.MethodName) prog_8_method_25_code (1 : Nat) (Option.some Jvm.ClassFile.FieldType.boolean)) ∈ gWS := gin4 180 rfl rfl
theorem wd_4_181 : (Jvm.Cond.methodLink "FoldGatesModel" (120 : Nat) ({ cls := "FoldGatesModel", name := "token", desc := "()V" } : Jvm.MethodName)) ∈ gWS := gin4 181 rfl rfl
theorem wd_4_183 : (Jvm.Cond.instanceMethod ({ cls := "FoldGatesModel", name := "token", desc := "()V" } : Jvm.MethodName)) ∈ gWS := gin4 183 rfl rfl
theorem wd_4_184 : (Jvm.Cond.code ({ cls := "FoldGatesModel", name := "token", desc := "()V" } : Jvm.MethodName) prog_8_method_14_code (1 : Nat) (Option.none : Option Jvm.ClassFile.FieldType)) ∈ gWS := gin4 184 rfl rfl
theorem wd_4_185 : (Jvm.Cond.methodLink "FoldGatesModel" (97 : Nat) ({ cls := "FoldGatesModel", name := "sort", desc := "(I)I" } : Jvm.MethodName)) ∈ gWS := gin4 185 rfl rfl
theorem wd_4_186 : (Jvm.Cond.static ({ cls := "FoldGatesModel", name := "sort", desc := "(I)I" } : Jvm.MethodName)) ∈ gWS := gin4 186 rfl rfl
theorem wd_4_187 : (Jvm.Cond.code ({ cls := "FoldGatesModel", name := "sort", desc := "(I)I" } : Jvm.MethodName) prog_8_method_13_code (1 : Nat) (Option.some Jvm.ClassFile.FieldType.int)) ∈ gWS := gin4 187 rfl rfl
theorem wd_4_188 : (Jvm.Cond.methodLink "FoldGatesModel" (152 : Nat) ({ cls := "FoldGatesModel", name := "readsLaw", desc := "()Z" } : Jvm.MethodName)) ∈ gWS := gin4 188 rfl rfl
theorem wd_4_190 : (Jvm.Cond.instanceMethod ({ cls := "FoldGatesModel", name := "readsLaw", desc := "()Z" } : Jvm.MethodName)) ∈ gWS := gin4 190 rfl rfl
theorem wd_4_191 : (Jvm.Cond.code ({ cls := "FoldGatesModel", name := "readsLaw", desc := "()Z" } : Jvm.MethodName) prog_8_method_22_code (1 : Nat) (Option.some Jvm.ClassFile.FieldType.boolean)) ∈ gWS := gin4 191 rfl rfl
theorem wd_4_192 : (Jvm.Cond.constant "FoldGatesModel" (131 : Nat) (143846 : Int32)) ∈ gWS := gin4 192 rfl rfl
theorem wd_4_193 : (Jvm.Cond.methodLink "FoldGatesModel" (104 : Nat) ({ cls := "FoldGatesModel", name := "isWord", desc := "(II)Z" } : Jvm.MethodName)) ∈ gWS := gin4 193 rfl rfl
theorem wd_4_195 : (Jvm.Cond.instanceMethod ({ cls := "FoldGatesModel", name := "isWord", desc := "(II)Z" } : Jvm.MethodName)) ∈ gWS := gin4 195 rfl rfl
theorem wd_4_196 : (Jvm.Cond.code ({ cls := "FoldGatesModel", name := "isWord", desc := "(II)Z" } : Jvm.MethodName) prog_8_method_15_code (5 : Nat) (Option.some Jvm.ClassFile.FieldType.boolean)) ∈ gWS := gin4 196 rfl rfl
theorem wd_4_197 : (Jvm.Cond.methodLink "FoldGatesModel" (132 : Nat) ({ cls := "FoldGatesModel", name := "number", desc := "(II)I" } : Jvm.MethodName)) ∈ gWS := gin4 197 rfl rfl
theorem wd_4_199 : (Jvm.Cond.instanceMethod ({ cls := "FoldGatesModel", name := "number", desc := "(II)I" } : Jvm.MethodName)) ∈ gWS := gin4 199 rfl rfl
theorem wd_4_200 : (Jvm.Cond.code ({ cls := "FoldGatesModel", name := "number", desc := "(II)I" } : Jvm.MethodName) prog_8_method_19_code (4 : Nat) (Option.some Jvm.ClassFile.FieldType.int)) ∈ gWS := gin4 200 rfl rfl
theorem wd_4_201 : (Jvm.Cond.methodLink "FoldGatesModel" (116 : Nat) ({ cls := "FoldGatesModel", name := "numberHere", desc := "(II)I" } : Jvm.MethodName)) ∈ gWS := gin4 201 rfl rfl
theorem wd_4_203 : (Jvm.Cond.instanceMethod ({ cls := "FoldGatesModel", name := "numberHere", desc := "(II)I" } : Jvm.MethodName)) ∈ gWS := gin4 203 rfl rfl
theorem wd_4_204 : (Jvm.Cond.code ({ cls := "FoldGatesModel", name := "numberHere", desc := "(II)I" } : Jvm.MethodName) prog_8_method_18_code (5 : Nat) (Option.some Jvm.ClassFile.FieldType.int)) ∈ gWS := gin4 204 rfl rfl
theorem wd_4_205 : (Jvm.Cond.methodLink "FoldGatesModel" (135 : Nat) ({ cls := "FoldGatesModel", name := "readsSign", desc := "()Z" } : Jvm.MethodName)) ∈ gWS := gin4 205 rfl rfl
theorem wd_4_207 : (Jvm.Cond.instanceMethod ({ cls := "FoldGatesModel", name := "readsSign", desc := "()Z" } : Jvm.MethodName)) ∈ gWS := gin4 207 rfl rfl
theorem wd_4_208 : (Jvm.Cond.code ({ cls := "FoldGatesModel", name := "readsSign", desc := "()Z" } : Jvm.MethodName) prog_8_method_20_code (1 : Nat) (Option.some Jvm.ClassFile.FieldType.boolean)) ∈ gWS := gin4 208 rfl rfl
theorem wd_4_209 : (Jvm.Cond.constant "FoldGatesModel" (155 : Nat) (180505256 : Int32)) ∈ gWS := gin4 209 rfl rfl
theorem wd_4_210 : (Jvm.Cond.methodLink "FoldGatesModel" (156 : Nat) ({ cls := "FoldGatesModel", name := "readsHurdle", desc := "()Z" } : Jvm.MethodName)) ∈ gWS := gin4 210 rfl rfl
theorem wd_4_212 : (Jvm.Cond.instanceMethod ({ cls := "FoldGatesModel", name := "readsHurdle", desc := "()Z" } : Jvm.MethodName)) ∈ gWS := gin4 212 rfl rfl
theorem wd_4_213 : (Jvm.Cond.code ({ cls := "FoldGatesModel", name := "readsHurdle", desc := "()Z" } : Jvm.MethodName) prog_8_method_23_code (5 : Nat) (Option.some Jvm.ClassFile.FieldType.boolean)) ∈ gWS := gin4 213 rfl rfl
theorem wd_4_214 : (Jvm.Cond.methodLink "FoldGatesModel" (139 : Nat) ({ cls := "FoldGatesModel", name := "hurdleWord", desc := "()I" } : Jvm.MethodName)) ∈ gWS := gin4 214 rfl rfl
theorem wd_4_216 : (Jvm.Cond.instanceMethod ({ cls := "FoldGatesModel", name := "hurdleWord", desc := "()I" } : Jvm.MethodName)) ∈ gWS := gin4 216 rfl rfl
theorem wd_4_217 : (Jvm.Cond.code ({ cls := "FoldGatesModel", name := "hurdleWord", desc := "()I" } : Jvm.MethodName) prog_8_method_16_code (1 : Nat) (Option.some Jvm.ClassFile.FieldType.int)) ∈ gWS := gin4 217 rfl rfl
theorem wd_4_218 : (Jvm.Cond.constant "FoldGatesModel" (103 : Nat) (7808755 : Int32)) ∈ gWS := gin4 218 rfl rfl
theorem wd_4_219 : (Jvm.Cond.constant "FoldGatesModel" (108 : Nat) (6497939 : Int32)) ∈ gWS := gin4 219 rfl rfl
theorem wd_4_220 : (Jvm.Cond.constant "FoldGatesModel" (109 : Nat) (675312 : Int32)) ∈ gWS := gin4 220 rfl rfl
theorem wd_4_221 : (Jvm.Cond.methodLink "FoldGatesModel" (143 : Nat) ({ cls := "FoldGatesModel", name := "way", desc := "()I" } : Jvm.MethodName)) ∈ gWS := gin4 221 rfl rfl
theorem wd_4_223 : (Jvm.Cond.instanceMethod ({ cls := "FoldGatesModel", name := "way", desc := "()I" } : Jvm.MethodName)) ∈ gWS := gin4 223 rfl rfl
theorem wd_4_224 : (Jvm.Cond.code ({ cls := "FoldGatesModel", name := "way", desc := "()I" } : Jvm.MethodName) prog_8_method_21_code (2 : Nat) (Option.some Jvm.ClassFile.FieldType.int)) ∈ gWS := gin4 224 rfl rfl
theorem wd_4_225 : (Jvm.Cond.constantLong "FoldGatesModel" (126 : Nat) (10 : Int64)) ∈ gWS := gin4 225 rfl rfl
theorem wd_4_226 : (Jvm.Cond.constant "FoldGatesModel" (159 : Nat) (21595298 : Int32)) ∈ gWS := gin4 226 rfl rfl
theorem wd_4_227 : (Jvm.Cond.methodLink "FoldGatesModel" (160 : Nat) ({ cls := "FoldGatesModel", name := "readsBeast", desc := "()Z" } : Jvm.MethodName)) ∈ gWS := gin4 227 rfl rfl
theorem wd_4_229 : (Jvm.Cond.instanceMethod ({ cls := "FoldGatesModel", name := "readsBeast", desc := "()Z" } : Jvm.MethodName)) ∈ gWS := gin4 229 rfl rfl
theorem wd_4_230 : (Jvm.Cond.code ({ cls := "FoldGatesModel", name := "readsBeast", desc := "()Z" } : Jvm.MethodName) prog_8_method_24_code (3 : Nat) (Option.some Jvm.ClassFile.FieldType.boolean)) ∈ gWS := gin4 230 rfl rfl
theorem wd_4_231 : (Jvm.Cond.methodLink "FoldGatesModel" (149 : Nat) ({ cls := "FoldGatesModel", name := "beastWord", desc := "()I" } : Jvm.MethodName)) ∈ gWS := gin4 231 rfl rfl
theorem wd_4_233 : (Jvm.Cond.instanceMethod ({ cls := "FoldGatesModel", name := "beastWord", desc := "()I" } : Jvm.MethodName)) ∈ gWS := gin4 233 rfl rfl
theorem wd_4_234 : (Jvm.Cond.code ({ cls := "FoldGatesModel", name := "beastWord", desc := "()I" } : Jvm.MethodName) prog_8_method_17_code (1 : Nat) (Option.some Jvm.ClassFile.FieldType.int)) ∈ gWS := gin4 234 rfl rfl
theorem wd_4_235 : (Jvm.Cond.constant "FoldGatesModel" (110 : Nat) (78892 : Int32)) ∈ gWS := gin4 235 rfl rfl
theorem wd_4_236 : (Jvm.Cond.constant "FoldGatesModel" (111 : Nat) (4662658 : Int32)) ∈ gWS := gin4 236 rfl rfl
theorem wd_4_237 : (Jvm.Cond.constant "FoldGatesModel" (112 : Nat) (139839533 : Int32)) ∈ gWS := gin4 237 rfl rfl
theorem wd_4_238 : (Jvm.Cond.constant "FoldGatesModel" (166 : Nat) (-1000100 : Int32)) ∈ gWS := gin4 238 rfl rfl
theorem wd_4_239 : (Jvm.Cond.methodLink "FoldGatesLaw" (47 : Nat) ({ cls := "FoldGatesModel", name := "fault", desc := "()I" } : Jvm.MethodName)) ∈ gWS := gin4 239 rfl rfl
theorem wd_5_0 : (Jvm.Cond.instanceMethod ({ cls := "FoldGatesModel", name := "fault", desc := "()I" } : Jvm.MethodName)) ∈ gWS := gin5 0 rfl rfl
theorem wd_5_1 : (Jvm.Cond.selects "FoldGatesModel" ({ cls := "FoldGatesModel", name := "fault", desc := "()I" } : Jvm.MethodName) ({ cls := "FoldGatesModel", name := "fault", desc := "()I" } : Jvm.MethodName)) ∈ gWS := gin5 1 rfl rfl
theorem wd_5_2 : (Jvm.Cond.code ({ cls := "FoldGatesModel", name := "fault", desc := "()I" } : Jvm.MethodName) prog_8_method_27_code (1 : Nat) (Option.some Jvm.ClassFile.FieldType.int)) ∈ gWS := gin5 2 rfl rfl
theorem wd_5_3 : (Jvm.Cond.methodLink "FoldGatesLaw" (51 : Nat) ({ cls := "FoldGatesModel", name := "run", desc := "(I)I" } : Jvm.MethodName)) ∈ gWS := gin5 3 rfl rfl
theorem wd_5_4 : (Jvm.Cond.instanceMethod ({ cls := "FoldGatesModel", name := "run", desc := "(I)I" } : Jvm.MethodName)) ∈ gWS := gin5 4 rfl rfl
theorem wd_5_5 : (Jvm.Cond.selects "FoldGatesModel" ({ cls := "FoldGatesModel", name := "run", desc := "(I)I" } : Jvm.MethodName) ({ cls := "FoldGatesModel", name := "run", desc := "(I)I" } : Jvm.MethodName)) ∈ gWS := gin5 5 rfl rfl
theorem wd_5_6 : (Jvm.Cond.code ({ cls := "FoldGatesModel", name := "run", desc := "(I)I" } : Jvm.MethodName) prog_8_method_39_code (2 : Nat) (Option.some Jvm.ClassFile.FieldType.int)) ∈ gWS := gin5 6 rfl rfl
theorem wd_5_7 : (Jvm.Cond.methodLink "FoldGatesModel" (190 : Nat) ({ cls := "FoldGatesModel", name := "isBeast", desc := "(I)Z" } : Jvm.MethodName)) ∈ gWS := gin5 7 rfl rfl
theorem wd_5_9 : (Jvm.Cond.instanceMethod ({ cls := "FoldGatesModel", name := "isBeast", desc := "(I)Z" } : Jvm.MethodName)) ∈ gWS := gin5 9 rfl rfl
theorem wd_5_10 : (Jvm.Cond.code ({ cls := "FoldGatesModel", name := "isBeast", desc := "(I)Z" } : Jvm.MethodName) prog_8_method_28_code (2 : Nat) (Option.some Jvm.ClassFile.FieldType.boolean)) ∈ gWS := gin5 10 rfl rfl
theorem wd_5_11 : (Jvm.Cond.methodLink "FoldGatesModel" (193 : Nat) ({ cls := "FoldGatesModel", name := "inPens", desc := "()I" } : Jvm.MethodName)) ∈ gWS := gin5 11 rfl rfl
theorem wd_5_13 : (Jvm.Cond.instanceMethod ({ cls := "FoldGatesModel", name := "inPens", desc := "()I" } : Jvm.MethodName)) ∈ gWS := gin5 13 rfl rfl
theorem wd_5_14 : (Jvm.Cond.code ({ cls := "FoldGatesModel", name := "inPens", desc := "()I" } : Jvm.MethodName) prog_8_method_36_code (3 : Nat) (Option.some Jvm.ClassFile.FieldType.int)) ∈ gWS := gin5 14 rfl rfl
theorem wd_5_15 : (Jvm.Cond.methodLink "FoldGatesModel" (196 : Nat) ({ cls := "FoldGatesModel", name := "runOne", desc := "(I)I" } : Jvm.MethodName)) ∈ gWS := gin5 15 rfl rfl
theorem wd_5_17 : (Jvm.Cond.instanceMethod ({ cls := "FoldGatesModel", name := "runOne", desc := "(I)I" } : Jvm.MethodName)) ∈ gWS := gin5 17 rfl rfl
theorem wd_5_18 : (Jvm.Cond.code ({ cls := "FoldGatesModel", name := "runOne", desc := "(I)I" } : Jvm.MethodName) prog_8_method_38_code (3 : Nat) (Option.some Jvm.ClassFile.FieldType.int)) ∈ gWS := gin5 18 rfl rfl
theorem wd_5_19 : (Jvm.Cond.methodLink "FoldGatesModel" (184 : Nat) ({ cls := "FoldGatesModel", name := "keepPast", desc := "()V" } : Jvm.MethodName)) ∈ gWS := gin5 19 rfl rfl
theorem wd_5_21 : (Jvm.Cond.instanceMethod ({ cls := "FoldGatesModel", name := "keepPast", desc := "()V" } : Jvm.MethodName)) ∈ gWS := gin5 21 rfl rfl
theorem wd_5_22 : (Jvm.Cond.code ({ cls := "FoldGatesModel", name := "keepPast", desc := "()V" } : Jvm.MethodName) prog_8_method_37_code (2 : Nat) (Option.none : Option Jvm.ClassFile.FieldType)) ∈ gWS := gin5 22 rfl rfl
theorem wd_5_23 : (Jvm.Cond.methodLink "FoldGatesModel" (187 : Nat) ({ cls := "FoldGatesModel", name := "go", desc := "(II)I" } : Jvm.MethodName)) ∈ gWS := gin5 23 rfl rfl
theorem wd_5_25 : (Jvm.Cond.instanceMethod ({ cls := "FoldGatesModel", name := "go", desc := "(II)I" } : Jvm.MethodName)) ∈ gWS := gin5 25 rfl rfl
theorem wd_5_26 : (Jvm.Cond.code ({ cls := "FoldGatesModel", name := "go", desc := "(II)I" } : Jvm.MethodName) prog_8_method_35_code (5 : Nat) (Option.some Jvm.ClassFile.FieldType.int)) ∈ gWS := gin5 26 rfl rfl
theorem wd_5_27 : (Jvm.Cond.methodLink "FoldGatesModel" (180 : Nat) ({ cls := "FoldGatesModel", name := "pass", desc := "(III)I" } : Jvm.MethodName)) ∈ gWS := gin5 27 rfl rfl
theorem wd_5_29 : (Jvm.Cond.instanceMethod ({ cls := "FoldGatesModel", name := "pass", desc := "(III)I" } : Jvm.MethodName)) ∈ gWS := gin5 29 rfl rfl
theorem wd_5_30 : (Jvm.Cond.code ({ cls := "FoldGatesModel", name := "pass", desc := "(III)I" } : Jvm.MethodName) prog_8_method_34_code (8 : Nat) (Option.some Jvm.ClassFile.FieldType.int)) ∈ gWS := gin5 30 rfl rfl
theorem wd_5_31 : (Jvm.Cond.methodLink "FoldGatesModel" (170 : Nat) ({ cls := "FoldGatesModel", name := "sortOf", desc := "(I)I" } : Jvm.MethodName)) ∈ gWS := gin5 31 rfl rfl
theorem wd_5_33 : (Jvm.Cond.instanceMethod ({ cls := "FoldGatesModel", name := "sortOf", desc := "(I)I" } : Jvm.MethodName)) ∈ gWS := gin5 33 rfl rfl
theorem wd_5_34 : (Jvm.Cond.code ({ cls := "FoldGatesModel", name := "sortOf", desc := "(I)I" } : Jvm.MethodName) prog_8_method_31_code (2 : Nat) (Option.some Jvm.ClassFile.FieldType.int)) ∈ gWS := gin5 34 rfl rfl
theorem wd_5_35 : (Jvm.Cond.methodLink "FoldGatesModel" (173 : Nat) ({ cls := "FoldGatesModel", name := "push", desc := "(II)Z" } : Jvm.MethodName)) ∈ gWS := gin5 35 rfl rfl
theorem wd_5_37 : (Jvm.Cond.instanceMethod ({ cls := "FoldGatesModel", name := "push", desc := "(II)Z" } : Jvm.MethodName)) ∈ gWS := gin5 37 rfl rfl
theorem wd_5_38 : (Jvm.Cond.code ({ cls := "FoldGatesModel", name := "push", desc := "(II)Z" } : Jvm.MethodName) prog_8_method_32_code (4 : Nat) (Option.some Jvm.ClassFile.FieldType.boolean)) ∈ gWS := gin5 38 rfl rfl
theorem wd_5_39 : (Jvm.Cond.methodLink "FoldGatesModel" (176 : Nat) ({ cls := "FoldGatesModel", name := "turn", desc := "(II)V" } : Jvm.MethodName)) ∈ gWS := gin5 39 rfl rfl
theorem wd_5_41 : (Jvm.Cond.instanceMethod ({ cls := "FoldGatesModel", name := "turn", desc := "(II)V" } : Jvm.MethodName)) ∈ gWS := gin5 41 rfl rfl
theorem wd_5_42 : (Jvm.Cond.code ({ cls := "FoldGatesModel", name := "turn", desc := "(II)V" } : Jvm.MethodName) prog_8_method_33_code (4 : Nat) (Option.none : Option Jvm.ClassFile.FieldType)) ∈ gWS := gin5 42 rfl rfl
theorem wd_5_43 : (Jvm.Cond.methodLink "FoldGatesLaw" (55 : Nat) ({ cls := "FoldGatesModel", name := "runs", desc := "(III)I" } : Jvm.MethodName)) ∈ gWS := gin5 43 rfl rfl
theorem wd_5_44 : (Jvm.Cond.instanceMethod ({ cls := "FoldGatesModel", name := "runs", desc := "(III)I" } : Jvm.MethodName)) ∈ gWS := gin5 44 rfl rfl
theorem wd_5_45 : (Jvm.Cond.selects "FoldGatesModel" ({ cls := "FoldGatesModel", name := "runs", desc := "(III)I" } : Jvm.MethodName) ({ cls := "FoldGatesModel", name := "runs", desc := "(III)I" } : Jvm.MethodName)) ∈ gWS := gin5 45 rfl rfl
theorem wd_5_46 : (Jvm.Cond.code ({ cls := "FoldGatesModel", name := "runs", desc := "(III)I" } : Jvm.MethodName) prog_8_method_43_code (7 : Nat) (Option.some Jvm.ClassFile.FieldType.int)) ∈ gWS := gin5 46 rfl rfl
theorem wd_5_47 : (Jvm.Cond.constant "FoldGatesModel" (202 : Nat) (-1000002 : Int32)) ∈ gWS := gin5 47 rfl rfl
theorem wd_5_48 : (Jvm.Cond.constantLong "FoldGatesModel" (203 : Nat) (24 : Int64)) ∈ gWS := gin5 48 rfl rfl
theorem wd_5_49 : (Jvm.Cond.methodLink "FoldGatesModel" (205 : Nat) ({ cls := "FoldGatesModel", name := "refused", desc := "(III)I" } : Jvm.MethodName)) ∈ gWS := gin5 49 rfl rfl
theorem wd_5_51 : (Jvm.Cond.instanceMethod ({ cls := "FoldGatesModel", name := "refused", desc := "(III)I" } : Jvm.MethodName)) ∈ gWS := gin5 51 rfl rfl
theorem wd_5_52 : (Jvm.Cond.code ({ cls := "FoldGatesModel", name := "refused", desc := "(III)I" } : Jvm.MethodName) prog_8_method_40_code (4 : Nat) (Option.some Jvm.ClassFile.FieldType.int)) ∈ gWS := gin5 52 rfl rfl
theorem wd_5_53 : (Jvm.Cond.methodLink "FoldGatesModel" (208 : Nat) ({ cls := "FoldGatesModel", name := "areBeasts", desc := "(II)Z" } : Jvm.MethodName)) ∈ gWS := gin5 53 rfl rfl
theorem wd_5_55 : (Jvm.Cond.instanceMethod ({ cls := "FoldGatesModel", name := "areBeasts", desc := "(II)Z" } : Jvm.MethodName)) ∈ gWS := gin5 55 rfl rfl
theorem wd_5_56 : (Jvm.Cond.code ({ cls := "FoldGatesModel", name := "areBeasts", desc := "(II)Z" } : Jvm.MethodName) prog_8_method_41_code (5 : Nat) (Option.some Jvm.ClassFile.FieldType.boolean)) ∈ gWS := gin5 56 rfl rfl
theorem wd_5_57 : (Jvm.Cond.methodLink "FoldGatesLaw" (59 : Nat) ({ cls := "FoldGatesModel", name := "dawn", desc := "(I)I" } : Jvm.MethodName)) ∈ gWS := gin5 57 rfl rfl
theorem wd_5_58 : (Jvm.Cond.instanceMethod ({ cls := "FoldGatesModel", name := "dawn", desc := "(I)I" } : Jvm.MethodName)) ∈ gWS := gin5 58 rfl rfl
theorem wd_5_59 : (Jvm.Cond.selects "FoldGatesModel" ({ cls := "FoldGatesModel", name := "dawn", desc := "(I)I" } : Jvm.MethodName) ({ cls := "FoldGatesModel", name := "dawn", desc := "(I)I" } : Jvm.MethodName)) ∈ gWS := gin5 59 rfl rfl
theorem wd_5_60 : (Jvm.Cond.code ({ cls := "FoldGatesModel", name := "dawn", desc := "(I)I" } : Jvm.MethodName) prog_8_method_44_code (4 : Nat) (Option.some Jvm.ClassFile.FieldType.int)) ∈ gWS := gin5 60 rfl rfl
theorem wd_5_61 : (Jvm.Cond.methodLink "FoldGatesModel" (211 : Nat) ({ cls := "FoldGatesModel", name := "areStands", desc := "(I)Z" } : Jvm.MethodName)) ∈ gWS := gin5 61 rfl rfl
theorem wd_5_63 : (Jvm.Cond.instanceMethod ({ cls := "FoldGatesModel", name := "areStands", desc := "(I)Z" } : Jvm.MethodName)) ∈ gWS := gin5 63 rfl rfl
theorem wd_5_64 : (Jvm.Cond.code ({ cls := "FoldGatesModel", name := "areStands", desc := "(I)Z" } : Jvm.MethodName) prog_8_method_30_code (2 : Nat) (Option.some Jvm.ClassFile.FieldType.boolean)) ∈ gWS := gin5 64 rfl rfl
theorem wd_5_65 : (Jvm.Cond.methodLink "FoldGatesLaw" (63 : Nat) ({ cls := "FoldGatesModel", name := "undo", desc := "()I" } : Jvm.MethodName)) ∈ gWS := gin5 65 rfl rfl
theorem wd_5_66 : (Jvm.Cond.instanceMethod ({ cls := "FoldGatesModel", name := "undo", desc := "()I" } : Jvm.MethodName)) ∈ gWS := gin5 66 rfl rfl
theorem wd_5_67 : (Jvm.Cond.selects "FoldGatesModel" ({ cls := "FoldGatesModel", name := "undo", desc := "()I" } : Jvm.MethodName) ({ cls := "FoldGatesModel", name := "undo", desc := "()I" } : Jvm.MethodName)) ∈ gWS := gin5 67 rfl rfl
theorem wd_5_68 : (Jvm.Cond.code ({ cls := "FoldGatesModel", name := "undo", desc := "()I" } : Jvm.MethodName) prog_8_method_45_code (2 : Nat) (Option.some Jvm.ClassFile.FieldType.int)) ∈ gWS := gin5 68 rfl rfl
theorem wd_5_69 : (Jvm.Cond.methodLink "FoldGatesLaw" (68 : Nat) ({ cls := "FoldGatesModel", name := "hurdle", desc := "(II)I" } : Jvm.MethodName)) ∈ gWS := gin5 69 rfl rfl
theorem wd_5_70 : (Jvm.Cond.instanceMethod ({ cls := "FoldGatesModel", name := "hurdle", desc := "(II)I" } : Jvm.MethodName)) ∈ gWS := gin5 70 rfl rfl
theorem wd_5_71 : (Jvm.Cond.selects "FoldGatesModel" ({ cls := "FoldGatesModel", name := "hurdle", desc := "(II)I" } : Jvm.MethodName) ({ cls := "FoldGatesModel", name := "hurdle", desc := "(II)I" } : Jvm.MethodName)) ∈ gWS := gin5 71 rfl rfl
theorem wd_5_72 : (Jvm.Cond.code ({ cls := "FoldGatesModel", name := "hurdle", desc := "(II)I" } : Jvm.MethodName) prog_8_method_46_code (3 : Nat) (Option.some Jvm.ClassFile.FieldType.int)) ∈ gWS := gin5 72 rfl rfl
theorem wd_5_73 : (Jvm.Cond.constantLong "FoldGatesModel" (214 : Nat) (3 : Int64)) ∈ gWS := gin5 73 rfl rfl
theorem wd_5_74 : (Jvm.Cond.methodLink "FoldGatesLaw" (72 : Nat) ({ cls := "FoldGatesModel", name := "heavy", desc := "(I)I" } : Jvm.MethodName)) ∈ gWS := gin5 74 rfl rfl
theorem wd_5_75 : (Jvm.Cond.instanceMethod ({ cls := "FoldGatesModel", name := "heavy", desc := "(I)I" } : Jvm.MethodName)) ∈ gWS := gin5 75 rfl rfl
theorem wd_5_76 : (Jvm.Cond.selects "FoldGatesModel" ({ cls := "FoldGatesModel", name := "heavy", desc := "(I)I" } : Jvm.MethodName) ({ cls := "FoldGatesModel", name := "heavy", desc := "(I)I" } : Jvm.MethodName)) ∈ gWS := gin5 76 rfl rfl
theorem wd_5_77 : (Jvm.Cond.code ({ cls := "FoldGatesModel", name := "heavy", desc := "(I)I" } : Jvm.MethodName) prog_8_method_47_code (2 : Nat) (Option.some Jvm.ClassFile.FieldType.int)) ∈ gWS := gin5 77 rfl rfl
theorem wd_5_78 : (Jvm.Cond.methodLink "FoldGatesLaw" (76 : Nat) ({ cls := "FoldGatesModel", name := "pen", desc := "(II)I" } : Jvm.MethodName)) ∈ gWS := gin5 78 rfl rfl
theorem wd_5_79 : (Jvm.Cond.instanceMethod ({ cls := "FoldGatesModel", name := "pen", desc := "(II)I" } : Jvm.MethodName)) ∈ gWS := gin5 79 rfl rfl
theorem wd_5_80 : (Jvm.Cond.selects "FoldGatesModel" ({ cls := "FoldGatesModel", name := "pen", desc := "(II)I" } : Jvm.MethodName) ({ cls := "FoldGatesModel", name := "pen", desc := "(II)I" } : Jvm.MethodName)) ∈ gWS := gin5 80 rfl rfl
theorem wd_5_81 : (Jvm.Cond.code ({ cls := "FoldGatesModel", name := "pen", desc := "(II)I" } : Jvm.MethodName) prog_8_method_48_code (3 : Nat) (Option.some Jvm.ClassFile.FieldType.int)) ∈ gWS := gin5 81 rfl rfl
theorem wd_5_82 : (Jvm.Cond.methodLink "FoldGatesModel" (199 : Nat) ({ cls := "FoldGatesModel", name := "isPen", desc := "(I)Z" } : Jvm.MethodName)) ∈ gWS := gin5 82 rfl rfl
theorem wd_5_84 : (Jvm.Cond.instanceMethod ({ cls := "FoldGatesModel", name := "isPen", desc := "(I)Z" } : Jvm.MethodName)) ∈ gWS := gin5 84 rfl rfl
theorem wd_5_85 : (Jvm.Cond.code ({ cls := "FoldGatesModel", name := "isPen", desc := "(I)Z" } : Jvm.MethodName) prog_8_method_29_code (2 : Nat) (Option.some Jvm.ClassFile.FieldType.boolean)) ∈ gWS := gin5 85 rfl rfl
theorem wd_5_86 : (Jvm.Cond.methodLink "FoldGatesLaw" (81 : Nat) ({ cls := "FoldGatesModel", name := "stood", desc := "(IIII)I" } : Jvm.MethodName)) ∈ gWS := gin5 86 rfl rfl
theorem wd_5_87 : (Jvm.Cond.instanceMethod ({ cls := "FoldGatesModel", name := "stood", desc := "(IIII)I" } : Jvm.MethodName)) ∈ gWS := gin5 87 rfl rfl
theorem wd_5_88 : (Jvm.Cond.selects "FoldGatesModel" ({ cls := "FoldGatesModel", name := "stood", desc := "(IIII)I" } : Jvm.MethodName) ({ cls := "FoldGatesModel", name := "stood", desc := "(IIII)I" } : Jvm.MethodName)) ∈ gWS := gin5 88 rfl rfl
theorem wd_5_89 : (Jvm.Cond.code ({ cls := "FoldGatesModel", name := "stood", desc := "(IIII)I" } : Jvm.MethodName) prog_8_method_52_code (10 : Nat) (Option.some Jvm.ClassFile.FieldType.int)) ∈ gWS := gin5 89 rfl rfl
theorem wd_5_90 : (Jvm.Cond.constantLong "FoldGatesModel" (219 : Nat) (12 : Int64)) ∈ gWS := gin5 90 rfl rfl
theorem wd_5_91 : (Jvm.Cond.methodLink "FoldGatesModel" (221 : Nat) ({ cls := "FoldGatesModel", name := "refusedPairs", desc := "(III)I" } : Jvm.MethodName)) ∈ gWS := gin5 91 rfl rfl
theorem wd_5_93 : (Jvm.Cond.instanceMethod ({ cls := "FoldGatesModel", name := "refusedPairs", desc := "(III)I" } : Jvm.MethodName)) ∈ gWS := gin5 93 rfl rfl
theorem wd_5_94 : (Jvm.Cond.code ({ cls := "FoldGatesModel", name := "refusedPairs", desc := "(III)I" } : Jvm.MethodName) prog_8_method_51_code (5 : Nat) (Option.some Jvm.ClassFile.FieldType.int)) ∈ gWS := gin5 94 rfl rfl
theorem wd_5_95 : (Jvm.Cond.methodLink "FoldGatesModel" (216 : Nat) ({ cls := "FoldGatesModel", name := "arePairs", desc := "(II)Z" } : Jvm.MethodName)) ∈ gWS := gin5 95 rfl rfl
theorem wd_5_97 : (Jvm.Cond.instanceMethod ({ cls := "FoldGatesModel", name := "arePairs", desc := "(II)Z" } : Jvm.MethodName)) ∈ gWS := gin5 97 rfl rfl
theorem wd_5_98 : (Jvm.Cond.code ({ cls := "FoldGatesModel", name := "arePairs", desc := "(II)Z" } : Jvm.MethodName) prog_8_method_42_code (5 : Nat) (Option.some Jvm.ClassFile.FieldType.boolean)) ∈ gWS := gin5 98 rfl rfl
theorem wd_5_99 : (Jvm.Cond.methodLink "FoldGatesModel" (224 : Nat) ({ cls := "FoldGatesModel", name := "copyRow", desc := "(II)V" } : Jvm.MethodName)) ∈ gWS := gin5 99 rfl rfl
theorem wd_5_101 : (Jvm.Cond.instanceMethod ({ cls := "FoldGatesModel", name := "copyRow", desc := "(II)V" } : Jvm.MethodName)) ∈ gWS := gin5 101 rfl rfl
theorem wd_5_102 : (Jvm.Cond.code ({ cls := "FoldGatesModel", name := "copyRow", desc := "(II)V" } : Jvm.MethodName) prog_8_method_49_code (4 : Nat) (Option.none : Option Jvm.ClassFile.FieldType)) ∈ gWS := gin5 102 rfl rfl
theorem wd_5_103 : (Jvm.Cond.methodLink "FoldGatesModel" (227 : Nat) ({ cls := "FoldGatesModel", name := "comeSo", desc := "(II)Z" } : Jvm.MethodName)) ∈ gWS := gin5 103 rfl rfl
theorem wd_5_105 : (Jvm.Cond.instanceMethod ({ cls := "FoldGatesModel", name := "comeSo", desc := "(II)Z" } : Jvm.MethodName)) ∈ gWS := gin5 105 rfl rfl
theorem wd_5_106 : (Jvm.Cond.code ({ cls := "FoldGatesModel", name := "comeSo", desc := "(II)Z" } : Jvm.MethodName) prog_8_method_50_code (5 : Nat) (Option.some Jvm.ClassFile.FieldType.boolean)) ∈ gWS := gin5 106 rfl rfl
theorem wd_5_107 : (Jvm.Cond.methodLink "FoldGatesLaw" (85 : Nat) ({ cls := "FoldGatesModel", name := "ahead", desc := "(III)I" } : Jvm.MethodName)) ∈ gWS := gin5 107 rfl rfl
theorem wd_5_108 : (Jvm.Cond.instanceMethod ({ cls := "FoldGatesModel", name := "ahead", desc := "(III)I" } : Jvm.MethodName)) ∈ gWS := gin5 108 rfl rfl
theorem wd_5_109 : (Jvm.Cond.selects "FoldGatesModel" ({ cls := "FoldGatesModel", name := "ahead", desc := "(III)I" } : Jvm.MethodName) ({ cls := "FoldGatesModel", name := "ahead", desc := "(III)I" } : Jvm.MethodName)) ∈ gWS := gin5 109 rfl rfl
theorem wd_5_110 : (Jvm.Cond.code ({ cls := "FoldGatesModel", name := "ahead", desc := "(III)I" } : Jvm.MethodName) prog_8_method_54_code (5 : Nat) (Option.some Jvm.ClassFile.FieldType.int)) ∈ gWS := gin5 110 rfl rfl
theorem wd_5_111 : (Jvm.Cond.methodLink "FoldGatesModel" (230 : Nat) ({ cls := "FoldGatesModel", name := "wouldCome", desc := "(I)I" } : Jvm.MethodName)) ∈ gWS := gin5 111 rfl rfl
theorem wd_5_113 : (Jvm.Cond.instanceMethod ({ cls := "FoldGatesModel", name := "wouldCome", desc := "(I)I" } : Jvm.MethodName)) ∈ gWS := gin5 113 rfl rfl
theorem wd_5_114 : (Jvm.Cond.code ({ cls := "FoldGatesModel", name := "wouldCome", desc := "(I)I" } : Jvm.MethodName) prog_8_method_53_code (5 : Nat) (Option.some Jvm.ClassFile.FieldType.int)) ∈ gWS := gin5 114 rfl rfl
theorem wd_5_115 : (Jvm.Cond.methodLink "FoldGatesLaw" (89 : Nat) ({ cls := "FoldGatesModel", name := "reached", desc := "(II)I" } : Jvm.MethodName)) ∈ gWS := gin5 115 rfl rfl
theorem wd_5_116 : (Jvm.Cond.instanceMethod ({ cls := "FoldGatesModel", name := "reached", desc := "(II)I" } : Jvm.MethodName)) ∈ gWS := gin5 116 rfl rfl
theorem wd_5_117 : (Jvm.Cond.selects "FoldGatesModel" ({ cls := "FoldGatesModel", name := "reached", desc := "(II)I" } : Jvm.MethodName) ({ cls := "FoldGatesModel", name := "reached", desc := "(II)I" } : Jvm.MethodName)) ∈ gWS := gin5 117 rfl rfl
theorem wd_5_118 : (Jvm.Cond.code ({ cls := "FoldGatesModel", name := "reached", desc := "(II)I" } : Jvm.MethodName) prog_8_method_63_code (7 : Nat) (Option.some Jvm.ClassFile.FieldType.int)) ∈ gWS := gin5 118 rfl rfl
theorem wd_5_119 : (Jvm.Cond.methodLink "FoldGatesModel" (251 : Nat) ({ cls := "FoldGatesModel", name := "layFars", desc := "()V" } : Jvm.MethodName)) ∈ gWS := gin5 119 rfl rfl
theorem wd_5_121 : (Jvm.Cond.instanceMethod ({ cls := "FoldGatesModel", name := "layFars", desc := "()V" } : Jvm.MethodName)) ∈ gWS := gin5 121 rfl rfl
theorem wd_5_122 : (Jvm.Cond.code ({ cls := "FoldGatesModel", name := "layFars", desc := "()V" } : Jvm.MethodName) prog_8_method_58_code (3 : Nat) (Option.none : Option Jvm.ClassFile.FieldType)) ∈ gWS := gin5 122 rfl rfl
theorem wd_5_123 : (Jvm.Cond.methodLink "FoldGatesModel" (236 : Nat) ({ cls := "FoldGatesModel", name := "number", desc := "()I" } : Jvm.MethodName)) ∈ gWS := gin5 123 rfl rfl
theorem wd_5_125 : (Jvm.Cond.instanceMethod ({ cls := "FoldGatesModel", name := "number", desc := "()I" } : Jvm.MethodName)) ∈ gWS := gin5 125 rfl rfl
theorem wd_5_126 : (Jvm.Cond.code ({ cls := "FoldGatesModel", name := "number", desc := "()I" } : Jvm.MethodName) prog_8_method_55_code (4 : Nat) (Option.some Jvm.ClassFile.FieldType.int)) ∈ gWS := gin5 126 rfl rfl
theorem wd_5_127 : (Jvm.Cond.methodLink "FoldGatesModel" (238 : Nat) ({ cls := "FoldGatesModel", name := "put", desc := "(II)V" } : Jvm.MethodName)) ∈ gWS := gin5 127 rfl rfl
theorem wd_5_129 : (Jvm.Cond.instanceMethod ({ cls := "FoldGatesModel", name := "put", desc := "(II)V" } : Jvm.MethodName)) ∈ gWS := gin5 129 rfl rfl
theorem wd_5_130 : (Jvm.Cond.code ({ cls := "FoldGatesModel", name := "put", desc := "(II)V" } : Jvm.MethodName) prog_8_method_57_code (3 : Nat) (Option.none : Option Jvm.ClassFile.FieldType)) ∈ gWS := gin5 130 rfl rfl
theorem wd_5_131 : (Jvm.Cond.methodLink "FoldGatesModel" (241 : Nat) ({ cls := "FoldGatesModel", name := "after", desc := "(II)I" } : Jvm.MethodName)) ∈ gWS := gin5 131 rfl rfl
theorem wd_5_133 : (Jvm.Cond.instanceMethod ({ cls := "FoldGatesModel", name := "after", desc := "(II)I" } : Jvm.MethodName)) ∈ gWS := gin5 133 rfl rfl
theorem wd_5_134 : (Jvm.Cond.code ({ cls := "FoldGatesModel", name := "after", desc := "(II)I" } : Jvm.MethodName) prog_8_method_59_code (3 : Nat) (Option.some Jvm.ClassFile.FieldType.int)) ∈ gWS := gin5 134 rfl rfl
theorem wd_5_135 : (Jvm.Cond.methodLink "FoldGatesModel" (244 : Nat) ({ cls := "FoldGatesModel", name := "takeOut", desc := "(I)V" } : Jvm.MethodName)) ∈ gWS := gin5 135 rfl rfl
theorem wd_5_137 : (Jvm.Cond.instanceMethod ({ cls := "FoldGatesModel", name := "takeOut", desc := "(I)V" } : Jvm.MethodName)) ∈ gWS := gin5 137 rfl rfl
theorem wd_5_138 : (Jvm.Cond.code ({ cls := "FoldGatesModel", name := "takeOut", desc := "(I)V" } : Jvm.MethodName) prog_8_method_56_code (4 : Nat) (Option.none : Option Jvm.ClassFile.FieldType)) ∈ gWS := gin5 138 rfl rfl
theorem wd_5_139 : (Jvm.Cond.methodLink "FoldGatesModel" (254 : Nat) ({ cls := "FoldGatesModel", name := "soonest", desc := "(I)I" } : Jvm.MethodName)) ∈ gWS := gin5 139 rfl rfl
theorem wd_5_141 : (Jvm.Cond.instanceMethod ({ cls := "FoldGatesModel", name := "soonest", desc := "(I)I" } : Jvm.MethodName)) ∈ gWS := gin5 141 rfl rfl
theorem wd_5_142 : (Jvm.Cond.code ({ cls := "FoldGatesModel", name := "soonest", desc := "(I)I" } : Jvm.MethodName) prog_8_method_60_code (3 : Nat) (Option.some Jvm.ClassFile.FieldType.int)) ∈ gWS := gin5 142 rfl rfl
theorem wd_5_143 : (Jvm.Cond.methodLink "FoldGatesModel" (257 : Nat) ({ cls := "FoldGatesModel", name := "layWays", desc := "(II)V" } : Jvm.MethodName)) ∈ gWS := gin5 143 rfl rfl
theorem wd_5_145 : (Jvm.Cond.instanceMethod ({ cls := "FoldGatesModel", name := "layWays", desc := "(II)V" } : Jvm.MethodName)) ∈ gWS := gin5 145 rfl rfl
theorem wd_5_146 : (Jvm.Cond.code ({ cls := "FoldGatesModel", name := "layWays", desc := "(II)V" } : Jvm.MethodName) prog_8_method_62_code (7 : Nat) (Option.none : Option Jvm.ClassFile.FieldType)) ∈ gWS := gin5 146 rfl rfl
theorem wd_5_147 : (Jvm.Cond.methodLink "FoldGatesModel" (248 : Nat) ({ cls := "FoldGatesModel", name := "leads", desc := "(II)Z" } : Jvm.MethodName)) ∈ gWS := gin5 147 rfl rfl
theorem wd_5_149 : (Jvm.Cond.instanceMethod ({ cls := "FoldGatesModel", name := "leads", desc := "(II)Z" } : Jvm.MethodName)) ∈ gWS := gin5 149 rfl rfl
theorem wd_5_150 : (Jvm.Cond.code ({ cls := "FoldGatesModel", name := "leads", desc := "(II)Z" } : Jvm.MethodName) prog_8_method_61_code (4 : Nat) (Option.some Jvm.ClassFile.FieldType.boolean)) ∈ gWS := gin5 150 rfl rfl
theorem wd_5_151 : (Jvm.Cond.methodLink "FoldGatesLaw" (93 : Nat) ({ cls := "FoldGatesModel", name := "comes", desc := "()I" } : Jvm.MethodName)) ∈ gWS := gin5 151 rfl rfl
theorem wd_5_152 : (Jvm.Cond.instanceMethod ({ cls := "FoldGatesModel", name := "comes", desc := "()I" } : Jvm.MethodName)) ∈ gWS := gin5 152 rfl rfl
theorem wd_5_153 : (Jvm.Cond.selects "FoldGatesModel" ({ cls := "FoldGatesModel", name := "comes", desc := "()I" } : Jvm.MethodName) ({ cls := "FoldGatesModel", name := "comes", desc := "()I" } : Jvm.MethodName)) ∈ gWS := gin5 153 rfl rfl
theorem wd_5_154 : (Jvm.Cond.code ({ cls := "FoldGatesModel", name := "comes", desc := "()I" } : Jvm.MethodName) prog_8_method_64_code (3 : Nat) (Option.some Jvm.ClassFile.FieldType.int)) ∈ gWS := gin5 154 rfl rfl
theorem wd_5_155 : (Jvm.Cond.methodLink "FoldGatesLaw" (97 : Nat) ({ cls := "FoldGatesModel", name := "round", desc := "(II)I" } : Jvm.MethodName)) ∈ gWS := gin5 155 rfl rfl
theorem wd_5_156 : (Jvm.Cond.instanceMethod ({ cls := "FoldGatesModel", name := "round", desc := "(II)I" } : Jvm.MethodName)) ∈ gWS := gin5 156 rfl rfl
theorem wd_5_157 : (Jvm.Cond.selects "FoldGatesModel" ({ cls := "FoldGatesModel", name := "round", desc := "(II)I" } : Jvm.MethodName) ({ cls := "FoldGatesModel", name := "round", desc := "(II)I" } : Jvm.MethodName)) ∈ gWS := gin5 157 rfl rfl
theorem wd_5_158 : (Jvm.Cond.code ({ cls := "FoldGatesModel", name := "round", desc := "(II)I" } : Jvm.MethodName) prog_8_method_65_code (5 : Nat) (Option.some Jvm.ClassFile.FieldType.int)) ∈ gWS := gin5 158 rfl rfl
theorem wd_5_159 : (Jvm.Cond.methodLink "FoldGatesLaw" (101 : Nat) ({ cls := "FoldGatesModel", name := "sticks", desc := "(III)I" } : Jvm.MethodName)) ∈ gWS := gin5 159 rfl rfl
theorem wd_5_160 : (Jvm.Cond.instanceMethod ({ cls := "FoldGatesModel", name := "sticks", desc := "(III)I" } : Jvm.MethodName)) ∈ gWS := gin5 160 rfl rfl
theorem wd_5_161 : (Jvm.Cond.selects "FoldGatesModel" ({ cls := "FoldGatesModel", name := "sticks", desc := "(III)I" } : Jvm.MethodName) ({ cls := "FoldGatesModel", name := "sticks", desc := "(III)I" } : Jvm.MethodName)) ∈ gWS := gin5 161 rfl rfl
theorem wd_5_162 : (Jvm.Cond.code ({ cls := "FoldGatesModel", name := "sticks", desc := "(III)I" } : Jvm.MethodName) prog_8_method_66_code (7 : Nat) (Option.some Jvm.ClassFile.FieldType.int)) ∈ gWS := gin5 162 rfl rfl
theorem wd_5_163 : (Jvm.Cond.methodLink "FoldGatesLaw" (105 : Nat) ({ cls := "FoldGatesModel", name := "theft", desc := "(IIII)I" } : Jvm.MethodName)) ∈ gWS := gin5 163 rfl rfl
theorem wd_5_164 : (Jvm.Cond.instanceMethod ({ cls := "FoldGatesModel", name := "theft", desc := "(IIII)I" } : Jvm.MethodName)) ∈ gWS := gin5 164 rfl rfl
theorem wd_5_165 : (Jvm.Cond.selects "FoldGatesModel" ({ cls := "FoldGatesModel", name := "theft", desc := "(IIII)I" } : Jvm.MethodName) ({ cls := "FoldGatesModel", name := "theft", desc := "(IIII)I" } : Jvm.MethodName)) ∈ gWS := gin5 165 rfl rfl
theorem wd_5_166 : (Jvm.Cond.code ({ cls := "FoldGatesModel", name := "theft", desc := "(IIII)I" } : Jvm.MethodName) prog_8_method_68_code (8 : Nat) (Option.some Jvm.ClassFile.FieldType.int)) ∈ gWS := gin5 166 rfl rfl
theorem wd_5_167 : (Jvm.Cond.methodLink "FoldGatesModel" (260 : Nat) ({ cls := "FoldGatesModel", name := "layPens", desc := "(II)V" } : Jvm.MethodName)) ∈ gWS := gin5 167 rfl rfl
theorem wd_5_169 : (Jvm.Cond.instanceMethod ({ cls := "FoldGatesModel", name := "layPens", desc := "(II)V" } : Jvm.MethodName)) ∈ gWS := gin5 169 rfl rfl
theorem wd_5_170 : (Jvm.Cond.code ({ cls := "FoldGatesModel", name := "layPens", desc := "(II)V" } : Jvm.MethodName) prog_8_method_67_code (4 : Nat) (Option.none : Option Jvm.ClassFile.FieldType)) ∈ gWS := gin5 170 rfl rfl
theorem wd_5_171 : (Jvm.Cond.methodLink "FoldGatesLaw" (109 : Nat) ({ cls := "FoldGatesModel", name := "mixed", desc := "(III)I" } : Jvm.MethodName)) ∈ gWS := gin5 171 rfl rfl
theorem wd_5_172 : (Jvm.Cond.instanceMethod ({ cls := "FoldGatesModel", name := "mixed", desc := "(III)I" } : Jvm.MethodName)) ∈ gWS := gin5 172 rfl rfl
theorem wd_5_173 : (Jvm.Cond.selects "FoldGatesModel" ({ cls := "FoldGatesModel", name := "mixed", desc := "(III)I" } : Jvm.MethodName) ({ cls := "FoldGatesModel", name := "mixed", desc := "(III)I" } : Jvm.MethodName)) ∈ gWS := gin5 173 rfl rfl
theorem wd_5_174 : (Jvm.Cond.code ({ cls := "FoldGatesModel", name := "mixed", desc := "(III)I" } : Jvm.MethodName) prog_8_method_69_code (9 : Nat) (Option.some Jvm.ClassFile.FieldType.int)) ∈ gWS := gin5 174 rfl rfl
theorem wd_5_175 : (Jvm.Cond.methodLink "FoldGatesLaw" (113 : Nat) ({ cls := "FoldGatesModel", name := "image", desc := "(I)I" } : Jvm.MethodName)) ∈ gWS := gin5 175 rfl rfl
theorem wd_5_176 : (Jvm.Cond.instanceMethod ({ cls := "FoldGatesModel", name := "image", desc := "(I)I" } : Jvm.MethodName)) ∈ gWS := gin5 176 rfl rfl
theorem wd_5_177 : (Jvm.Cond.selects "FoldGatesModel" ({ cls := "FoldGatesModel", name := "image", desc := "(I)I" } : Jvm.MethodName) ({ cls := "FoldGatesModel", name := "image", desc := "(I)I" } : Jvm.MethodName)) ∈ gWS := gin5 177 rfl rfl
theorem wd_5_178 : (Jvm.Cond.code ({ cls := "FoldGatesModel", name := "image", desc := "(I)I" } : Jvm.MethodName) prog_8_method_70_code (2 : Nat) (Option.some Jvm.ClassFile.FieldType.int)) ∈ gWS := gin5 178 rfl rfl
theorem wd_5_179 : (Jvm.Cond.methodLink "FoldGatesLaw" (117 : Nat) ({ cls := "FoldGatesModel", name := "restore", desc := "(I)I" } : Jvm.MethodName)) ∈ gWS := gin5 179 rfl rfl
theorem wd_5_180 : (Jvm.Cond.instanceMethod ({ cls := "FoldGatesModel", name := "restore", desc := "(I)I" } : Jvm.MethodName)) ∈ gWS := gin5 180 rfl rfl
theorem wd_5_181 : (Jvm.Cond.selects "FoldGatesModel" ({ cls := "FoldGatesModel", name := "restore", desc := "(I)I" } : Jvm.MethodName) ({ cls := "FoldGatesModel", name := "restore", desc := "(I)I" } : Jvm.MethodName)) ∈ gWS := gin5 181 rfl rfl
theorem wd_5_182 : (Jvm.Cond.code ({ cls := "FoldGatesModel", name := "restore", desc := "(I)I" } : Jvm.MethodName) prog_8_method_71_code (2 : Nat) (Option.some Jvm.ClassFile.FieldType.int)) ∈ gWS := gin5 182 rfl rfl
theorem wd_5_183 : (Jvm.Cond.methodLink "FoldGatesLaw" (121 : Nat) ({ cls := "FoldGatesModel", name := "kind", desc := "(I)I" } : Jvm.MethodName)) ∈ gWS := gin5 183 rfl rfl
theorem wd_5_184 : (Jvm.Cond.instanceMethod ({ cls := "FoldGatesModel", name := "kind", desc := "(I)I" } : Jvm.MethodName)) ∈ gWS := gin5 184 rfl rfl
theorem wd_5_185 : (Jvm.Cond.selects "FoldGatesModel" ({ cls := "FoldGatesModel", name := "kind", desc := "(I)I" } : Jvm.MethodName) ({ cls := "FoldGatesModel", name := "kind", desc := "(I)I" } : Jvm.MethodName)) ∈ gWS := gin5 185 rfl rfl
theorem wd_5_186 : (Jvm.Cond.code ({ cls := "FoldGatesModel", name := "kind", desc := "(I)I" } : Jvm.MethodName) prog_8_method_72_code (2 : Nat) (Option.some Jvm.ClassFile.FieldType.int)) ∈ gWS := gin5 186 rfl rfl
theorem wd_5_187 : (Jvm.Cond.methodLink "FoldGatesLaw" (125 : Nat) ({ cls := "FoldGatesModel", name := "as", desc := "(II)I" } : Jvm.MethodName)) ∈ gWS := gin5 187 rfl rfl
theorem wd_5_188 : (Jvm.Cond.instanceMethod ({ cls := "FoldGatesModel", name := "as", desc := "(II)I" } : Jvm.MethodName)) ∈ gWS := gin5 188 rfl rfl
theorem wd_5_189 : (Jvm.Cond.selects "FoldGatesModel" ({ cls := "FoldGatesModel", name := "as", desc := "(II)I" } : Jvm.MethodName) ({ cls := "FoldGatesModel", name := "as", desc := "(II)I" } : Jvm.MethodName)) ∈ gWS := gin5 189 rfl rfl
theorem wd_5_190 : (Jvm.Cond.code ({ cls := "FoldGatesModel", name := "as", desc := "(II)I" } : Jvm.MethodName) prog_8_method_74_code (3 : Nat) (Option.some Jvm.ClassFile.FieldType.int)) ∈ gWS := gin5 190 rfl rfl
theorem wd_5_191 : (Jvm.Cond.constantLong "FoldGatesModel" (263 : Nat) (5 : Int64)) ∈ gWS := gin5 191 rfl rfl
theorem wd_5_192 : (Jvm.Cond.methodLink "FoldGatesModel" (265 : Nat) ({ cls := "FoldGatesModel", name := "isKind", desc := "(II)Z" } : Jvm.MethodName)) ∈ gWS := gin5 192 rfl rfl
theorem wd_5_193 : (Jvm.Cond.static ({ cls := "FoldGatesModel", name := "isKind", desc := "(II)Z" } : Jvm.MethodName)) ∈ gWS := gin5 193 rfl rfl
theorem wd_5_194 : (Jvm.Cond.code ({ cls := "FoldGatesModel", name := "isKind", desc := "(II)Z" } : Jvm.MethodName) prog_8_method_73_code (3 : Nat) (Option.some Jvm.ClassFile.FieldType.boolean)) ∈ gWS := gin5 194 rfl rfl
theorem wd_5_195 : (Jvm.Cond.methodLink "FoldGatesLaw" (129 : Nat) ({ cls := "FoldGatesModel", name := "ask", desc := "(II)I" } : Jvm.MethodName)) ∈ gWS := gin5 195 rfl rfl
theorem wd_5_196 : (Jvm.Cond.instanceMethod ({ cls := "FoldGatesModel", name := "ask", desc := "(II)I" } : Jvm.MethodName)) ∈ gWS := gin5 196 rfl rfl
theorem wd_5_197 : (Jvm.Cond.selects "FoldGatesModel" ({ cls := "FoldGatesModel", name := "ask", desc := "(II)I" } : Jvm.MethodName) ({ cls := "FoldGatesModel", name := "ask", desc := "(II)I" } : Jvm.MethodName)) ∈ gWS := gin5 197 rfl rfl
theorem wd_5_198 : (Jvm.Cond.code ({ cls := "FoldGatesModel", name := "ask", desc := "(II)I" } : Jvm.MethodName) prog_8_method_85_code (4 : Nat) (Option.some Jvm.ClassFile.FieldType.int)) ∈ gWS := gin5 198 rfl rfl
theorem wd_5_199 : (Jvm.Cond.methodLink "FoldGatesModel" (295 : Nat) ({ cls := "FoldGatesModel", name := "sizeOfEwe", desc := "(I)I" } : Jvm.MethodName)) ∈ gWS := gin5 199 rfl rfl
theorem wd_5_201 : (Jvm.Cond.instanceMethod ({ cls := "FoldGatesModel", name := "sizeOfEwe", desc := "(I)I" } : Jvm.MethodName)) ∈ gWS := gin5 201 rfl rfl
theorem wd_5_202 : (Jvm.Cond.code ({ cls := "FoldGatesModel", name := "sizeOfEwe", desc := "(I)I" } : Jvm.MethodName) prog_8_method_83_code (2 : Nat) (Option.some Jvm.ClassFile.FieldType.int)) ∈ gWS := gin5 202 rfl rfl
theorem wd_5_203 : (Jvm.Cond.methodLink "FoldGatesModel" (289 : Nat) ({ cls := "FoldGatesModel", name := "eweBody", desc := "(I)I" } : Jvm.MethodName)) ∈ gWS := gin5 203 rfl rfl
theorem wd_5_205 : (Jvm.Cond.instanceMethod ({ cls := "FoldGatesModel", name := "eweBody", desc := "(I)I" } : Jvm.MethodName)) ∈ gWS := gin5 205 rfl rfl
theorem wd_5_206 : (Jvm.Cond.code ({ cls := "FoldGatesModel", name := "eweBody", desc := "(I)I" } : Jvm.MethodName) prog_8_method_80_code (3 : Nat) (Option.some Jvm.ClassFile.FieldType.int)) ∈ gWS := gin5 206 rfl rfl
theorem wd_5_207 : (Jvm.Cond.methodLink "FoldGatesModel" (271 : Nat) ({ cls := "FoldGatesModel", name := "leave", desc := "(I)V" } : Jvm.MethodName)) ∈ gWS := gin5 207 rfl rfl
theorem wd_5_209 : (Jvm.Cond.instanceMethod ({ cls := "FoldGatesModel", name := "leave", desc := "(I)V" } : Jvm.MethodName)) ∈ gWS := gin5 209 rfl rfl
theorem wd_5_210 : (Jvm.Cond.code ({ cls := "FoldGatesModel", name := "leave", desc := "(I)V" } : Jvm.MethodName) prog_8_method_75_code (2 : Nat) (Option.none : Option Jvm.ClassFile.FieldType)) ∈ gWS := gin5 210 rfl rfl
theorem wd_5_211 : (Jvm.Cond.methodLink "FoldGatesModel" (280 : Nat) ({ cls := "FoldGatesModel", name := "heavyBody", desc := "(I)I" } : Jvm.MethodName)) ∈ gWS := gin5 211 rfl rfl
theorem wd_5_213 : (Jvm.Cond.instanceMethod ({ cls := "FoldGatesModel", name := "heavyBody", desc := "(I)I" } : Jvm.MethodName)) ∈ gWS := gin5 213 rfl rfl
theorem wd_5_214 : (Jvm.Cond.code ({ cls := "FoldGatesModel", name := "heavyBody", desc := "(I)I" } : Jvm.MethodName) prog_8_method_76_code (2 : Nat) (Option.some Jvm.ClassFile.FieldType.int)) ∈ gWS := gin5 214 rfl rfl
theorem wd_5_215 : (Jvm.Cond.methodLink "FoldGatesModel" (283 : Nat) ({ cls := "FoldGatesModel", name := "markOfEwe", desc := "(I)I" } : Jvm.MethodName)) ∈ gWS := gin5 215 rfl rfl
theorem wd_5_217 : (Jvm.Cond.instanceMethod ({ cls := "FoldGatesModel", name := "markOfEwe", desc := "(I)I" } : Jvm.MethodName)) ∈ gWS := gin5 217 rfl rfl
theorem wd_5_218 : (Jvm.Cond.code ({ cls := "FoldGatesModel", name := "markOfEwe", desc := "(I)I" } : Jvm.MethodName) prog_8_method_79_code (4 : Nat) (Option.some Jvm.ClassFile.FieldType.int)) ∈ gWS := gin5 218 rfl rfl
theorem wd_5_219 : (Jvm.Cond.methodLink "FoldGatesModel" (277 : Nat) ({ cls := "FoldGatesModel", name := "penBody", desc := "(I)I" } : Jvm.MethodName)) ∈ gWS := gin5 219 rfl rfl
theorem wd_5_221 : (Jvm.Cond.instanceMethod ({ cls := "FoldGatesModel", name := "penBody", desc := "(I)I" } : Jvm.MethodName)) ∈ gWS := gin5 221 rfl rfl
theorem wd_5_222 : (Jvm.Cond.code ({ cls := "FoldGatesModel", name := "penBody", desc := "(I)I" } : Jvm.MethodName) prog_8_method_78_code (3 : Nat) (Option.some Jvm.ClassFile.FieldType.int)) ∈ gWS := gin5 222 rfl rfl
theorem wd_5_223 : (Jvm.Cond.methodLink "FoldGatesModel" (274 : Nat) ({ cls := "FoldGatesModel", name := "numberBody", desc := "(I)I" } : Jvm.MethodName)) ∈ gWS := gin5 223 rfl rfl
theorem wd_5_225 : (Jvm.Cond.instanceMethod ({ cls := "FoldGatesModel", name := "numberBody", desc := "(I)I" } : Jvm.MethodName)) ∈ gWS := gin5 225 rfl rfl
theorem wd_5_226 : (Jvm.Cond.code ({ cls := "FoldGatesModel", name := "numberBody", desc := "(I)I" } : Jvm.MethodName) prog_8_method_77_code (2 : Nat) (Option.some Jvm.ClassFile.FieldType.int)) ∈ gWS := gin5 226 rfl rfl
theorem wd_5_227 : (Jvm.Cond.methodLink "FoldGatesModel" (292 : Nat) ({ cls := "FoldGatesModel", name := "sizeOfBlind", desc := "(I)I" } : Jvm.MethodName)) ∈ gWS := gin5 227 rfl rfl
theorem wd_5_229 : (Jvm.Cond.instanceMethod ({ cls := "FoldGatesModel", name := "sizeOfBlind", desc := "(I)I" } : Jvm.MethodName)) ∈ gWS := gin5 229 rfl rfl
theorem wd_5_230 : (Jvm.Cond.code ({ cls := "FoldGatesModel", name := "sizeOfBlind", desc := "(I)I" } : Jvm.MethodName) prog_8_method_82_code (2 : Nat) (Option.some Jvm.ClassFile.FieldType.int)) ∈ gWS := gin5 230 rfl rfl
theorem wd_5_231 : (Jvm.Cond.methodLink "FoldGatesModel" (286 : Nat) ({ cls := "FoldGatesModel", name := "blindBody", desc := "(I)I" } : Jvm.MethodName)) ∈ gWS := gin5 231 rfl rfl
theorem wd_5_233 : (Jvm.Cond.instanceMethod ({ cls := "FoldGatesModel", name := "blindBody", desc := "(I)I" } : Jvm.MethodName)) ∈ gWS := gin5 233 rfl rfl
theorem wd_5_234 : (Jvm.Cond.code ({ cls := "FoldGatesModel", name := "blindBody", desc := "(I)I" } : Jvm.MethodName) prog_8_method_81_code (2 : Nat) (Option.some Jvm.ClassFile.FieldType.int)) ∈ gWS := gin5 234 rfl rfl
theorem wd_5_235 : (Jvm.Cond.methodLink "FoldGatesModel" (298 : Nat) ({ cls := "FoldGatesModel", name := "markOfBlind", desc := "(I)I" } : Jvm.MethodName)) ∈ gWS := gin5 235 rfl rfl
theorem wd_5_237 : (Jvm.Cond.instanceMethod ({ cls := "FoldGatesModel", name := "markOfBlind", desc := "(I)I" } : Jvm.MethodName)) ∈ gWS := gin5 237 rfl rfl
theorem wd_5_238 : (Jvm.Cond.code ({ cls := "FoldGatesModel", name := "markOfBlind", desc := "(I)I" } : Jvm.MethodName) prog_8_method_84_code (3 : Nat) (Option.some Jvm.ClassFile.FieldType.int)) ∈ gWS := gin5 238 rfl rfl
theorem wd_5_239 : (Jvm.Cond.methodLink "FoldGatesLaw" (133 : Nat) ({ cls := "FoldGatesModel", name := "trace", desc := "(I)I" } : Jvm.MethodName)) ∈ gWS := gin5 239 rfl rfl
theorem wd_6_0 : (Jvm.Cond.instanceMethod ({ cls := "FoldGatesModel", name := "trace", desc := "(I)I" } : Jvm.MethodName)) ∈ gWS := gin6 0 rfl rfl
theorem wd_6_1 : (Jvm.Cond.selects "FoldGatesModel" ({ cls := "FoldGatesModel", name := "trace", desc := "(I)I" } : Jvm.MethodName) ({ cls := "FoldGatesModel", name := "trace", desc := "(I)I" } : Jvm.MethodName)) ∈ gWS := gin6 1 rfl rfl
theorem wd_6_2 : (Jvm.Cond.code ({ cls := "FoldGatesModel", name := "trace", desc := "(I)I" } : Jvm.MethodName) prog_8_method_86_code (2 : Nat) (Option.some Jvm.ClassFile.FieldType.int)) ∈ gWS := gin6 2 rfl rfl
theorem wd_6_3 : (Jvm.Cond.methodLink "FoldGatesLaw" (137 : Nat) ({ cls := "FoldGatesModel", name := "count", desc := "(I)I" } : Jvm.MethodName)) ∈ gWS := gin6 3 rfl rfl
theorem wd_6_4 : (Jvm.Cond.instanceMethod ({ cls := "FoldGatesModel", name := "count", desc := "(I)I" } : Jvm.MethodName)) ∈ gWS := gin6 4 rfl rfl
theorem wd_6_5 : (Jvm.Cond.selects "FoldGatesModel" ({ cls := "FoldGatesModel", name := "count", desc := "(I)I" } : Jvm.MethodName) ({ cls := "FoldGatesModel", name := "count", desc := "(I)I" } : Jvm.MethodName)) ∈ gWS := gin6 5 rfl rfl
theorem wd_6_6 : (Jvm.Cond.code ({ cls := "FoldGatesModel", name := "count", desc := "(I)I" } : Jvm.MethodName) prog_8_method_87_code (4 : Nat) (Option.some Jvm.ClassFile.FieldType.int)) ∈ gWS := gin6 6 rfl rfl
theorem wd_6_7 : (Jvm.Cond.methodLink "FoldGatesLaw" (141 : Nat) ({ cls := "FoldGatesModel", name := "status", desc := "()I" } : Jvm.MethodName)) ∈ gWS := gin6 7 rfl rfl
theorem wd_6_8 : (Jvm.Cond.instanceMethod ({ cls := "FoldGatesModel", name := "status", desc := "()I" } : Jvm.MethodName)) ∈ gWS := gin6 8 rfl rfl
theorem wd_6_9 : (Jvm.Cond.selects "FoldGatesModel" ({ cls := "FoldGatesModel", name := "status", desc := "()I" } : Jvm.MethodName) ({ cls := "FoldGatesModel", name := "status", desc := "()I" } : Jvm.MethodName)) ∈ gWS := gin6 9 rfl rfl
theorem wd_6_10 : (Jvm.Cond.code ({ cls := "FoldGatesModel", name := "status", desc := "()I" } : Jvm.MethodName) prog_8_method_88_code (1 : Nat) (Option.some Jvm.ClassFile.FieldType.int)) ∈ gWS := gin6 10 rfl rfl
theorem wd_6_11 : (Jvm.Cond.constantLong "FoldGatesLaw" (32 : Nat) (4294967295 : Int64)) ∈ gWS := gin6 11 rfl rfl
theorem wd_6_12 : (Jvm.Cond.fieldLink "java/lang/String" (9 : Nat) "java/lang/String" "value" "[B") ∈ gWS := gin6 12 rfl rfl
theorem wd_6_13 : (Jvm.Cond.fieldLink "java/lang/String" (15 : Nat) "java/lang/String" "coder" "B") ∈ gWS := gin6 13 rfl rfl
theorem lw_pm {q : MethodName × Nat} (i : Nat) (h : lw_privs[i]? = some q) : q ∈ lw_privs := List.mem_of_getElem? h
theorem ws_0 : Cond.selects "FoldGates" ⟨"FoldGates", "found", "(I)I"⟩ ⟨"FoldGates", "found", "(I)I"⟩ ∈ gWS := gin0 (List.mem_map.mpr ⟨(⟨"FoldGates", "found", "(I)I"⟩, _), lw_pm 0 rfl, rfl⟩) rfl
theorem ws_1 : Cond.selects "FoldGates" ⟨"FoldGates", "foundNothing", "(I)I"⟩ ⟨"FoldGates", "foundNothing", "(I)I"⟩ ∈ gWS := gin0 (List.mem_map.mpr ⟨(⟨"FoldGates", "foundNothing", "(I)I"⟩, _), lw_pm 1 rfl, rfl⟩) rfl
theorem ws_2 : Cond.selects "FoldGates" ⟨"FoldGates", "findingOf", "(III)I"⟩ ⟨"FoldGates", "findingOf", "(III)I"⟩ ∈ gWS := gin0 (List.mem_map.mpr ⟨(⟨"FoldGates", "findingOf", "(III)I"⟩, _), lw_pm 2 rfl, rfl⟩) rfl
theorem ws_3 : Cond.selects "FoldGates$Tape" ⟨"FoldGates$Tape", "next", "()V"⟩ ⟨"FoldGates$Tape", "next", "()V"⟩ ∈ gWS := gin0 (List.mem_map.mpr ⟨(⟨"FoldGates$Tape", "next", "()V"⟩, _), lw_pm 3 rfl, rfl⟩) rfl
theorem ws_4 : Cond.selects "FoldGates$Tape" ⟨"FoldGates$Tape", "byteAt", "(I)I"⟩ ⟨"FoldGates$Tape", "byteAt", "(I)I"⟩ ∈ gWS := gin0 (List.mem_map.mpr ⟨(⟨"FoldGates$Tape", "byteAt", "(I)I"⟩, _), lw_pm 4 rfl, rfl⟩) rfl
theorem ws_5 : Cond.selects "FoldGates$Tape" ⟨"FoldGates$Tape", "nextNumber", "()V"⟩ ⟨"FoldGates$Tape", "nextNumber", "()V"⟩ ∈ gWS := gin0 (List.mem_map.mpr ⟨(⟨"FoldGates$Tape", "nextNumber", "()V"⟩, _), lw_pm 5 rfl, rfl⟩) rfl
theorem ws_6 : Cond.selects "FoldGates$Tape" ⟨"FoldGates$Tape", "readLaw", "(LFoldGates$Plan;)Z"⟩ ⟨"FoldGates$Tape", "readLaw", "(LFoldGates$Plan;)Z"⟩ ∈ gWS := gin0 (List.mem_map.mpr ⟨(⟨"FoldGates$Tape", "readLaw", "(LFoldGates$Plan;)Z"⟩, _), lw_pm 6 rfl, rfl⟩) rfl
theorem ws_7 : Cond.selects "FoldGates$Tape" ⟨"FoldGates$Tape", "isWord", "(Ljava/lang/String;)Z"⟩ ⟨"FoldGates$Tape", "isWord", "(Ljava/lang/String;)Z"⟩ ∈ gWS := gin0 (List.mem_map.mpr ⟨(⟨"FoldGates$Tape", "isWord", "(Ljava/lang/String;)Z"⟩, _), lw_pm 7 rfl, rfl⟩) rfl
theorem ws_8 : Cond.selects "FoldGates$Tape" ⟨"FoldGates$Tape", "faulty", "(I)Z"⟩ ⟨"FoldGates$Tape", "faulty", "(I)Z"⟩ ∈ gWS := gin0 (List.mem_map.mpr ⟨(⟨"FoldGates$Tape", "faulty", "(I)Z"⟩, _), lw_pm 8 rfl, rfl⟩) rfl
theorem ws_9 : Cond.selects "FoldGates$Tape" ⟨"FoldGates$Tape", "isNumber", "(II)Z"⟩ ⟨"FoldGates$Tape", "isNumber", "(II)Z"⟩ ∈ gWS := gin0 (List.mem_map.mpr ⟨(⟨"FoldGates$Tape", "isNumber", "(II)Z"⟩, _), lw_pm 9 rfl, rfl⟩) rfl
theorem ws_10 : Cond.selects "FoldGates$Tape" ⟨"FoldGates$Tape", "isSign", "()Z"⟩ ⟨"FoldGates$Tape", "isSign", "()Z"⟩ ∈ gWS := gin0 (List.mem_map.mpr ⟨(⟨"FoldGates$Tape", "isSign", "()Z"⟩, _), lw_pm 10 rfl, rfl⟩) rfl
theorem ws_11 : Cond.selects "FoldGates$Tape" ⟨"FoldGates$Tape", "readHurdles", "(LFoldGates$Plan;)Z"⟩ ⟨"FoldGates$Tape", "readHurdles", "(LFoldGates$Plan;)Z"⟩ ∈ gWS := gin0 (List.mem_map.mpr ⟨(⟨"FoldGates$Tape", "readHurdles", "(LFoldGates$Plan;)Z"⟩, _), lw_pm 11 rfl, rfl⟩) rfl
theorem ws_12 : Cond.selects "FoldGates$Tape" ⟨"FoldGates$Tape", "readHurdle", "(LFoldGates$Plan;)Z"⟩ ⟨"FoldGates$Tape", "readHurdle", "(LFoldGates$Plan;)Z"⟩ ∈ gWS := gin0 (List.mem_map.mpr ⟨(⟨"FoldGates$Tape", "readHurdle", "(LFoldGates$Plan;)Z"⟩, _), lw_pm 12 rfl, rfl⟩) rfl
theorem ws_13 : Cond.selects "FoldGates$Tape" ⟨"FoldGates$Tape", "hurdleSort", "()I"⟩ ⟨"FoldGates$Tape", "hurdleSort", "()I"⟩ ∈ gWS := gin0 (List.mem_map.mpr ⟨(⟨"FoldGates$Tape", "hurdleSort", "()I"⟩, _), lw_pm 13 rfl, rfl⟩) rfl
theorem ws_14 : Cond.selects "FoldGates$Tape" ⟨"FoldGates$Tape", "isWay", "(LFoldGates$Plan;)Z"⟩ ⟨"FoldGates$Tape", "isWay", "(LFoldGates$Plan;)Z"⟩ ∈ gWS := gin0 (List.mem_map.mpr ⟨(⟨"FoldGates$Tape", "isWay", "(LFoldGates$Plan;)Z"⟩, _), lw_pm 14 rfl, rfl⟩) rfl
theorem ws_15 : Cond.selects "FoldGates$Tape" ⟨"FoldGates$Tape", "readBeasts", "(LFoldGates$Plan;)Z"⟩ ⟨"FoldGates$Tape", "readBeasts", "(LFoldGates$Plan;)Z"⟩ ∈ gWS := gin0 (List.mem_map.mpr ⟨(⟨"FoldGates$Tape", "readBeasts", "(LFoldGates$Plan;)Z"⟩, _), lw_pm 15 rfl, rfl⟩) rfl
theorem ws_16 : Cond.selects "FoldGates$Tape" ⟨"FoldGates$Tape", "readBeast", "(LFoldGates$Plan;)Z"⟩ ⟨"FoldGates$Tape", "readBeast", "(LFoldGates$Plan;)Z"⟩ ∈ gWS := gin0 (List.mem_map.mpr ⟨(⟨"FoldGates$Tape", "readBeast", "(LFoldGates$Plan;)Z"⟩, _), lw_pm 16 rfl, rfl⟩) rfl
theorem ws_17 : Cond.selects "FoldGates$Tape" ⟨"FoldGates$Tape", "beastKind", "()I"⟩ ⟨"FoldGates$Tape", "beastKind", "()I"⟩ ∈ gWS := gin0 (List.mem_map.mpr ⟨(⟨"FoldGates$Tape", "beastKind", "()I"⟩, _), lw_pm 17 rfl, rfl⟩) rfl
theorem ws_18 : Cond.selects "FoldGates" ⟨"FoldGates", "forgetActs", "()V"⟩ ⟨"FoldGates", "forgetActs", "()V"⟩ ∈ gWS := gin0 (List.mem_map.mpr ⟨(⟨"FoldGates", "forgetActs", "()V"⟩, _), lw_pm 18 rfl, rfl⟩) rfl
theorem ws_19 : Cond.selects "FoldGates" ⟨"FoldGates", "isBeast", "(I)Z"⟩ ⟨"FoldGates", "isBeast", "(I)Z"⟩ ∈ gWS := gin0 (List.mem_map.mpr ⟨(⟨"FoldGates", "isBeast", "(I)Z"⟩, _), lw_pm 19 rfl, rfl⟩) rfl
theorem ws_20 : Cond.selects "FoldGates" ⟨"FoldGates", "act", "(I)I"⟩ ⟨"FoldGates", "act", "(I)I"⟩ ∈ gWS := gin0 (List.mem_map.mpr ⟨(⟨"FoldGates", "act", "(I)I"⟩, _), lw_pm 20 rfl, rfl⟩) rfl
theorem ws_21 : Cond.selects "FoldGates" ⟨"FoldGates", "keepAct", "()V"⟩ ⟨"FoldGates", "keepAct", "()V"⟩ ∈ gWS := gin0 (List.mem_map.mpr ⟨(⟨"FoldGates", "keepAct", "()V"⟩, _), lw_pm 21 rfl, rfl⟩) rfl
theorem ws_22 : Cond.selects "FoldGates$Standing" ⟨"FoldGates$Standing", "pass", "(III)I"⟩ ⟨"FoldGates$Standing", "pass", "(III)I"⟩ ∈ gWS := gin0 (List.mem_map.mpr ⟨(⟨"FoldGates$Standing", "pass", "(III)I"⟩, _), lw_pm 22 rfl, rfl⟩) rfl
theorem ws_23 : Cond.selects "FoldGates$Standing" ⟨"FoldGates$Standing", "isFixed", "(II)Z"⟩ ⟨"FoldGates$Standing", "isFixed", "(II)Z"⟩ ∈ gWS := gin0 (List.mem_map.mpr ⟨(⟨"FoldGates$Standing", "isFixed", "(II)Z"⟩, _), lw_pm 23 rfl, rfl⟩) rfl
theorem ws_24 : Cond.selects "FoldGates$Standing" ⟨"FoldGates$Standing", "sideLeftBehind", "(III)I"⟩ ⟨"FoldGates$Standing", "sideLeftBehind", "(III)I"⟩ ∈ gWS := gin0 (List.mem_map.mpr ⟨(⟨"FoldGates$Standing", "sideLeftBehind", "(III)I"⟩, _), lw_pm 24 rfl, rfl⟩) rfl
theorem ws_25 : Cond.selects "FoldGates" ⟨"FoldGates", "noFold", "()Z"⟩ ⟨"FoldGates", "noFold", "()Z"⟩ ∈ gWS := gin0 (List.mem_map.mpr ⟨(⟨"FoldGates", "noFold", "()Z"⟩, _), lw_pm 25 rfl, rfl⟩) rfl
theorem ws_26 : Cond.selects "FoldGates" ⟨"FoldGates", "areBeasts", "(III)Z"⟩ ⟨"FoldGates", "areBeasts", "(III)Z"⟩ ∈ gWS := gin0 (List.mem_map.mpr ⟨(⟨"FoldGates", "areBeasts", "(III)Z"⟩, _), lw_pm 26 rfl, rfl⟩) rfl
theorem ws_27 : Cond.selects "FoldGates" ⟨"FoldGates", "isStanding", "(I)Z"⟩ ⟨"FoldGates", "isStanding", "(I)Z"⟩ ∈ gWS := gin0 (List.mem_map.mpr ⟨(⟨"FoldGates", "isStanding", "(I)Z"⟩, _), lw_pm 27 rfl, rfl⟩) rfl
theorem ws_28 : Cond.selects "FoldGates" ⟨"FoldGates", "isPen", "(I)Z"⟩ ⟨"FoldGates", "isPen", "(I)Z"⟩ ∈ gWS := gin0 (List.mem_map.mpr ⟨(⟨"FoldGates", "isPen", "(I)Z"⟩, _), lw_pm 28 rfl, rfl⟩) rfl
theorem ws_29 : Cond.selects "FoldGates" ⟨"FoldGates", "arePairs", "(III)Z"⟩ ⟨"FoldGates", "arePairs", "(III)Z"⟩ ∈ gWS := gin0 (List.mem_map.mpr ⟨(⟨"FoldGates", "arePairs", "(III)Z"⟩, _), lw_pm 29 rfl, rfl⟩) rfl
theorem ws_30 : Cond.selects "FoldGates" ⟨"FoldGates", "comeAsTold", "(LFoldGates$Row;III)Z"⟩ ⟨"FoldGates", "comeAsTold", "(LFoldGates$Row;III)Z"⟩ ∈ gWS := gin0 (List.mem_map.mpr ⟨(⟨"FoldGates", "comeAsTold", "(LFoldGates$Row;III)Z"⟩, _), lw_pm 30 rfl, rfl⟩) rfl
theorem ws_31 : Cond.selects "FoldGates" ⟨"FoldGates", "searchFromNow", "()LFoldGates$Search;"⟩ ⟨"FoldGates", "searchFromNow", "()LFoldGates$Search;"⟩ ∈ gWS := gin0 (List.mem_map.mpr ⟨(⟨"FoldGates", "searchFromNow", "()LFoldGates$Search;"⟩, _), lw_pm 31 rfl, rfl⟩) rfl
theorem ws_32 : Cond.selects "FoldGates$Search" ⟨"FoldGates$Search", "makeRoom", "(I)V"⟩ ⟨"FoldGates$Search", "makeRoom", "(I)V"⟩ ∈ gWS := gin0 (List.mem_map.mpr ⟨(⟨"FoldGates$Search", "makeRoom", "(I)V"⟩, _), lw_pm 32 rfl, rfl⟩) rfl
theorem ws_33 : Cond.selects "FoldGates$Search" ⟨"FoldGates$Search", "note", "(II)V"⟩ ⟨"FoldGates$Search", "note", "(II)V"⟩ ∈ gWS := gin0 (List.mem_map.mpr ⟨(⟨"FoldGates$Search", "note", "(II)V"⟩, _), lw_pm 33 rfl, rfl⟩) rfl
theorem ws_34 : Cond.selects "FoldGates$Search" ⟨"FoldGates$Search", "isCode", "(I)Z"⟩ ⟨"FoldGates$Search", "isCode", "(I)Z"⟩ ∈ gWS := gin0 (List.mem_map.mpr ⟨(⟨"FoldGates$Search", "isCode", "(I)Z"⟩, _), lw_pm 34 rfl, rfl⟩) rfl
theorem ws_35 : Cond.selects "FoldGates$Search" ⟨"FoldGates$Search", "spread", "(I)V"⟩ ⟨"FoldGates$Search", "spread", "(I)V"⟩ ∈ gWS := gin0 (List.mem_map.mpr ⟨(⟨"FoldGates$Search", "spread", "(I)V"⟩, _), lw_pm 35 rfl, rfl⟩) rfl
theorem ws_36 : Cond.selects "FoldGates$Search" ⟨"FoldGates$Search", "isBehindOther", "(I)Z"⟩ ⟨"FoldGates$Search", "isBehindOther", "(I)Z"⟩ ∈ gWS := gin0 (List.mem_map.mpr ⟨(⟨"FoldGates$Search", "isBehindOther", "(I)Z"⟩, _), lw_pm 36 rfl, rfl⟩) rfl
theorem ws_37 : Cond.selects "FoldGates" ⟨"FoldGates", "roundLength", "(I)I"⟩ ⟨"FoldGates", "roundLength", "(I)I"⟩ ∈ gWS := gin0 (List.mem_map.mpr ⟨(⟨"FoldGates", "roundLength", "(I)I"⟩, _), lw_pm 37 rfl, rfl⟩) rfl
theorem ws_38 : Cond.selects "FoldGates" ⟨"FoldGates", "tailLength", "(II)I"⟩ ⟨"FoldGates", "tailLength", "(II)I"⟩ ∈ gWS := gin0 (List.mem_map.mpr ⟨(⟨"FoldGates", "tailLength", "(II)I"⟩, _), lw_pm 38 rfl, rfl⟩) rfl
theorem ws_39 : Cond.selects "FoldGates" ⟨"FoldGates", "asked", "(III)I"⟩ ⟨"FoldGates", "asked", "(III)I"⟩ ∈ gWS := gin0 (List.mem_map.mpr ⟨(⟨"FoldGates", "asked", "(III)I"⟩, _), lw_pm 39 rfl, rfl⟩) rfl
theorem ws_40 : Cond.selects "FoldGates" ⟨"FoldGates", "body", "(III)I"⟩ ⟨"FoldGates", "body", "(III)I"⟩ ∈ gWS := gin0 (List.mem_map.mpr ⟨(⟨"FoldGates", "body", "(III)I"⟩, _), lw_pm 40 rfl, rfl⟩) rfl
theorem ws_41 : Cond.selects "FoldGates" ⟨"FoldGates", "penNow", "(I)I"⟩ ⟨"FoldGates", "penNow", "(I)I"⟩ ∈ gWS := gin0 (List.mem_map.mpr ⟨(⟨"FoldGates", "penNow", "(I)I"⟩, _), lw_pm 41 rfl, rfl⟩) rfl
theorem ws_42 : Cond.selects "FoldGates" ⟨"FoldGates", "rowsThere", "()I"⟩ ⟨"FoldGates", "rowsThere", "()I"⟩ ∈ gWS := gin0 (List.mem_map.mpr ⟨(⟨"FoldGates", "rowsThere", "()I"⟩, _), lw_pm 42 rfl, rfl⟩) rfl
theorem ws_43 : Cond.selects "FoldGatesModel" ⟨"FoldGatesModel", "find", "(I)I"⟩ ⟨"FoldGatesModel", "find", "(I)I"⟩ ∈ gWS := gin0 (List.mem_map.mpr ⟨(⟨"FoldGatesModel", "find", "(I)I"⟩, _), lw_pm 43 rfl, rfl⟩) rfl
theorem ws_44 : Cond.selects "FoldGatesModel" ⟨"FoldGatesModel", "give", "(I)I"⟩ ⟨"FoldGatesModel", "give", "(I)I"⟩ ∈ gWS := gin0 (List.mem_map.mpr ⟨(⟨"FoldGatesModel", "give", "(I)I"⟩, _), lw_pm 44 rfl, rfl⟩) rfl
theorem ws_45 : Cond.selects "FoldGatesModel" ⟨"FoldGatesModel", "isSpan", "(III)Z"⟩ ⟨"FoldGatesModel", "isSpan", "(III)Z"⟩ ∈ gWS := gin0 (List.mem_map.mpr ⟨(⟨"FoldGatesModel", "isSpan", "(III)Z"⟩, _), lw_pm 45 rfl, rfl⟩) rfl
theorem ws_46 : Cond.selects "FoldGatesModel" ⟨"FoldGatesModel", "readsAll", "()Z"⟩ ⟨"FoldGatesModel", "readsAll", "()Z"⟩ ∈ gWS := gin0 (List.mem_map.mpr ⟨(⟨"FoldGatesModel", "readsAll", "()Z"⟩, _), lw_pm 46 rfl, rfl⟩) rfl
theorem ws_47 : Cond.selects "FoldGatesModel" ⟨"FoldGatesModel", "token", "()V"⟩ ⟨"FoldGatesModel", "token", "()V"⟩ ∈ gWS := gin0 (List.mem_map.mpr ⟨(⟨"FoldGatesModel", "token", "()V"⟩, _), lw_pm 47 rfl, rfl⟩) rfl
theorem ws_48 : Cond.selects "FoldGatesModel" ⟨"FoldGatesModel", "readsLaw", "()Z"⟩ ⟨"FoldGatesModel", "readsLaw", "()Z"⟩ ∈ gWS := gin0 (List.mem_map.mpr ⟨(⟨"FoldGatesModel", "readsLaw", "()Z"⟩, _), lw_pm 48 rfl, rfl⟩) rfl
theorem ws_49 : Cond.selects "FoldGatesModel" ⟨"FoldGatesModel", "isWord", "(II)Z"⟩ ⟨"FoldGatesModel", "isWord", "(II)Z"⟩ ∈ gWS := gin0 (List.mem_map.mpr ⟨(⟨"FoldGatesModel", "isWord", "(II)Z"⟩, _), lw_pm 49 rfl, rfl⟩) rfl
theorem ws_50 : Cond.selects "FoldGatesModel" ⟨"FoldGatesModel", "number", "(II)I"⟩ ⟨"FoldGatesModel", "number", "(II)I"⟩ ∈ gWS := gin0 (List.mem_map.mpr ⟨(⟨"FoldGatesModel", "number", "(II)I"⟩, _), lw_pm 50 rfl, rfl⟩) rfl
theorem ws_51 : Cond.selects "FoldGatesModel" ⟨"FoldGatesModel", "numberHere", "(II)I"⟩ ⟨"FoldGatesModel", "numberHere", "(II)I"⟩ ∈ gWS := gin0 (List.mem_map.mpr ⟨(⟨"FoldGatesModel", "numberHere", "(II)I"⟩, _), lw_pm 51 rfl, rfl⟩) rfl
theorem ws_52 : Cond.selects "FoldGatesModel" ⟨"FoldGatesModel", "readsSign", "()Z"⟩ ⟨"FoldGatesModel", "readsSign", "()Z"⟩ ∈ gWS := gin0 (List.mem_map.mpr ⟨(⟨"FoldGatesModel", "readsSign", "()Z"⟩, _), lw_pm 52 rfl, rfl⟩) rfl
theorem ws_53 : Cond.selects "FoldGatesModel" ⟨"FoldGatesModel", "readsHurdle", "()Z"⟩ ⟨"FoldGatesModel", "readsHurdle", "()Z"⟩ ∈ gWS := gin0 (List.mem_map.mpr ⟨(⟨"FoldGatesModel", "readsHurdle", "()Z"⟩, _), lw_pm 53 rfl, rfl⟩) rfl
theorem ws_54 : Cond.selects "FoldGatesModel" ⟨"FoldGatesModel", "hurdleWord", "()I"⟩ ⟨"FoldGatesModel", "hurdleWord", "()I"⟩ ∈ gWS := gin0 (List.mem_map.mpr ⟨(⟨"FoldGatesModel", "hurdleWord", "()I"⟩, _), lw_pm 54 rfl, rfl⟩) rfl
theorem ws_55 : Cond.selects "FoldGatesModel" ⟨"FoldGatesModel", "way", "()I"⟩ ⟨"FoldGatesModel", "way", "()I"⟩ ∈ gWS := gin0 (List.mem_map.mpr ⟨(⟨"FoldGatesModel", "way", "()I"⟩, _), lw_pm 55 rfl, rfl⟩) rfl
theorem ws_56 : Cond.selects "FoldGatesModel" ⟨"FoldGatesModel", "readsBeast", "()Z"⟩ ⟨"FoldGatesModel", "readsBeast", "()Z"⟩ ∈ gWS := gin0 (List.mem_map.mpr ⟨(⟨"FoldGatesModel", "readsBeast", "()Z"⟩, _), lw_pm 56 rfl, rfl⟩) rfl
theorem ws_57 : Cond.selects "FoldGatesModel" ⟨"FoldGatesModel", "beastWord", "()I"⟩ ⟨"FoldGatesModel", "beastWord", "()I"⟩ ∈ gWS := gin0 (List.mem_map.mpr ⟨(⟨"FoldGatesModel", "beastWord", "()I"⟩, _), lw_pm 57 rfl, rfl⟩) rfl
theorem ws_58 : Cond.selects "FoldGatesModel" ⟨"FoldGatesModel", "isBeast", "(I)Z"⟩ ⟨"FoldGatesModel", "isBeast", "(I)Z"⟩ ∈ gWS := gin0 (List.mem_map.mpr ⟨(⟨"FoldGatesModel", "isBeast", "(I)Z"⟩, _), lw_pm 58 rfl, rfl⟩) rfl
theorem ws_59 : Cond.selects "FoldGatesModel" ⟨"FoldGatesModel", "inPens", "()I"⟩ ⟨"FoldGatesModel", "inPens", "()I"⟩ ∈ gWS := gin0 (List.mem_map.mpr ⟨(⟨"FoldGatesModel", "inPens", "()I"⟩, _), lw_pm 59 rfl, rfl⟩) rfl
theorem ws_60 : Cond.selects "FoldGatesModel" ⟨"FoldGatesModel", "runOne", "(I)I"⟩ ⟨"FoldGatesModel", "runOne", "(I)I"⟩ ∈ gWS := gin0 (List.mem_map.mpr ⟨(⟨"FoldGatesModel", "runOne", "(I)I"⟩, _), lw_pm 60 rfl, rfl⟩) rfl
theorem ws_61 : Cond.selects "FoldGatesModel" ⟨"FoldGatesModel", "keepPast", "()V"⟩ ⟨"FoldGatesModel", "keepPast", "()V"⟩ ∈ gWS := gin0 (List.mem_map.mpr ⟨(⟨"FoldGatesModel", "keepPast", "()V"⟩, _), lw_pm 61 rfl, rfl⟩) rfl
theorem ws_62 : Cond.selects "FoldGatesModel" ⟨"FoldGatesModel", "go", "(II)I"⟩ ⟨"FoldGatesModel", "go", "(II)I"⟩ ∈ gWS := gin0 (List.mem_map.mpr ⟨(⟨"FoldGatesModel", "go", "(II)I"⟩, _), lw_pm 62 rfl, rfl⟩) rfl
theorem ws_63 : Cond.selects "FoldGatesModel" ⟨"FoldGatesModel", "pass", "(III)I"⟩ ⟨"FoldGatesModel", "pass", "(III)I"⟩ ∈ gWS := gin0 (List.mem_map.mpr ⟨(⟨"FoldGatesModel", "pass", "(III)I"⟩, _), lw_pm 63 rfl, rfl⟩) rfl
theorem ws_64 : Cond.selects "FoldGatesModel" ⟨"FoldGatesModel", "sortOf", "(I)I"⟩ ⟨"FoldGatesModel", "sortOf", "(I)I"⟩ ∈ gWS := gin0 (List.mem_map.mpr ⟨(⟨"FoldGatesModel", "sortOf", "(I)I"⟩, _), lw_pm 64 rfl, rfl⟩) rfl
theorem ws_65 : Cond.selects "FoldGatesModel" ⟨"FoldGatesModel", "push", "(II)Z"⟩ ⟨"FoldGatesModel", "push", "(II)Z"⟩ ∈ gWS := gin0 (List.mem_map.mpr ⟨(⟨"FoldGatesModel", "push", "(II)Z"⟩, _), lw_pm 65 rfl, rfl⟩) rfl
theorem ws_66 : Cond.selects "FoldGatesModel" ⟨"FoldGatesModel", "turn", "(II)V"⟩ ⟨"FoldGatesModel", "turn", "(II)V"⟩ ∈ gWS := gin0 (List.mem_map.mpr ⟨(⟨"FoldGatesModel", "turn", "(II)V"⟩, _), lw_pm 66 rfl, rfl⟩) rfl
theorem ws_67 : Cond.selects "FoldGatesModel" ⟨"FoldGatesModel", "refused", "(III)I"⟩ ⟨"FoldGatesModel", "refused", "(III)I"⟩ ∈ gWS := gin0 (List.mem_map.mpr ⟨(⟨"FoldGatesModel", "refused", "(III)I"⟩, _), lw_pm 67 rfl, rfl⟩) rfl
theorem ws_68 : Cond.selects "FoldGatesModel" ⟨"FoldGatesModel", "areBeasts", "(II)Z"⟩ ⟨"FoldGatesModel", "areBeasts", "(II)Z"⟩ ∈ gWS := gin0 (List.mem_map.mpr ⟨(⟨"FoldGatesModel", "areBeasts", "(II)Z"⟩, _), lw_pm 68 rfl, rfl⟩) rfl
theorem ws_69 : Cond.selects "FoldGatesModel" ⟨"FoldGatesModel", "areStands", "(I)Z"⟩ ⟨"FoldGatesModel", "areStands", "(I)Z"⟩ ∈ gWS := gin0 (List.mem_map.mpr ⟨(⟨"FoldGatesModel", "areStands", "(I)Z"⟩, _), lw_pm 69 rfl, rfl⟩) rfl
theorem ws_70 : Cond.selects "FoldGatesModel" ⟨"FoldGatesModel", "isPen", "(I)Z"⟩ ⟨"FoldGatesModel", "isPen", "(I)Z"⟩ ∈ gWS := gin0 (List.mem_map.mpr ⟨(⟨"FoldGatesModel", "isPen", "(I)Z"⟩, _), lw_pm 70 rfl, rfl⟩) rfl
theorem ws_71 : Cond.selects "FoldGatesModel" ⟨"FoldGatesModel", "refusedPairs", "(III)I"⟩ ⟨"FoldGatesModel", "refusedPairs", "(III)I"⟩ ∈ gWS := gin0 (List.mem_map.mpr ⟨(⟨"FoldGatesModel", "refusedPairs", "(III)I"⟩, _), lw_pm 71 rfl, rfl⟩) rfl
theorem ws_72 : Cond.selects "FoldGatesModel" ⟨"FoldGatesModel", "arePairs", "(II)Z"⟩ ⟨"FoldGatesModel", "arePairs", "(II)Z"⟩ ∈ gWS := gin0 (List.mem_map.mpr ⟨(⟨"FoldGatesModel", "arePairs", "(II)Z"⟩, _), lw_pm 72 rfl, rfl⟩) rfl
theorem ws_73 : Cond.selects "FoldGatesModel" ⟨"FoldGatesModel", "copyRow", "(II)V"⟩ ⟨"FoldGatesModel", "copyRow", "(II)V"⟩ ∈ gWS := gin0 (List.mem_map.mpr ⟨(⟨"FoldGatesModel", "copyRow", "(II)V"⟩, _), lw_pm 73 rfl, rfl⟩) rfl
theorem ws_74 : Cond.selects "FoldGatesModel" ⟨"FoldGatesModel", "comeSo", "(II)Z"⟩ ⟨"FoldGatesModel", "comeSo", "(II)Z"⟩ ∈ gWS := gin0 (List.mem_map.mpr ⟨(⟨"FoldGatesModel", "comeSo", "(II)Z"⟩, _), lw_pm 74 rfl, rfl⟩) rfl
theorem ws_75 : Cond.selects "FoldGatesModel" ⟨"FoldGatesModel", "wouldCome", "(I)I"⟩ ⟨"FoldGatesModel", "wouldCome", "(I)I"⟩ ∈ gWS := gin0 (List.mem_map.mpr ⟨(⟨"FoldGatesModel", "wouldCome", "(I)I"⟩, _), lw_pm 75 rfl, rfl⟩) rfl
theorem ws_76 : Cond.selects "FoldGatesModel" ⟨"FoldGatesModel", "layFars", "()V"⟩ ⟨"FoldGatesModel", "layFars", "()V"⟩ ∈ gWS := gin0 (List.mem_map.mpr ⟨(⟨"FoldGatesModel", "layFars", "()V"⟩, _), lw_pm 76 rfl, rfl⟩) rfl
theorem ws_77 : Cond.selects "FoldGatesModel" ⟨"FoldGatesModel", "number", "()I"⟩ ⟨"FoldGatesModel", "number", "()I"⟩ ∈ gWS := gin0 (List.mem_map.mpr ⟨(⟨"FoldGatesModel", "number", "()I"⟩, _), lw_pm 77 rfl, rfl⟩) rfl
theorem ws_78 : Cond.selects "FoldGatesModel" ⟨"FoldGatesModel", "put", "(II)V"⟩ ⟨"FoldGatesModel", "put", "(II)V"⟩ ∈ gWS := gin0 (List.mem_map.mpr ⟨(⟨"FoldGatesModel", "put", "(II)V"⟩, _), lw_pm 78 rfl, rfl⟩) rfl
theorem ws_79 : Cond.selects "FoldGatesModel" ⟨"FoldGatesModel", "after", "(II)I"⟩ ⟨"FoldGatesModel", "after", "(II)I"⟩ ∈ gWS := gin0 (List.mem_map.mpr ⟨(⟨"FoldGatesModel", "after", "(II)I"⟩, _), lw_pm 79 rfl, rfl⟩) rfl
theorem ws_80 : Cond.selects "FoldGatesModel" ⟨"FoldGatesModel", "takeOut", "(I)V"⟩ ⟨"FoldGatesModel", "takeOut", "(I)V"⟩ ∈ gWS := gin0 (List.mem_map.mpr ⟨(⟨"FoldGatesModel", "takeOut", "(I)V"⟩, _), lw_pm 80 rfl, rfl⟩) rfl
theorem ws_81 : Cond.selects "FoldGatesModel" ⟨"FoldGatesModel", "soonest", "(I)I"⟩ ⟨"FoldGatesModel", "soonest", "(I)I"⟩ ∈ gWS := gin0 (List.mem_map.mpr ⟨(⟨"FoldGatesModel", "soonest", "(I)I"⟩, _), lw_pm 81 rfl, rfl⟩) rfl
theorem ws_82 : Cond.selects "FoldGatesModel" ⟨"FoldGatesModel", "layWays", "(II)V"⟩ ⟨"FoldGatesModel", "layWays", "(II)V"⟩ ∈ gWS := gin0 (List.mem_map.mpr ⟨(⟨"FoldGatesModel", "layWays", "(II)V"⟩, _), lw_pm 82 rfl, rfl⟩) rfl
theorem ws_83 : Cond.selects "FoldGatesModel" ⟨"FoldGatesModel", "leads", "(II)Z"⟩ ⟨"FoldGatesModel", "leads", "(II)Z"⟩ ∈ gWS := gin0 (List.mem_map.mpr ⟨(⟨"FoldGatesModel", "leads", "(II)Z"⟩, _), lw_pm 83 rfl, rfl⟩) rfl
theorem ws_84 : Cond.selects "FoldGatesModel" ⟨"FoldGatesModel", "layPens", "(II)V"⟩ ⟨"FoldGatesModel", "layPens", "(II)V"⟩ ∈ gWS := gin0 (List.mem_map.mpr ⟨(⟨"FoldGatesModel", "layPens", "(II)V"⟩, _), lw_pm 84 rfl, rfl⟩) rfl
theorem ws_85 : Cond.selects "FoldGatesModel" ⟨"FoldGatesModel", "sizeOfEwe", "(I)I"⟩ ⟨"FoldGatesModel", "sizeOfEwe", "(I)I"⟩ ∈ gWS := gin0 (List.mem_map.mpr ⟨(⟨"FoldGatesModel", "sizeOfEwe", "(I)I"⟩, _), lw_pm 85 rfl, rfl⟩) rfl
theorem ws_86 : Cond.selects "FoldGatesModel" ⟨"FoldGatesModel", "eweBody", "(I)I"⟩ ⟨"FoldGatesModel", "eweBody", "(I)I"⟩ ∈ gWS := gin0 (List.mem_map.mpr ⟨(⟨"FoldGatesModel", "eweBody", "(I)I"⟩, _), lw_pm 86 rfl, rfl⟩) rfl
theorem ws_87 : Cond.selects "FoldGatesModel" ⟨"FoldGatesModel", "leave", "(I)V"⟩ ⟨"FoldGatesModel", "leave", "(I)V"⟩ ∈ gWS := gin0 (List.mem_map.mpr ⟨(⟨"FoldGatesModel", "leave", "(I)V"⟩, _), lw_pm 87 rfl, rfl⟩) rfl
theorem ws_88 : Cond.selects "FoldGatesModel" ⟨"FoldGatesModel", "heavyBody", "(I)I"⟩ ⟨"FoldGatesModel", "heavyBody", "(I)I"⟩ ∈ gWS := gin0 (List.mem_map.mpr ⟨(⟨"FoldGatesModel", "heavyBody", "(I)I"⟩, _), lw_pm 88 rfl, rfl⟩) rfl
theorem ws_89 : Cond.selects "FoldGatesModel" ⟨"FoldGatesModel", "markOfEwe", "(I)I"⟩ ⟨"FoldGatesModel", "markOfEwe", "(I)I"⟩ ∈ gWS := gin0 (List.mem_map.mpr ⟨(⟨"FoldGatesModel", "markOfEwe", "(I)I"⟩, _), lw_pm 89 rfl, rfl⟩) rfl
theorem ws_90 : Cond.selects "FoldGatesModel" ⟨"FoldGatesModel", "penBody", "(I)I"⟩ ⟨"FoldGatesModel", "penBody", "(I)I"⟩ ∈ gWS := gin0 (List.mem_map.mpr ⟨(⟨"FoldGatesModel", "penBody", "(I)I"⟩, _), lw_pm 90 rfl, rfl⟩) rfl
theorem ws_91 : Cond.selects "FoldGatesModel" ⟨"FoldGatesModel", "numberBody", "(I)I"⟩ ⟨"FoldGatesModel", "numberBody", "(I)I"⟩ ∈ gWS := gin0 (List.mem_map.mpr ⟨(⟨"FoldGatesModel", "numberBody", "(I)I"⟩, _), lw_pm 91 rfl, rfl⟩) rfl
theorem ws_92 : Cond.selects "FoldGatesModel" ⟨"FoldGatesModel", "sizeOfBlind", "(I)I"⟩ ⟨"FoldGatesModel", "sizeOfBlind", "(I)I"⟩ ∈ gWS := gin0 (List.mem_map.mpr ⟨(⟨"FoldGatesModel", "sizeOfBlind", "(I)I"⟩, _), lw_pm 92 rfl, rfl⟩) rfl
theorem ws_93 : Cond.selects "FoldGatesModel" ⟨"FoldGatesModel", "blindBody", "(I)I"⟩ ⟨"FoldGatesModel", "blindBody", "(I)I"⟩ ∈ gWS := gin0 (List.mem_map.mpr ⟨(⟨"FoldGatesModel", "blindBody", "(I)I"⟩, _), lw_pm 93 rfl, rfl⟩) rfl
theorem ws_94 : Cond.selects "FoldGatesModel" ⟨"FoldGatesModel", "markOfBlind", "(I)I"⟩ ⟨"FoldGatesModel", "markOfBlind", "(I)I"⟩ ∈ gWS := gin0 (List.mem_map.mpr ⟨(⟨"FoldGatesModel", "markOfBlind", "(I)I"⟩, _), lw_pm 94 rfl, rfl⟩) rfl
