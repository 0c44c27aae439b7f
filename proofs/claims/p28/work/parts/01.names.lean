-- ===== PART A: goes FIRST, ahead of the names: the tables' words, and 'selects' of the private methods out of them =====
/-- a private method of a class that the tables say can be made, by its rows of tables_1 -/
def lw_okq (q : MethodName × Nat) : Prop := (q.1.cls ≠ "java/lang/invoke/MethodHandle" ∧ q.1.cls ≠ "java/lang/invoke/VarHandle") ∧ Cond.instantiable q.1.cls q.2 ∈ tables_1 ∧ Cond.privateMethod q.1 ∈ tables_1 ∧ Cond.instanceMethod q.1 ∈ tables_1
theorem lw_p0 : lw_okq (⟨"MistakeAlmanac", "remember", "()V"⟩, 7) := ⟨⟨by decide +kernel, by decide +kernel⟩, List.mem_of_getElem? (i := 10) (by decide +kernel), List.mem_of_getElem? (i := 232) (by decide +kernel), List.mem_of_getElem? (i := 233) (by decide +kernel)⟩
theorem lw_p1 : lw_okq (⟨"MistakeAlmanac$State", "countFrost", "(ZZ)V"⟩, 13) := ⟨⟨by decide +kernel, by decide +kernel⟩, List.mem_of_getElem? (i := 48) (by decide +kernel), List.mem_of_getElem? (i := 292) (by decide +kernel), List.mem_of_getElem? (i := 293) (by decide +kernel)⟩
theorem lw_p2 : lw_okq (⟨"MistakeAlmanac$State", "settleBets", "(ZZ)V"⟩, 13) := ⟨⟨by decide +kernel, by decide +kernel⟩, List.mem_of_getElem? (i := 48) (by decide +kernel), List.mem_of_getElem? (i := 296) (by decide +kernel), List.mem_of_getElem? (i := 297) (by decide +kernel)⟩
theorem lw_p3 : lw_okq (⟨"MistakeAlmanac$State", "endYear", "()V"⟩, 13) := ⟨⟨by decide +kernel, by decide +kernel⟩, List.mem_of_getElem? (i := 48) (by decide +kernel), List.mem_of_getElem? (i := 308) (by decide +kernel), List.mem_of_getElem? (i := 309) (by decide +kernel)⟩
theorem lw_p4 : lw_okq (⟨"MistakeAlmanac$DayText", "isAtPlace", "(C)Z"⟩, 6) := ⟨⟨by decide +kernel, by decide +kernel⟩, List.mem_of_getElem? (i := 18) (by decide +kernel), List.mem_of_getElem? (i := 342) (by decide +kernel), List.mem_of_getElem? (i := 343) (by decide +kernel)⟩
theorem lw_p5 : lw_okq (⟨"MistakeAlmanac$DayText", "readNumber", "(II)Z"⟩, 6) := ⟨⟨by decide +kernel, by decide +kernel⟩, List.mem_of_getElem? (i := 18) (by decide +kernel), List.mem_of_getElem? (i := 346) (by decide +kernel), List.mem_of_getElem? (i := 347) (by decide +kernel)⟩
theorem lw_p6 : lw_okq (⟨"MistakeAlmanac$DayText", "digitAtPlace", "()I"⟩, 6) := ⟨⟨by decide +kernel, by decide +kernel⟩, List.mem_of_getElem? (i := 18) (by decide +kernel), List.mem_of_getElem? (i := 350) (by decide +kernel), List.mem_of_getElem? (i := 351) (by decide +kernel)⟩
theorem lw_p7 : lw_okq (⟨"MistakeAlmanac", "sumWithRate", "(LMistakeAlmanac$Year;LMistakeAlmanac$Year;I)I"⟩, 7) := ⟨⟨by decide +kernel, by decide +kernel⟩, List.mem_of_getElem? (i := 10) (by decide +kernel), List.mem_of_getElem? (i := 421) (by decide +kernel), List.mem_of_getElem? (i := 422) (by decide +kernel)⟩
theorem lw_p8 : lw_okq (⟨"MistakeAlmanac$Year", "sumBefore", "(I)I"⟩, 5) := ⟨⟨by decide +kernel, by decide +kernel⟩, List.mem_of_getElem? (i := 60) (by decide +kernel), List.mem_of_getElem? (i := 471) (by decide +kernel), List.mem_of_getElem? (i := 472) (by decide +kernel)⟩
def lw_privs_1 : List (MethodName × Nat) := [(⟨"MistakeAlmanac", "remember", "()V"⟩, 7), (⟨"MistakeAlmanac$State", "countFrost", "(ZZ)V"⟩, 13), (⟨"MistakeAlmanac$State", "settleBets", "(ZZ)V"⟩, 13), (⟨"MistakeAlmanac$State", "endYear", "()V"⟩, 13), (⟨"MistakeAlmanac$DayText", "isAtPlace", "(C)Z"⟩, 6), (⟨"MistakeAlmanac$DayText", "readNumber", "(II)Z"⟩, 6), (⟨"MistakeAlmanac$DayText", "digitAtPlace", "()I"⟩, 6), (⟨"MistakeAlmanac", "sumWithRate", "(LMistakeAlmanac$Year;LMistakeAlmanac$Year;I)I"⟩, 7), (⟨"MistakeAlmanac$Year", "sumBefore", "(I)I"⟩, 5)]
theorem lw_r1 : ∀ q ∈ lw_privs_1, lw_okq q := List.forall_mem_cons.mpr ⟨lw_p0, List.forall_mem_cons.mpr ⟨lw_p1, List.forall_mem_cons.mpr ⟨lw_p2, List.forall_mem_cons.mpr ⟨lw_p3, List.forall_mem_cons.mpr ⟨lw_p4, List.forall_mem_cons.mpr ⟨lw_p5, List.forall_mem_cons.mpr ⟨lw_p6, List.forall_mem_cons.mpr ⟨lw_p7, List.forall_mem_cons.mpr ⟨lw_p8, fun _ h => absurd h List.not_mem_nil⟩⟩⟩⟩⟩⟩⟩⟩⟩
def lw_privs : List (MethodName × Nat) := lw_privs_1
def lw_tbl : List Cond := k2_sels lw_privs ++ tables_1
theorem lw_privs_ok : ∀ q ∈ lw_privs, lw_okq q := lw_r1
/-- the streams that the claim lets the run draw from -/
abbrev lw_cs : List Choice := [Jvm.Choice.named "NaN.bits"]
theorem lw_bits : nanBits ∈ lw_cs := by first | decide | exact List.mem_cons_self | simp [lw_cs, nanBits]

def RX0 : String := "MistakeAlmanac$DayText"
def TX0 : u_T := fun k => match k with
  | 0 => ("MistakeAlmanac$DayText", "characters", "[C", true)
  | 1 => ("MistakeAlmanac$DayText", "length", "I", false)
  | 2 => ("MistakeAlmanac$DayText", "place", "I", false)
  | 3 => ("MistakeAlmanac$DayText", "number", "I", false)
  | 4 => ("MistakeAlmanac$DayText", "warmth", "I", false)
  | _ => ("MistakeAlmanac$DayText", "inARow", "I", false)
def tyX0 : Nat → FieldType := fun k => match k with
  | 0 => .array .char
  | 1 => .int
  | 2 => .int
  | 3 => .int
  | 4 => .int
  | _ => .int
abbrev wsX00 : List Cond := u_ws RX0 TX0 6
theorem nmX0 : ∀ a, a < 6 → ∀ b, b < 6 → a ≠ b → (TX0 a).2.1 ≠ (TX0 b).2.1 := by decide +kernel
theorem tyX0_ok : ∀ k, k < 6 → parseFieldDescriptor (TX0 k).2.2.1 = some (tyX0 k) := by decide +kernel
abbrev cX0_init : ByteArray := prog_2_method_1_code
def yX0_init : MethodName := ⟨RX0, "<init>", "()V"⟩
abbrev cX0_goToStart : ByteArray := prog_2_method_2_code
def yX0_goToStart : MethodName := ⟨RX0, "goToStart", "()V"⟩
abbrev cX0_findFault : ByteArray := prog_2_method_3_code
def yX0_findFault : MethodName := ⟨RX0, "findFault", "()I"⟩
abbrev cX0_readEntry : ByteArray := prog_2_method_4_code
def yX0_readEntry : MethodName := ⟨RX0, "readEntry", "()Z"⟩
abbrev cX0_skipSeparator : ByteArray := prog_2_method_5_code
def yX0_skipSeparator : MethodName := ⟨RX0, "skipSeparator", "()V"⟩
abbrev cX0_isAtPlace : ByteArray := prog_2_method_6_code
def yX0_isAtPlace : MethodName := ⟨RX0, "isAtPlace", "(C)Z"⟩
abbrev cX0_digitAtPlace : ByteArray := prog_2_method_7_code
def yX0_digitAtPlace : MethodName := ⟨RX0, "digitAtPlace", "()I"⟩
abbrev cX0_readNumber : ByteArray := prog_2_method_8_code
def yX0_readNumber : MethodName := ⟨RX0, "readNumber", "(II)Z"⟩
def RX1 : String := "MistakeAlmanac$Reader"
def TX1 : u_T := fun k => match k with
  | 0 => ("MistakeAlmanac$Reader", "purse", "I", false)
  | 1 => ("MistakeAlmanac$Reader", "coins", "I", false)
  | 2 => ("MistakeAlmanac$Reader", "onFrost", "Z", false)
  | 3 => ("MistakeAlmanac$Reader", "won", "I", false)
  | _ => ("MistakeAlmanac$Reader", "lost", "I", false)
def tyX1 : Nat → FieldType := fun k => match k with
  | 0 => .int
  | 1 => .int
  | 2 => .boolean
  | 3 => .int
  | _ => .int
abbrev wsX10 : List Cond := u_ws RX1 TX1 5
theorem nmX1 : ∀ a, a < 5 → ∀ b, b < 5 → a ≠ b → (TX1 a).2.1 ≠ (TX1 b).2.1 := by decide +kernel
theorem tyX1_ok : ∀ k, k < 5 → parseFieldDescriptor (TX1 k).2.2.1 = some (tyX1 k) := by decide +kernel
abbrev cX1_init : ByteArray := prog_3_method_1_code
def yX1_init : MethodName := ⟨RX1, "<init>", "()V"⟩
abbrev cX1_copyFrom : ByteArray := prog_3_method_2_code
def yX1_copyFrom : MethodName := ⟨RX1, "copyFrom", "(LMistakeAlmanac$Reader;)V"⟩
abbrev cX1_winnings : ByteArray := prog_3_method_3_code
def yX1_winnings : MethodName := ⟨RX1, "winnings", "(ZZI)I"⟩
abbrev cX1_dropBet : ByteArray := prog_3_method_4_code
def yX1_dropBet : MethodName := ⟨RX1, "dropBet", "()V"⟩
def RX2 : String := "MistakeAlmanac$Saint"
def TX2 : u_T := fun k => match k with
  | 0 => ("MistakeAlmanac$Saint", "feast", "I", false)
  | 1 => ("MistakeAlmanac$Saint", "bound", "I", false)
  | 2 => ("MistakeAlmanac$Saint", "effect", "I", false)
  | _ => ("MistakeAlmanac$Saint", "length", "I", false)
def tyX2 : Nat → FieldType := fun k => match k with
  | 0 => .int
  | 1 => .int
  | 2 => .int
  | _ => .int
abbrev wsX20 : List Cond := u_ws RX2 TX2 4
theorem nmX2 : ∀ a, a < 4 → ∀ b, b < 4 → a ≠ b → (TX2 a).2.1 ≠ (TX2 b).2.1 := by decide +kernel
theorem tyX2_ok : ∀ k, k < 4 → parseFieldDescriptor (TX2 k).2.2.1 = some (tyX2 k) := by decide +kernel
abbrev cX2_init : ByteArray := prog_4_method_1_code
def yX2_init : MethodName := ⟨RX2, "<init>", "()V"⟩
abbrev cX2_copyFrom : ByteArray := prog_4_method_2_code
def yX2_copyFrom : MethodName := ⟨RX2, "copyFrom", "(LMistakeAlmanac$Saint;)V"⟩
abbrev cX2_reaches : ByteArray := prog_4_method_3_code
def yX2_reaches : MethodName := ⟨RX2, "reaches", "(I)Z"⟩
def RX3 : String := "MistakeAlmanac$State"
def TX3 : u_T := fun k => match k with
  | 0 => ("MistakeAlmanac$State", "settings", "[I", true)
  | 1 => ("MistakeAlmanac$State", "years", "[LMistakeAlmanac$Year;", true)
  | 2 => ("MistakeAlmanac$State", "saints", "[LMistakeAlmanac$Saint;", true)
  | 3 => ("MistakeAlmanac$State", "readers", "[LMistakeAlmanac$Reader;", true)
  | 4 => ("MistakeAlmanac$State", "saintCount", "I", false)
  | 5 => ("MistakeAlmanac$State", "year", "I", false)
  | 6 => ("MistakeAlmanac$State", "day", "I", false)
  | 7 => ("MistakeAlmanac$State", "measured", "I", false)
  | 8 => ("MistakeAlmanac$State", "sumWithoutSigns", "I", false)
  | 9 => ("MistakeAlmanac$State", "hits", "I", false)
  | 10 => ("MistakeAlmanac$State", "misses", "I", false)
  | 11 => ("MistakeAlmanac$State", "falseAlarms", "I", false)
  | _ => ("MistakeAlmanac$State", "purse", "I", false)
def tyX3 : Nat → FieldType := fun k => match k with
  | 0 => .array .int
  | 1 => .array (.object "MistakeAlmanac$Year")
  | 2 => .array (.object "MistakeAlmanac$Saint")
  | 3 => .array (.object "MistakeAlmanac$Reader")
  | 4 => .int
  | 5 => .int
  | 6 => .int
  | 7 => .int
  | 8 => .int
  | 9 => .int
  | 10 => .int
  | 11 => .int
  | _ => .int
abbrev wsX30 : List Cond := u_ws RX3 TX3 13
theorem nmX3 : ∀ a, a < 13 → ∀ b, b < 13 → a ≠ b → (TX3 a).2.1 ≠ (TX3 b).2.1 := by decide +kernel
theorem tyX3_ok : ∀ k, k < 13 → parseFieldDescriptor (TX3 k).2.2.1 = some (tyX3 k) := by decide +kernel
abbrev cX3_init : ByteArray := prog_5_method_1_code
def yX3_init : MethodName := ⟨RX3, "<init>", "()V"⟩
abbrev cX3_copyFrom : ByteArray := prog_5_method_2_code
def yX3_copyFrom : MethodName := ⟨RX3, "copyFrom", "(LMistakeAlmanac$State;)V"⟩
abbrev cX3_yearOfNow : ByteArray := prog_5_method_3_code
def yX3_yearOfNow : MethodName := ⟨RX3, "yearOfNow", "()LMistakeAlmanac$Year;"⟩
abbrev cX3_knownYears : ByteArray := prog_5_method_4_code
def yX3_knownYears : MethodName := ⟨RX3, "knownYears", "()I"⟩
abbrev cX3_endedYear : ByteArray := prog_5_method_5_code
def yX3_endedYear : MethodName := ⟨RX3, "endedYear", "(I)LMistakeAlmanac$Year;"⟩
abbrev cX3_isTelling : ByteArray := prog_5_method_6_code
def yX3_isTelling : MethodName := ⟨RX3, "isTelling", "(LMistakeAlmanac$Saint;)Z"⟩
abbrev cX3_foretoldOf : ByteArray := prog_5_method_7_code
def yX3_foretoldOf : MethodName := ⟨RX3, "foretoldOf", "(I)I"⟩
abbrev cX3_isFrostForetold : ByteArray := prog_5_method_8_code
def yX3_isFrostForetold : MethodName := ⟨RX3, "isFrostForetold", "(I)Z"⟩
abbrev cX3_removeSaint : ByteArray := prog_5_method_9_code
def yX3_removeSaint : MethodName := ⟨RX3, "removeSaint", "(I)V"⟩
abbrev cX3_passDay : ByteArray := prog_5_method_10_code
def yX3_passDay : MethodName := ⟨RX3, "passDay", "(I)I"⟩
abbrev cX3_countFrost : ByteArray := prog_5_method_11_code
def yX3_countFrost : MethodName := ⟨RX3, "countFrost", "(ZZ)V"⟩
abbrev cX3_settleBets : ByteArray := prog_5_method_12_code
def yX3_settleBets : MethodName := ⟨RX3, "settleBets", "(ZZ)V"⟩
abbrev cX3_endYear : ByteArray := prog_5_method_13_code
def yX3_endYear : MethodName := ⟨RX3, "endYear", "()V"⟩
def RX4 : String := "MistakeAlmanac$Year"
def TX4 : u_T := fun k => match k with
  | 0 => ("MistakeAlmanac$Year", "bases", "[I", true)
  | 1 => ("MistakeAlmanac$Year", "foretold", "[I", true)
  | 2 => ("MistakeAlmanac$Year", "warmths", "[I", true)
  | 3 => ("MistakeAlmanac$Year", "mistakes", "[I", true)
  | _ => ("MistakeAlmanac$Year", "sumWithoutSigns", "I", false)
def tyX4 : Nat → FieldType := fun k => match k with
  | 0 => .array .int
  | 1 => .array .int
  | 2 => .array .int
  | 3 => .array .int
  | _ => .int
abbrev wsX40 : List Cond := u_ws RX4 TX4 5
theorem nmX4 : ∀ a, a < 5 → ∀ b, b < 5 → a ≠ b → (TX4 a).2.1 ≠ (TX4 b).2.1 := by decide +kernel
theorem tyX4_ok : ∀ k, k < 5 → parseFieldDescriptor (TX4 k).2.2.1 = some (tyX4 k) := by decide +kernel
abbrev cX4_init : ByteArray := prog_6_method_1_code
def yX4_init : MethodName := ⟨RX4, "<init>", "()V"⟩
abbrev cX4_copyFrom : ByteArray := prog_6_method_2_code
def yX4_copyFrom : MethodName := ⟨RX4, "copyFrom", "(LMistakeAlmanac$Year;)V"⟩
abbrev cX4_beginBehind : ByteArray := prog_6_method_3_code
def yX4_beginBehind : MethodName := ⟨RX4, "beginBehind", "(LMistakeAlmanac$Year;II)V"⟩
abbrev cX4_meanByDays : ByteArray := prog_6_method_4_code
def yX4_meanByDays : MethodName := ⟨RX4, "meanByDays", "(II)I"⟩
abbrev cX4_meanBySums : ByteArray := prog_6_method_5_code
def yX4_meanBySums : MethodName := ⟨RX4, "meanBySums", "(II)I"⟩
abbrev cX4_sumBefore : ByteArray := prog_6_method_6_code
def yX4_sumBefore : MethodName := ⟨RX4, "sumBefore", "(I)I"⟩
abbrev cX4_wrongFrosts : ByteArray := prog_6_method_7_code
def yX4_wrongFrosts : MethodName := ⟨RX4, "wrongFrosts", "(I)I"⟩
def RX5 : String := "MistakeAlmanac"
def TX5 : u_T := fun k => match k with
  | 0 => ("MistakeAlmanac", "text", "LMistakeAlmanac$DayText;", true)
  | 1 => ("MistakeAlmanac", "history", "[LMistakeAlmanac$State;", true)
  | 2 => ("MistakeAlmanac", "snapshot", "LMistakeAlmanac$State;", true)
  | 3 => ("MistakeAlmanac", "means", "[I", true)
  | 4 => ("MistakeAlmanac", "now", "LMistakeAlmanac$State;", false)
  | 5 => ("MistakeAlmanac", "historySize", "I", false)
  | _ => ("MistakeAlmanac", "kept", "Z", false)
def tyX5 : Nat → FieldType := fun k => match k with
  | 0 => .object "MistakeAlmanac$DayText"
  | 1 => .array (.object "MistakeAlmanac$State")
  | 2 => .object "MistakeAlmanac$State"
  | 3 => .array .int
  | 4 => .object "MistakeAlmanac$State"
  | 5 => .int
  | _ => .boolean
abbrev wsX50 : List Cond := u_ws RX5 TX5 7
theorem nmX5 : ∀ a, a < 7 → ∀ b, b < 7 → a ≠ b → (TX5 a).2.1 ≠ (TX5 b).2.1 := by decide +kernel
theorem tyX5_ok : ∀ k, k < 7 → parseFieldDescriptor (TX5 k).2.2.1 = some (tyX5 k) := by decide +kernel
abbrev cX5_init : ByteArray := prog_1_method_1_code
def yX5_init : MethodName := ⟨RX5, "<init>", "()V"⟩
abbrev cX5_measure : ByteArray := prog_1_method_2_code
def yX5_measure : MethodName := ⟨RX5, "measure", "(I)I"⟩
abbrev cX5_measureAll : ByteArray := prog_1_method_3_code
def yX5_measureAll : MethodName := ⟨RX5, "measureAll", "()I"⟩
abbrev cX5_base : ByteArray := prog_1_method_4_code
def yX5_base : MethodName := ⟨RX5, "base", "(II)I"⟩
abbrev cX5_saint : ByteArray := prog_1_method_5_code
def yX5_saint : MethodName := ⟨RX5, "saint", "(IIII)I"⟩
abbrev cX5_strike : ByteArray := prog_1_method_6_code
def yX5_strike : MethodName := ⟨RX5, "strike", "(I)I"⟩
abbrev cX5_set : ByteArray := prog_1_method_7_code
def yX5_set : MethodName := ⟨RX5, "set", "(II)I"⟩
abbrev cX5_bet : ByteArray := prog_1_method_8_code
def yX5_bet : MethodName := ⟨RX5, "bet", "(IZI)I"⟩
abbrev cX5_takeBack : ByteArray := prog_1_method_9_code
def yX5_takeBack : MethodName := ⟨RX5, "takeBack", "(I)I"⟩
abbrev cX5_undo : ByteArray := prog_1_method_13_code
def yX5_undo : MethodName := ⟨RX5, "undo", "()I"⟩
abbrev cX5_keep : ByteArray := prog_1_method_14_code
def yX5_keep : MethodName := ⟨RX5, "keep", "()I"⟩
abbrev cX5_restore : ByteArray := prog_1_method_15_code
def yX5_restore : MethodName := ⟨RX5, "restore", "()I"⟩
abbrev cX5_dayOf : ByteArray := prog_1_method_16_code
def yX5_dayOf : MethodName := ⟨RX5, "dayOf", "(II)I"⟩
abbrev cX5_past : ByteArray := prog_1_method_17_code
def yX5_past : MethodName := ⟨RX5, "past", "(III)I"⟩
abbrev cX5_mean : ByteArray := prog_1_method_18_code
def yX5_mean : MethodName := ⟨RX5, "mean", "(III)I"⟩
abbrev cX5_saintOf : ByteArray := prog_1_method_19_code
def yX5_saintOf : MethodName := ⟨RX5, "saintOf", "(II)I"⟩
abbrev cX5_readerOf : ByteArray := prog_1_method_20_code
def yX5_readerOf : MethodName := ⟨RX5, "readerOf", "(II)I"⟩
abbrev cX5_count : ByteArray := prog_1_method_21_code
def yX5_count : MethodName := ⟨RX5, "count", "(I)I"⟩
abbrev cX5_meanMistake : ByteArray := prog_1_method_22_code
def yX5_meanMistake : MethodName := ⟨RX5, "meanMistake", "()F"⟩
abbrev cX5_nextBase : ByteArray := prog_1_method_23_code
def yX5_nextBase : MethodName := ⟨RX5, "nextBase", "(I)I"⟩
abbrev cX5_bestBound : ByteArray := prog_1_method_24_code
def yX5_bestBound : MethodName := ⟨RX5, "bestBound", "(I)I"⟩
abbrev cX5_bestRate : ByteArray := prog_1_method_25_code
def yX5_bestRate : MethodName := ⟨RX5, "bestRate", "(I)I"⟩
abbrev cX5_ifMeasured : ByteArray := prog_1_method_26_code
def yX5_ifMeasured : MethodName := ⟨RX5, "ifMeasured", "(II)I"⟩
abbrev cX5_remember : ByteArray := prog_1_method_27_code
def yX5_remember : MethodName := ⟨RX5, "remember", "()V"⟩
abbrev cX5_sumWithRate : ByteArray := prog_1_method_28_code
def yX5_sumWithRate : MethodName := ⟨RX5, "sumWithRate", "(LMistakeAlmanac$Year;LMistakeAlmanac$Year;I)I"⟩
abbrev cX5_isIndex : ByteArray := prog_1_method_29_code
def yX5_isIndex : MethodName := ⟨RX5, "isIndex", "(II)Z"⟩
abbrev cX5_isWithin : ByteArray := prog_1_method_30_code
def yX5_isWithin : MethodName := ⟨RX5, "isWithin", "(II)Z"⟩
abbrev cX5_isFrost : ByteArray := prog_1_method_31_code
def yX5_isFrost : MethodName := ⟨RX5, "isFrost", "(I)Z"⟩
abbrev cX5_oneIf : ByteArray := prog_1_method_32_code
def yX5_oneIf : MethodName := ⟨RX5, "oneIf", "(Z)I"⟩
abbrev cX5_clampWarmth : ByteArray := prog_1_method_33_code
def yX5_clampWarmth : MethodName := ⟨RX5, "clampWarmth", "(I)I"⟩
abbrev cX5_mended : ByteArray := prog_1_method_34_code
def yX5_mended : MethodName := ⟨RX5, "mended", "(III)I"⟩
def RX6 : String := "MistakeAlmanacModel"
def TX6 : u_T := fun k => match k with
  | _ => ("", "", "", false)
def tyX6 : Nat → FieldType := fun k => match k with
  | _ => .int
abbrev wsX60 : List Cond := u_ws RX6 TX6 0
theorem nmX6 : ∀ a, a < 0 → ∀ b, b < 0 → a ≠ b → (TX6 a).2.1 ≠ (TX6 b).2.1 := by decide +kernel
theorem tyX6_ok : ∀ k, k < 0 → parseFieldDescriptor (TX6 k).2.2.1 = some (tyX6 k) := by decide +kernel
def RJ9 : String := "java/lang/Math"
def TJ9 : u_T := fun k => match k with
  | _ => ("", "", "", false)
def tyJ9 : Nat → FieldType := fun k => match k with
  | _ => .int
abbrev wsJ90 : List Cond := u_ws RJ9 TJ9 0
theorem nmJ9 : ∀ a, a < 0 → ∀ b, b < 0 → a ≠ b → (TJ9 a).2.1 ≠ (TJ9 b).2.1 := by decide +kernel
theorem tyJ9_ok : ∀ k, k < 0 → parseFieldDescriptor (TJ9 k).2.2.1 = some (tyJ9 k) := by decide +kernel
abbrev cJ9_abs_0f7a4 : ByteArray := prog_9_method_59_code
def yJ9_abs_0f7a4 : MethodName := ⟨RJ9, "abs", "(I)I"⟩
abbrev cJ9_max_7cf53 : ByteArray := prog_9_method_65_code
def yJ9_max_7cf53 : MethodName := ⟨RJ9, "max", "(II)I"⟩
abbrev cJ9_min_7cf53 : ByteArray := prog_9_method_69_code
def yJ9_min_7cf53 : MethodName := ⟨RJ9, "min", "(II)I"⟩
def RJ10 : String := "java/lang/System"
def TJ10 : u_T := fun k => match k with
  | _ => ("", "", "", false)
def tyJ10 : Nat → FieldType := fun k => match k with
  | _ => .int
abbrev wsJ100 : List Cond := u_ws RJ10 TJ10 0
theorem nmJ10 : ∀ a, a < 0 → ∀ b, b < 0 → a ≠ b → (TJ10 a).2.1 ≠ (TJ10 b).2.1 := by decide +kernel
theorem tyJ10_ok : ∀ k, k < 0 → parseFieldDescriptor (TJ10 k).2.2.1 = some (tyJ10 k) := by decide +kernel
def RL : String := "MistakeAlmanacLaw"
abbrev cL_cell : ByteArray := method_2_code
def yL_cell : MethodName := ⟨RL, "cell", "([II)I"⟩
abbrev cL_low : ByteArray := method_3_code
def yL_low : MethodName := ⟨RL, "low", "(II)I"⟩
abbrev cL_size : ByteArray := method_4_code
def yL_size : MethodName := ⟨RL, "size", "(I)I"⟩
abbrev cL_bounded : ByteArray := method_5_code
def yL_bounded : MethodName := ⟨RL, "bounded", "(I)I"⟩
abbrev cL_areDays : ByteArray := method_6_code
def yL_areDays : MethodName := ⟨RL, "areDays", "(LMistakeAlmanac;)Z"⟩
abbrev cL_areYears : ByteArray := method_7_code
def yL_areYears : MethodName := ⟨RL, "areYears", "(LMistakeAlmanac;I)Z"⟩
abbrev cL_isDay : ByteArray := method_8_code
def yL_isDay : MethodName := ⟨RL, "isDay", "(LMistakeAlmanac;I[I)Z"⟩
abbrev cL_nextBase : ByteArray := method_9_code
def yL_nextBase : MethodName := ⟨RL, "nextBase", "(LMistakeAlmanac;II)I"⟩
abbrev cL_isNext : ByteArray := method_10_code
def yL_isNext : MethodName := ⟨RL, "isNext", "(LMistakeAlmanac;[I)Z"⟩
abbrev cL_isBound : ByteArray := method_11_code
def yL_isBound : MethodName := ⟨RL, "isBound", "(LMistakeAlmanac;)Z"⟩
abbrev cL_does : ByteArray := method_12_code
def yL_does : MethodName := ⟨RL, "does", "(LMistakeAlmanac;II[I)Z"⟩
abbrev cL_law : ByteArray := code
def yL_law : MethodName := ⟨RL, "law", "([I)Z"⟩
abbrev vwCl : List vw_C := [(RX0, TX0, 6), (RX1, TX1, 5), (RX2, TX2, 4), (RX3, TX3, 13), (RX4, TX4, 5), (RX5, TX5, 7)]
