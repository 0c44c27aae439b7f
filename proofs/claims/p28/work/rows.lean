section
-- ===== PART A: goes FIRST, ahead of the names: the tables' words, and 'selects' of the private methods out of them =====
/-- a private method of a class that the tables say can be made, by its rows of tables_1 -/
def lw_okq (q : MethodName × Nat) : Prop := (q.1.cls ≠ "java/lang/invoke/MethodHandle" ∧ q.1.cls ≠ "java/lang/invoke/VarHandle") ∧ Cond.instantiable q.1.cls q.2 ∈ tables_1 ∧ Cond.privateMethod q.1 ∈ tables_1 ∧ Cond.instanceMethod q.1 ∈ tables_1
theorem lw_p0 : lw_okq (⟨"MistakeAlmanac", "remember", "()V"⟩, 7) := ⟨⟨by decide +kernel, by decide +kernel⟩, List.mem_of_getElem? (i := 10) (by decide +kernel), List.mem_of_getElem? (i := 232) (by decide +kernel), List.mem_of_getElem? (i := 233) (by decide +kernel)⟩
theorem lw_p1 : lw_okq (⟨"MistakeAlmanac$State", "countFrost", "(ZZ)V"⟩, 13) := ⟨⟨by decide +kernel, by decide +kernel⟩, List.mem_of_getElem? (i := 48) (by decide +kernel), List.mem_of_getElem? (i := 292) (by decide +kernel), List.mem_of_getElem? (i := 293) (by decide +kernel)⟩
theorem lw_p2 : lw_okq (⟨"MistakeAlmanac$State", "settleBets", "(ZZ)V"⟩, 13) := ⟨⟨by decide +kernel, by decide +kernel⟩, List.mem_of_getElem? (i := 48) (by decide +kernel), List.mem_of_getElem? (i := 296) (by decide +kernel), List.mem_of_getElem? (i := 297) (by decide +kernel)⟩
theorem lw_p3 : lw_okq (⟨"MistakeAlmanac$State", "endYear", "()V"⟩, 13) := ⟨⟨by decide +kernel, by decide +kernel⟩, List.mem_of_getElem? (i := 48) (by decide +kernel), List.mem_of_getElem? (i := 308) (by decide +kernel), List.mem_of_getElem? (i := 309) (by decide +kernel)⟩
theorem lw_p4 : lw_okq (⟨"MistakeAlmanac$DayText", "isAtPlace", "(C)Z"⟩, 6) := ⟨⟨by decide +kernel, by decide +kernel⟩, List.mem_of_getElem? (i := 18) (by decide +kernel), List.mem_of_getElem? (i := 342) (by decide +kernel), List.mem_of_getElem? (i := 343) (by decide +kernel)⟩
theorem lw_p5 : lw_okq (⟨"MistakeAlmanac$DayText", "readNumber", "(II)Z"⟩, 6) := ⟨⟨by decide +kernel, by decide +kernel⟩, List.mem_of_getElem? (i := 18) (by decide +kernel), List.mem_of_getElem? (i := 346) (by decide +kernel), List.mem_of_getElem? (i := 347) (by decide +kernel)⟩
theorem lw_p6 : lw_okq (⟨"MistakeAlmanac$DayText", "digitAtPlace", "()I"⟩, 6) := ⟨⟨by decide +kernel, by decide +kernel⟩, List.mem_of_getElem? (i := 18) (by decide +kernel), List.mem_of_getElem? (i := 350) (by decide +kernel), List.mem_of_getElem? (i := 351) (by decide +kernel)⟩
theorem lw_p7 : lw_okq (⟨"MistakeAlmanac", "sumWithRate", "(LMistakeAlmanac$Year;LMistakeAlmanac$Year;I)I"⟩, 7) := ⟨⟨by decide +kernel, by decide +kernel⟩, List.mem_of_getElem? (i := 10) (by decide +kernel), List.mem_of_getElem? (i := 421) (by decide +kernel), List.mem_of_getElem? (i := 422) (by decide +kernel)⟩
theorem lw_p8 : lw_okq (⟨"MistakeAlmanac$Year", "sumBefore", "(I)I"⟩, 5) := ⟨⟨by decide +kernel, by decide +kernel⟩, List.mem_of_getElem? (i := 60) (by decide +kernel), List.mem_of_getElem? (i := 471) (by decide +kernel), List.mem_of_getElem? (i := 472) (by decide +kernel)⟩
def lw_privs_1 : List (MethodName × Nat) := [(⟨"MistakeAlmanac", "remember", "()V"⟩, 7), (⟨"MistakeAlmanac$State", "countFrost", "(ZZ)V"⟩, 13), (⟨"MistakeAlmanac$State", "settleBets", "(ZZ)V"⟩, 13), (⟨"MistakeAlmanac$State", "endYear", "()V"⟩, 13), (⟨"MistakeAlmanac$DayText", "isAtPlace", "(C)Z"⟩, 6), (⟨"MistakeAlmanac$DayText", "readNumber", "(II)Z"⟩, 6), (⟨"MistakeAlmanac$DayText", "digitAtPlace", "()I"⟩, 6), (⟨"MistakeAlmanac", "sumWithRate", "(LMistakeAlmanac$Year;LMistakeAlmanac$Year;I)I"⟩, 7), (⟨"MistakeAlmanac$Year", "sumBefore", "(I)I"⟩, 5)]
theorem lw_r1 : ∀ q ∈ lw_privs_1, lw_okq q := List.forall_mem_cons.mpr ⟨lw_p0, List.forall_mem_cons.mpr ⟨lw_p1, List.forall_mem_cons.mpr ⟨lw_p2, List.forall_mem_cons.mpr ⟨lw_p3, List.forall_mem_cons.mpr ⟨lw_p4, List.forall_mem_cons.mpr ⟨lw_p5, List.forall_mem_cons.mpr ⟨lw_p6, List.forall_mem_cons.mpr ⟨lw_p7, List.forall_mem_cons.mpr ⟨lw_p8, fun _ h => absurd h List.not_mem_nil⟩⟩⟩⟩⟩⟩⟩⟩⟩
def lw_privs : List (MethodName × Nat) := lw_privs_1
def lw_tbl : List Cond := k2_sels lw_privs ++ tables_1
theorem lw_privs_ok : ∀ q ∈ lw_privs, lw_okq q := lw_r1
/-- the streams that the claim lets the run draw from -/
abbrev lw_cs : List Choice := [Jvm.Choice.named "NaN.bits"]
theorem lw_bits : nanBits ∈ lw_cs := by first | decide | exact List.mem_cons_self | simp [lw_cs, nanBits]

def RX0 : String := "MistakeAlmanac$DayText"
def TX0 : u_T := fun k => match k with
  | 0 => ("MistakeAlmanac$DayText", "characters", "[C", true)
  | 1 => ("MistakeAlmanac$DayText", "length", "I", false)
  | 2 => ("MistakeAlmanac$DayText", "place", "I", false)
  | 3 => ("MistakeAlmanac$DayText", "number", "I", false)
  | 4 => ("MistakeAlmanac$DayText", "warmth", "I", false)
  | _ => ("MistakeAlmanac$DayText", "inARow", "I", false)
def tyX0 : Nat → FieldType := fun k => match k with
  | 0 => .array .char
  | 1 => .int
  | 2 => .int
  | 3 => .int
  | 4 => .int
  | _ => .int
abbrev wsX00 : List Cond := u_ws RX0 TX0 6
theorem nmX0 : ∀ a, a < 6 → ∀ b, b < 6 → a ≠ b → (TX0 a).2.1 ≠ (TX0 b).2.1 := by decide +kernel
theorem tyX0_ok : ∀ k, k < 6 → parseFieldDescriptor (TX0 k).2.2.1 = some (tyX0 k) := by decide +kernel
abbrev cX0_init : ByteArray := prog_2_method_1_code
def yX0_init : MethodName := ⟨RX0, "<init>", "()V"⟩
abbrev cX0_goToStart : ByteArray := prog_2_method_2_code
def yX0_goToStart : MethodName := ⟨RX0, "goToStart", "()V"⟩
abbrev cX0_findFault : ByteArray := prog_2_method_3_code
def yX0_findFault : MethodName := ⟨RX0, "findFault", "()I"⟩
abbrev cX0_readEntry : ByteArray := prog_2_method_4_code
def yX0_readEntry : MethodName := ⟨RX0, "readEntry", "()Z"⟩
abbrev cX0_skipSeparator : ByteArray := prog_2_method_5_code
def yX0_skipSeparator : MethodName := ⟨RX0, "skipSeparator", "()V"⟩
abbrev cX0_isAtPlace : ByteArray := prog_2_method_6_code
def yX0_isAtPlace : MethodName := ⟨RX0, "isAtPlace", "(C)Z"⟩
abbrev cX0_digitAtPlace : ByteArray := prog_2_method_7_code
def yX0_digitAtPlace : MethodName := ⟨RX0, "digitAtPlace", "()I"⟩
abbrev cX0_readNumber : ByteArray := prog_2_method_8_code
def yX0_readNumber : MethodName := ⟨RX0, "readNumber", "(II)Z"⟩
def RX1 : String := "MistakeAlmanac$Reader"
def TX1 : u_T := fun k => match k with
  | 0 => ("MistakeAlmanac$Reader", "purse", "I", false)
  | 1 => ("MistakeAlmanac$Reader", "coins", "I", false)
  | 2 => ("MistakeAlmanac$Reader", "onFrost", "Z", false)
  | 3 => ("MistakeAlmanac$Reader", "won", "I", false)
  | _ => ("MistakeAlmanac$Reader", "lost", "I", false)
def tyX1 : Nat → FieldType := fun k => match k with
  | 0 => .int
  | 1 => .int
  | 2 => .boolean
  | 3 => .int
  | _ => .int
abbrev wsX10 : List Cond := u_ws RX1 TX1 5
theorem nmX1 : ∀ a, a < 5 → ∀ b, b < 5 → a ≠ b → (TX1 a).2.1 ≠ (TX1 b).2.1 := by decide +kernel
theorem tyX1_ok : ∀ k, k < 5 → parseFieldDescriptor (TX1 k).2.2.1 = some (tyX1 k) := by decide +kernel
abbrev cX1_init : ByteArray := prog_3_method_1_code
def yX1_init : MethodName := ⟨RX1, "<init>", "()V"⟩
abbrev cX1_copyFrom : ByteArray := prog_3_method_2_code
def yX1_copyFrom : MethodName := ⟨RX1, "copyFrom", "(LMistakeAlmanac$Reader;)V"⟩
abbrev cX1_winnings : ByteArray := prog_3_method_3_code
def yX1_winnings : MethodName := ⟨RX1, "winnings", "(ZZI)I"⟩
abbrev cX1_dropBet : ByteArray := prog_3_method_4_code
def yX1_dropBet : MethodName := ⟨RX1, "dropBet", "()V"⟩
def RX2 : String := "MistakeAlmanac$Saint"
def TX2 : u_T := fun k => match k with
  | 0 => ("MistakeAlmanac$Saint", "feast", "I", false)
  | 1 => ("MistakeAlmanac$Saint", "bound", "I", false)
  | 2 => ("MistakeAlmanac$Saint", "effect", "I", false)
  | _ => ("MistakeAlmanac$Saint", "length", "I", false)
def tyX2 : Nat → FieldType := fun k => match k with
  | 0 => .int
  | 1 => .int
  | 2 => .int
  | _ => .int
abbrev wsX20 : List Cond := u_ws RX2 TX2 4
theorem nmX2 : ∀ a, a < 4 → ∀ b, b < 4 → a ≠ b → (TX2 a).2.1 ≠ (TX2 b).2.1 := by decide +kernel
theorem tyX2_ok : ∀ k, k < 4 → parseFieldDescriptor (TX2 k).2.2.1 = some (tyX2 k) := by decide +kernel
abbrev cX2_init : ByteArray := prog_4_method_1_code
def yX2_init : MethodName := ⟨RX2, "<init>", "()V"⟩
abbrev cX2_copyFrom : ByteArray := prog_4_method_2_code
def yX2_copyFrom : MethodName := ⟨RX2, "copyFrom", "(LMistakeAlmanac$Saint;)V"⟩
abbrev cX2_reaches : ByteArray := prog_4_method_3_code
def yX2_reaches : MethodName := ⟨RX2, "reaches", "(I)Z"⟩
def RX3 : String := "MistakeAlmanac$State"
def TX3 : u_T := fun k => match k with
  | 0 => ("MistakeAlmanac$State", "settings", "[I", true)
  | 1 => ("MistakeAlmanac$State", "years", "[LMistakeAlmanac$Year;", true)
  | 2 => ("MistakeAlmanac$State", "saints", "[LMistakeAlmanac$Saint;", true)
  | 3 => ("MistakeAlmanac$State", "readers", "[LMistakeAlmanac$Reader;", true)
  | 4 => ("MistakeAlmanac$State", "saintCount", "I", false)
  | 5 => ("MistakeAlmanac$State", "year", "I", false)
  | 6 => ("MistakeAlmanac$State", "day", "I", false)
  | 7 => ("MistakeAlmanac$State", "measured", "I", false)
  | 8 => ("MistakeAlmanac$State", "sumWithoutSigns", "I", false)
  | 9 => ("MistakeAlmanac$State", "hits", "I", false)
  | 10 => ("MistakeAlmanac$State", "misses", "I", false)
  | 11 => ("MistakeAlmanac$State", "falseAlarms", "I", false)
  | _ => ("MistakeAlmanac$State", "purse", "I", false)
def tyX3 : Nat → FieldType := fun k => match k with
  | 0 => .array .int
  | 1 => .array (.object "MistakeAlmanac$Year")
  | 2 => .array (.object "MistakeAlmanac$Saint")
  | 3 => .array (.object "MistakeAlmanac$Reader")
  | 4 => .int
  | 5 => .int
  | 6 => .int
  | 7 => .int
  | 8 => .int
  | 9 => .int
  | 10 => .int
  | 11 => .int
  | _ => .int
abbrev wsX30 : List Cond := u_ws RX3 TX3 13
theorem nmX3 : ∀ a, a < 13 → ∀ b, b < 13 → a ≠ b → (TX3 a).2.1 ≠ (TX3 b).2.1 := by decide +kernel
theorem tyX3_ok : ∀ k, k < 13 → parseFieldDescriptor (TX3 k).2.2.1 = some (tyX3 k) := by decide +kernel
abbrev cX3_init : ByteArray := prog_5_method_1_code
def yX3_init : MethodName := ⟨RX3, "<init>", "()V"⟩
abbrev cX3_copyFrom : ByteArray := prog_5_method_2_code
def yX3_copyFrom : MethodName := ⟨RX3, "copyFrom", "(LMistakeAlmanac$State;)V"⟩
abbrev cX3_yearOfNow : ByteArray := prog_5_method_3_code
def yX3_yearOfNow : MethodName := ⟨RX3, "yearOfNow", "()LMistakeAlmanac$Year;"⟩
abbrev cX3_knownYears : ByteArray := prog_5_method_4_code
def yX3_knownYears : MethodName := ⟨RX3, "knownYears", "()I"⟩
abbrev cX3_endedYear : ByteArray := prog_5_method_5_code
def yX3_endedYear : MethodName := ⟨RX3, "endedYear", "(I)LMistakeAlmanac$Year;"⟩
abbrev cX3_isTelling : ByteArray := prog_5_method_6_code
def yX3_isTelling : MethodName := ⟨RX3, "isTelling", "(LMistakeAlmanac$Saint;)Z"⟩
abbrev cX3_foretoldOf : ByteArray := prog_5_method_7_code
def yX3_foretoldOf : MethodName := ⟨RX3, "foretoldOf", "(I)I"⟩
abbrev cX3_isFrostForetold : ByteArray := prog_5_method_8_code
def yX3_isFrostForetold : MethodName := ⟨RX3, "isFrostForetold", "(I)Z"⟩
abbrev cX3_removeSaint : ByteArray := prog_5_method_9_code
def yX3_removeSaint : MethodName := ⟨RX3, "removeSaint", "(I)V"⟩
abbrev cX3_passDay : ByteArray := prog_5_method_10_code
def yX3_passDay : MethodName := ⟨RX3, "passDay", "(I)I"⟩
abbrev cX3_countFrost : ByteArray := prog_5_method_11_code
def yX3_countFrost : MethodName := ⟨RX3, "countFrost", "(ZZ)V"⟩
abbrev cX3_settleBets : ByteArray := prog_5_method_12_code
def yX3_settleBets : MethodName := ⟨RX3, "settleBets", "(ZZ)V"⟩
abbrev cX3_endYear : ByteArray := prog_5_method_13_code
def yX3_endYear : MethodName := ⟨RX3, "endYear", "()V"⟩
def RX4 : String := "MistakeAlmanac$Year"
def TX4 : u_T := fun k => match k with
  | 0 => ("MistakeAlmanac$Year", "bases", "[I", true)
  | 1 => ("MistakeAlmanac$Year", "foretold", "[I", true)
  | 2 => ("MistakeAlmanac$Year", "warmths", "[I", true)
  | 3 => ("MistakeAlmanac$Year", "mistakes", "[I", true)
  | _ => ("MistakeAlmanac$Year", "sumWithoutSigns", "I", false)
def tyX4 : Nat → FieldType := fun k => match k with
  | 0 => .array .int
  | 1 => .array .int
  | 2 => .array .int
  | 3 => .array .int
  | _ => .int
abbrev wsX40 : List Cond := u_ws RX4 TX4 5
theorem nmX4 : ∀ a, a < 5 → ∀ b, b < 5 → a ≠ b → (TX4 a).2.1 ≠ (TX4 b).2.1 := by decide +kernel
theorem tyX4_ok : ∀ k, k < 5 → parseFieldDescriptor (TX4 k).2.2.1 = some (tyX4 k) := by decide +kernel
abbrev cX4_init : ByteArray := prog_6_method_1_code
def yX4_init : MethodName := ⟨RX4, "<init>", "()V"⟩
abbrev cX4_copyFrom : ByteArray := prog_6_method_2_code
def yX4_copyFrom : MethodName := ⟨RX4, "copyFrom", "(LMistakeAlmanac$Year;)V"⟩
abbrev cX4_beginBehind : ByteArray := prog_6_method_3_code
def yX4_beginBehind : MethodName := ⟨RX4, "beginBehind", "(LMistakeAlmanac$Year;II)V"⟩
abbrev cX4_meanByDays : ByteArray := prog_6_method_4_code
def yX4_meanByDays : MethodName := ⟨RX4, "meanByDays", "(II)I"⟩
abbrev cX4_meanBySums : ByteArray := prog_6_method_5_code
def yX4_meanBySums : MethodName := ⟨RX4, "meanBySums", "(II)I"⟩
abbrev cX4_sumBefore : ByteArray := prog_6_method_6_code
def yX4_sumBefore : MethodName := ⟨RX4, "sumBefore", "(I)I"⟩
abbrev cX4_wrongFrosts : ByteArray := prog_6_method_7_code
def yX4_wrongFrosts : MethodName := ⟨RX4, "wrongFrosts", "(I)I"⟩
def RX5 : String := "MistakeAlmanac"
def TX5 : u_T := fun k => match k with
  | 0 => ("MistakeAlmanac", "text", "LMistakeAlmanac$DayText;", true)
  | 1 => ("MistakeAlmanac", "history", "[LMistakeAlmanac$State;", true)
  | 2 => ("MistakeAlmanac", "snapshot", "LMistakeAlmanac$State;", true)
  | 3 => ("MistakeAlmanac", "means", "[I", true)
  | 4 => ("MistakeAlmanac", "now", "LMistakeAlmanac$State;", false)
  | 5 => ("MistakeAlmanac", "historySize", "I", false)
  | _ => ("MistakeAlmanac", "kept", "Z", false)
def tyX5 : Nat → FieldType := fun k => match k with
  | 0 => .object "MistakeAlmanac$DayText"
  | 1 => .array (.object "MistakeAlmanac$State")
  | 2 => .object "MistakeAlmanac$State"
  | 3 => .array .int
  | 4 => .object "MistakeAlmanac$State"
  | 5 => .int
  | _ => .boolean
abbrev wsX50 : List Cond := u_ws RX5 TX5 7
theorem nmX5 : ∀ a, a < 7 → ∀ b, b < 7 → a ≠ b → (TX5 a).2.1 ≠ (TX5 b).2.1 := by decide +kernel
theorem tyX5_ok : ∀ k, k < 7 → parseFieldDescriptor (TX5 k).2.2.1 = some (tyX5 k) := by decide +kernel
abbrev cX5_init : ByteArray := prog_1_method_1_code
def yX5_init : MethodName := ⟨RX5, "<init>", "()V"⟩
abbrev cX5_measure : ByteArray := prog_1_method_2_code
def yX5_measure : MethodName := ⟨RX5, "measure", "(I)I"⟩
abbrev cX5_measureAll : ByteArray := prog_1_method_3_code
def yX5_measureAll : MethodName := ⟨RX5, "measureAll", "()I"⟩
abbrev cX5_base : ByteArray := prog_1_method_4_code
def yX5_base : MethodName := ⟨RX5, "base", "(II)I"⟩
abbrev cX5_saint : ByteArray := prog_1_method_5_code
def yX5_saint : MethodName := ⟨RX5, "saint", "(IIII)I"⟩
abbrev cX5_strike : ByteArray := prog_1_method_6_code
def yX5_strike : MethodName := ⟨RX5, "strike", "(I)I"⟩
abbrev cX5_set : ByteArray := prog_1_method_7_code
def yX5_set : MethodName := ⟨RX5, "set", "(II)I"⟩
abbrev cX5_bet : ByteArray := prog_1_method_8_code
def yX5_bet : MethodName := ⟨RX5, "bet", "(IZI)I"⟩
abbrev cX5_takeBack : ByteArray := prog_1_method_9_code
def yX5_takeBack : MethodName := ⟨RX5, "takeBack", "(I)I"⟩
abbrev cX5_undo : ByteArray := prog_1_method_13_code
def yX5_undo : MethodName := ⟨RX5, "undo", "()I"⟩
abbrev cX5_keep : ByteArray := prog_1_method_14_code
def yX5_keep : MethodName := ⟨RX5, "keep", "()I"⟩
abbrev cX5_restore : ByteArray := prog_1_method_15_code
def yX5_restore : MethodName := ⟨RX5, "restore", "()I"⟩
abbrev cX5_dayOf : ByteArray := prog_1_method_16_code
def yX5_dayOf : MethodName := ⟨RX5, "dayOf", "(II)I"⟩
abbrev cX5_past : ByteArray := prog_1_method_17_code
def yX5_past : MethodName := ⟨RX5, "past", "(III)I"⟩
abbrev cX5_mean : ByteArray := prog_1_method_18_code
def yX5_mean : MethodName := ⟨RX5, "mean", "(III)I"⟩
abbrev cX5_saintOf : ByteArray := prog_1_method_19_code
def yX5_saintOf : MethodName := ⟨RX5, "saintOf", "(II)I"⟩
abbrev cX5_readerOf : ByteArray := prog_1_method_20_code
def yX5_readerOf : MethodName := ⟨RX5, "readerOf", "(II)I"⟩
abbrev cX5_count : ByteArray := prog_1_method_21_code
def yX5_count : MethodName := ⟨RX5, "count", "(I)I"⟩
abbrev cX5_meanMistake : ByteArray := prog_1_method_22_code
def yX5_meanMistake : MethodName := ⟨RX5, "meanMistake", "()F"⟩
abbrev cX5_nextBase : ByteArray := prog_1_method_23_code
def yX5_nextBase : MethodName := ⟨RX5, "nextBase", "(I)I"⟩
abbrev cX5_bestBound : ByteArray := prog_1_method_24_code
def yX5_bestBound : MethodName := ⟨RX5, "bestBound", "(I)I"⟩
abbrev cX5_bestRate : ByteArray := prog_1_method_25_code
def yX5_bestRate : MethodName := ⟨RX5, "bestRate", "(I)I"⟩
abbrev cX5_ifMeasured : ByteArray := prog_1_method_26_code
def yX5_ifMeasured : MethodName := ⟨RX5, "ifMeasured", "(II)I"⟩
abbrev cX5_remember : ByteArray := prog_1_method_27_code
def yX5_remember : MethodName := ⟨RX5, "remember", "()V"⟩
abbrev cX5_sumWithRate : ByteArray := prog_1_method_28_code
def yX5_sumWithRate : MethodName := ⟨RX5, "sumWithRate", "(LMistakeAlmanac$Year;LMistakeAlmanac$Year;I)I"⟩
abbrev cX5_isIndex : ByteArray := prog_1_method_29_code
def yX5_isIndex : MethodName := ⟨RX5, "isIndex", "(II)Z"⟩
abbrev cX5_isWithin : ByteArray := prog_1_method_30_code
def yX5_isWithin : MethodName := ⟨RX5, "isWithin", "(II)Z"⟩
abbrev cX5_isFrost : ByteArray := prog_1_method_31_code
def yX5_isFrost : MethodName := ⟨RX5, "isFrost", "(I)Z"⟩
abbrev cX5_oneIf : ByteArray := prog_1_method_32_code
def yX5_oneIf : MethodName := ⟨RX5, "oneIf", "(Z)I"⟩
abbrev cX5_clampWarmth : ByteArray := prog_1_method_33_code
def yX5_clampWarmth : MethodName := ⟨RX5, "clampWarmth", "(I)I"⟩
abbrev cX5_mended : ByteArray := prog_1_method_34_code
def yX5_mended : MethodName := ⟨RX5, "mended", "(III)I"⟩
def RX6 : String := "MistakeAlmanacModel"
def TX6 : u_T := fun k => match k with
  | _ => ("", "", "", false)
def tyX6 : Nat → FieldType := fun k => match k with
  | _ => .int
abbrev wsX60 : List Cond := u_ws RX6 TX6 0
theorem nmX6 : ∀ a, a < 0 → ∀ b, b < 0 → a ≠ b → (TX6 a).2.1 ≠ (TX6 b).2.1 := by decide +kernel
theorem tyX6_ok : ∀ k, k < 0 → parseFieldDescriptor (TX6 k).2.2.1 = some (tyX6 k) := by decide +kernel
def RJ9 : String := "java/lang/Math"
def TJ9 : u_T := fun k => match k with
  | _ => ("", "", "", false)
def tyJ9 : Nat → FieldType := fun k => match k with
  | _ => .int
abbrev wsJ90 : List Cond := u_ws RJ9 TJ9 0
theorem nmJ9 : ∀ a, a < 0 → ∀ b, b < 0 → a ≠ b → (TJ9 a).2.1 ≠ (TJ9 b).2.1 := by decide +kernel
theorem tyJ9_ok : ∀ k, k < 0 → parseFieldDescriptor (TJ9 k).2.2.1 = some (tyJ9 k) := by decide +kernel
abbrev cJ9_abs_0f7a4 : ByteArray := prog_9_method_59_code
def yJ9_abs_0f7a4 : MethodName := ⟨RJ9, "abs", "(I)I"⟩
abbrev cJ9_max_7cf53 : ByteArray := prog_9_method_65_code
def yJ9_max_7cf53 : MethodName := ⟨RJ9, "max", "(II)I"⟩
abbrev cJ9_min_7cf53 : ByteArray := prog_9_method_69_code
def yJ9_min_7cf53 : MethodName := ⟨RJ9, "min", "(II)I"⟩
def RJ10 : String := "java/lang/System"
def TJ10 : u_T := fun k => match k with
  | _ => ("", "", "", false)
def tyJ10 : Nat → FieldType := fun k => match k with
  | _ => .int
abbrev wsJ100 : List Cond := u_ws RJ10 TJ10 0
theorem nmJ10 : ∀ a, a < 0 → ∀ b, b < 0 → a ≠ b → (TJ10 a).2.1 ≠ (TJ10 b).2.1 := by decide +kernel
theorem tyJ10_ok : ∀ k, k < 0 → parseFieldDescriptor (TJ10 k).2.2.1 = some (tyJ10 k) := by decide +kernel
def RL : String := "MistakeAlmanacLaw"
abbrev cL_cell : ByteArray := method_2_code
def yL_cell : MethodName := ⟨RL, "cell", "([II)I"⟩
abbrev cL_low : ByteArray := method_3_code
def yL_low : MethodName := ⟨RL, "low", "(II)I"⟩
abbrev cL_size : ByteArray := method_4_code
def yL_size : MethodName := ⟨RL, "size", "(I)I"⟩
abbrev cL_bounded : ByteArray := method_5_code
def yL_bounded : MethodName := ⟨RL, "bounded", "(I)I"⟩
abbrev cL_areDays : ByteArray := method_6_code
def yL_areDays : MethodName := ⟨RL, "areDays", "(LMistakeAlmanac;)Z"⟩
abbrev cL_areYears : ByteArray := method_7_code
def yL_areYears : MethodName := ⟨RL, "areYears", "(LMistakeAlmanac;I)Z"⟩
abbrev cL_isDay : ByteArray := method_8_code
def yL_isDay : MethodName := ⟨RL, "isDay", "(LMistakeAlmanac;I[I)Z"⟩
abbrev cL_nextBase : ByteArray := method_9_code
def yL_nextBase : MethodName := ⟨RL, "nextBase", "(LMistakeAlmanac;II)I"⟩
abbrev cL_isNext : ByteArray := method_10_code
def yL_isNext : MethodName := ⟨RL, "isNext", "(LMistakeAlmanac;[I)Z"⟩
abbrev cL_isBound : ByteArray := method_11_code
def yL_isBound : MethodName := ⟨RL, "isBound", "(LMistakeAlmanac;)Z"⟩
abbrev cL_does : ByteArray := method_12_code
def yL_does : MethodName := ⟨RL, "does", "(LMistakeAlmanac;II[I)Z"⟩
abbrev cL_law : ByteArray := code
def yL_law : MethodName := ⟨RL, "law", "([I)Z"⟩
abbrev vwCl : List vw_C := [(RX0, TX0, 6), (RX1, TX1, 5), (RX2, TX2, 4), (RX3, TX3, 13), (RX4, TX4, 5), (RX5, TX5, 7)]
end
section
theorem dX0_init_0 : decode cX0_init 0 = .ok (.aload_n 0, 1) := by decide +kernel
theorem dX0_init_1 : decode cX0_init 1 = .ok (.invokespecial 3, 3) := by decide +kernel
theorem dX0_init_4 : decode cX0_init 4 = .ok (.aload_n 0, 1) := by decide +kernel
theorem dX0_init_5 : decode cX0_init 5 = .ok (.bipush 60, 2) := by decide +kernel
theorem dX0_init_7 : decode cX0_init 7 = .ok (.newarray .char, 2) := by decide +kernel
theorem dX0_init_9 : decode cX0_init 9 = .ok (.putfield 9, 3) := by decide +kernel
theorem dX0_init_12 : decode cX0_init 12 = .ok (.aload_n 0, 1) := by decide +kernel
theorem dX0_init_13 : decode cX0_init 13 = .ok (.iconst 0, 1) := by decide +kernel
theorem dX0_init_14 : decode cX0_init 14 = .ok (.putfield 15, 3) := by decide +kernel
theorem dX0_init_17 : decode cX0_init 17 = .ok (.aload_n 0, 1) := by decide +kernel
theorem dX0_init_18 : decode cX0_init 18 = .ok (.iconst 0, 1) := by decide +kernel
theorem dX0_init_19 : decode cX0_init 19 = .ok (.putfield 19, 3) := by decide +kernel
theorem dX0_init_22 : decode cX0_init 22 = .ok (.return_, 1) := by decide +kernel
theorem dX0_goToStart_0 : decode cX0_goToStart 0 = .ok (.aload_n 0, 1) := by decide +kernel
theorem dX0_goToStart_1 : decode cX0_goToStart 1 = .ok (.iconst 0, 1) := by decide +kernel
theorem dX0_goToStart_2 : decode cX0_goToStart 2 = .ok (.putfield 19, 3) := by decide +kernel
theorem dX0_goToStart_5 : decode cX0_goToStart 5 = .ok (.return_, 1) := by decide +kernel
theorem dX0_findFault_0 : decode cX0_findFault 0 = .ok (.aload_n 0, 1) := by decide +kernel
theorem dX0_findFault_1 : decode cX0_findFault 1 = .ok (.invokevirtual 22, 3) := by decide +kernel
theorem dX0_findFault_4 : decode cX0_findFault 4 = .ok (.iconst 0, 1) := by decide +kernel
theorem dX0_findFault_5 : decode cX0_findFault 5 = .ok (.istore_n 1, 1) := by decide +kernel
theorem dX0_findFault_6 : decode cX0_findFault 6 = .ok (.iload_n 1, 1) := by decide +kernel
theorem dX0_findFault_7 : decode cX0_findFault 7 = .ok (.bipush 60, 2) := by decide +kernel
theorem dX0_findFault_9 : decode cX0_findFault 9 = .ok (.if_icmp .ge 53, 3) := by decide +kernel
theorem dX0_findFault_12 : decode cX0_findFault 12 = .ok (.aload_n 0, 1) := by decide +kernel
theorem dX0_findFault_13 : decode cX0_findFault 13 = .ok (.invokevirtual 25, 3) := by decide +kernel
theorem dX0_findFault_16 : decode cX0_findFault 16 = .ok (.ifCond .ne 8, 3) := by decide +kernel
theorem dX0_findFault_19 : decode cX0_findFault 19 = .ok (.aload_n 0, 1) := by decide +kernel
theorem dX0_findFault_20 : decode cX0_findFault 20 = .ok (.getfield 19, 3) := by decide +kernel
theorem dX0_findFault_23 : decode cX0_findFault 23 = .ok (.ireturn, 1) := by decide +kernel
theorem dX0_findFault_24 : decode cX0_findFault 24 = .ok (.aload_n 0, 1) := by decide +kernel
theorem dX0_findFault_25 : decode cX0_findFault 25 = .ok (.getfield 19, 3) := by decide +kernel
theorem dX0_findFault_28 : decode cX0_findFault 28 = .ok (.aload_n 0, 1) := by decide +kernel
theorem dX0_findFault_29 : decode cX0_findFault 29 = .ok (.getfield 15, 3) := by decide +kernel
theorem dX0_findFault_32 : decode cX0_findFault 32 = .ok (.if_icmp .lt 6, 3) := by decide +kernel
theorem dX0_findFault_35 : decode cX0_findFault 35 = .ok (.bipush (-5), 2) := by decide +kernel
theorem dX0_findFault_37 : decode cX0_findFault 37 = .ok (.ireturn, 1) := by decide +kernel
theorem dX0_findFault_38 : decode cX0_findFault 38 = .ok (.aload_n 0, 1) := by decide +kernel
theorem dX0_findFault_39 : decode cX0_findFault 39 = .ok (.bipush 59, 2) := by decide +kernel
theorem dX0_findFault_41 : decode cX0_findFault 41 = .ok (.invokevirtual 29, 3) := by decide +kernel
theorem dX0_findFault_44 : decode cX0_findFault 44 = .ok (.ifCond .ne 8, 3) := by decide +kernel
theorem dX0_findFault_47 : decode cX0_findFault 47 = .ok (.aload_n 0, 1) := by decide +kernel
theorem dX0_findFault_48 : decode cX0_findFault 48 = .ok (.getfield 19, 3) := by decide +kernel
theorem dX0_findFault_51 : decode cX0_findFault 51 = .ok (.ireturn, 1) := by decide +kernel
theorem dX0_findFault_52 : decode cX0_findFault 52 = .ok (.aload_n 0, 1) := by decide +kernel
theorem dX0_findFault_53 : decode cX0_findFault 53 = .ok (.invokevirtual 33, 3) := by decide +kernel
theorem dX0_findFault_56 : decode cX0_findFault 56 = .ok (.iinc 1 1, 3) := by decide +kernel
theorem dX0_findFault_59 : decode cX0_findFault 59 = .ok (.goto (-53), 3) := by decide +kernel
theorem dX0_findFault_62 : decode cX0_findFault 62 = .ok (.aload_n 0, 1) := by decide +kernel
theorem dX0_findFault_63 : decode cX0_findFault 63 = .ok (.getfield 19, 3) := by decide +kernel
theorem dX0_findFault_66 : decode cX0_findFault 66 = .ok (.ireturn, 1) := by decide +kernel
theorem dX0_readEntry_0 : decode cX0_readEntry 0 = .ok (.aload_n 0, 1) := by decide +kernel
theorem dX0_readEntry_1 : decode cX0_readEntry 1 = .ok (.bipush 45, 2) := by decide +kernel
theorem dX0_readEntry_3 : decode cX0_readEntry 3 = .ok (.invokevirtual 29, 3) := by decide +kernel
theorem dX0_readEntry_6 : decode cX0_readEntry 6 = .ok (.istore_n 1, 1) := by decide +kernel
theorem dX0_readEntry_7 : decode cX0_readEntry 7 = .ok (.iload_n 1, 1) := by decide +kernel
theorem dX0_readEntry_8 : decode cX0_readEntry 8 = .ok (.ifCond .eq 13, 3) := by decide +kernel
theorem dX0_readEntry_11 : decode cX0_readEntry 11 = .ok (.aload_n 0, 1) := by decide +kernel
theorem dX0_readEntry_12 : decode cX0_readEntry 12 = .ok (.dup, 1) := by decide +kernel
theorem dX0_readEntry_13 : decode cX0_readEntry 13 = .ok (.getfield 19, 3) := by decide +kernel
theorem dX0_readEntry_16 : decode cX0_readEntry 16 = .ok (.iconst 1, 1) := by decide +kernel
theorem dX0_readEntry_17 : decode cX0_readEntry 17 = .ok (.iadd, 1) := by decide +kernel
theorem dX0_readEntry_18 : decode cX0_readEntry 18 = .ok (.putfield 19, 3) := by decide +kernel
theorem dX0_readEntry_21 : decode cX0_readEntry 21 = .ok (.aload_n 0, 1) := by decide +kernel
theorem dX0_readEntry_22 : decode cX0_readEntry 22 = .ok (.iload_n 1, 1) := by decide +kernel
theorem dX0_readEntry_23 : decode cX0_readEntry 23 = .ok (.ifCond .eq 7, 3) := by decide +kernel
theorem dX0_readEntry_26 : decode cX0_readEntry 26 = .ok (.iconst 1, 1) := by decide +kernel
theorem dX0_readEntry_27 : decode cX0_readEntry 27 = .ok (.goto 4, 3) := by decide +kernel
theorem dX0_readEntry_30 : decode cX0_readEntry 30 = .ok (.iconst 0, 1) := by decide +kernel
theorem dX0_readEntry_31 : decode cX0_readEntry 31 = .ok (.bipush 40, 2) := by decide +kernel
theorem dX0_readEntry_33 : decode cX0_readEntry 33 = .ok (.invokevirtual 36, 3) := by decide +kernel
theorem dX0_readEntry_36 : decode cX0_readEntry 36 = .ok (.ifCond .ne 5, 3) := by decide +kernel
theorem dX0_readEntry_39 : decode cX0_readEntry 39 = .ok (.iconst 0, 1) := by decide +kernel
theorem dX0_readEntry_40 : decode cX0_readEntry 40 = .ok (.ireturn, 1) := by decide +kernel
theorem dX0_readEntry_41 : decode cX0_readEntry 41 = .ok (.aload_n 0, 1) := by decide +kernel
theorem dX0_readEntry_42 : decode cX0_readEntry 42 = .ok (.iload_n 1, 1) := by decide +kernel
theorem dX0_readEntry_43 : decode cX0_readEntry 43 = .ok (.ifCond .eq 11, 3) := by decide +kernel
theorem dX0_readEntry_46 : decode cX0_readEntry 46 = .ok (.aload_n 0, 1) := by decide +kernel
theorem dX0_readEntry_47 : decode cX0_readEntry 47 = .ok (.getfield 40, 3) := by decide +kernel
theorem dX0_readEntry_50 : decode cX0_readEntry 50 = .ok (.ineg, 1) := by decide +kernel
theorem dX0_readEntry_51 : decode cX0_readEntry 51 = .ok (.goto 7, 3) := by decide +kernel
theorem dX0_readEntry_54 : decode cX0_readEntry 54 = .ok (.aload_n 0, 1) := by decide +kernel
theorem dX0_readEntry_55 : decode cX0_readEntry 55 = .ok (.getfield 40, 3) := by decide +kernel
theorem dX0_readEntry_58 : decode cX0_readEntry 58 = .ok (.putfield 43, 3) := by decide +kernel
theorem dX0_readEntry_61 : decode cX0_readEntry 61 = .ok (.aload_n 0, 1) := by decide +kernel
theorem dX0_readEntry_62 : decode cX0_readEntry 62 = .ok (.iconst 1, 1) := by decide +kernel
theorem dX0_readEntry_63 : decode cX0_readEntry 63 = .ok (.putfield 46, 3) := by decide +kernel
theorem dX0_readEntry_66 : decode cX0_readEntry 66 = .ok (.aload_n 0, 1) := by decide +kernel
theorem dX0_readEntry_67 : decode cX0_readEntry 67 = .ok (.bipush 42, 2) := by decide +kernel
theorem dX0_readEntry_69 : decode cX0_readEntry 69 = .ok (.invokevirtual 29, 3) := by decide +kernel
theorem dX0_readEntry_72 : decode cX0_readEntry 72 = .ok (.ifCond .eq 33, 3) := by decide +kernel
theorem dX0_readEntry_75 : decode cX0_readEntry 75 = .ok (.aload_n 0, 1) := by decide +kernel
theorem dX0_readEntry_76 : decode cX0_readEntry 76 = .ok (.dup, 1) := by decide +kernel
theorem dX0_readEntry_77 : decode cX0_readEntry 77 = .ok (.getfield 19, 3) := by decide +kernel
theorem dX0_readEntry_80 : decode cX0_readEntry 80 = .ok (.iconst 1, 1) := by decide +kernel
theorem dX0_readEntry_81 : decode cX0_readEntry 81 = .ok (.iadd, 1) := by decide +kernel
theorem dX0_readEntry_82 : decode cX0_readEntry 82 = .ok (.putfield 19, 3) := by decide +kernel
theorem dX0_readEntry_85 : decode cX0_readEntry 85 = .ok (.aload_n 0, 1) := by decide +kernel
theorem dX0_readEntry_86 : decode cX0_readEntry 86 = .ok (.iconst 1, 1) := by decide +kernel
theorem dX0_readEntry_87 : decode cX0_readEntry 87 = .ok (.bipush 20, 2) := by decide +kernel
theorem dX0_readEntry_89 : decode cX0_readEntry 89 = .ok (.invokevirtual 36, 3) := by decide +kernel
theorem dX0_readEntry_92 : decode cX0_readEntry 92 = .ok (.ifCond .ne 5, 3) := by decide +kernel
theorem dX0_readEntry_95 : decode cX0_readEntry 95 = .ok (.iconst 0, 1) := by decide +kernel
theorem dX0_readEntry_96 : decode cX0_readEntry 96 = .ok (.ireturn, 1) := by decide +kernel
theorem dX0_readEntry_97 : decode cX0_readEntry 97 = .ok (.aload_n 0, 1) := by decide +kernel
theorem dX0_readEntry_98 : decode cX0_readEntry 98 = .ok (.aload_n 0, 1) := by decide +kernel
theorem dX0_readEntry_99 : decode cX0_readEntry 99 = .ok (.getfield 40, 3) := by decide +kernel
theorem dX0_readEntry_102 : decode cX0_readEntry 102 = .ok (.putfield 46, 3) := by decide +kernel
theorem dX0_readEntry_105 : decode cX0_readEntry 105 = .ok (.iconst 1, 1) := by decide +kernel
theorem dX0_readEntry_106 : decode cX0_readEntry 106 = .ok (.ireturn, 1) := by decide +kernel
theorem dX0_skipSeparator_0 : decode cX0_skipSeparator 0 = .ok (.aload_n 0, 1) := by decide +kernel
theorem dX0_skipSeparator_1 : decode cX0_skipSeparator 1 = .ok (.bipush 59, 2) := by decide +kernel
theorem dX0_skipSeparator_3 : decode cX0_skipSeparator 3 = .ok (.invokevirtual 29, 3) := by decide +kernel
theorem dX0_skipSeparator_6 : decode cX0_skipSeparator 6 = .ok (.ifCond .eq 13, 3) := by decide +kernel
theorem dX0_skipSeparator_9 : decode cX0_skipSeparator 9 = .ok (.aload_n 0, 1) := by decide +kernel
theorem dX0_skipSeparator_10 : decode cX0_skipSeparator 10 = .ok (.dup, 1) := by decide +kernel
theorem dX0_skipSeparator_11 : decode cX0_skipSeparator 11 = .ok (.getfield 19, 3) := by decide +kernel
theorem dX0_skipSeparator_14 : decode cX0_skipSeparator 14 = .ok (.iconst 1, 1) := by decide +kernel
theorem dX0_skipSeparator_15 : decode cX0_skipSeparator 15 = .ok (.iadd, 1) := by decide +kernel
theorem dX0_skipSeparator_16 : decode cX0_skipSeparator 16 = .ok (.putfield 19, 3) := by decide +kernel
theorem dX0_skipSeparator_19 : decode cX0_skipSeparator 19 = .ok (.return_, 1) := by decide +kernel
theorem dX0_isAtPlace_0 : decode cX0_isAtPlace 0 = .ok (.aload_n 0, 1) := by decide +kernel
theorem dX0_isAtPlace_1 : decode cX0_isAtPlace 1 = .ok (.getfield 19, 3) := by decide +kernel
theorem dX0_isAtPlace_4 : decode cX0_isAtPlace 4 = .ok (.aload_n 0, 1) := by decide +kernel
theorem dX0_isAtPlace_5 : decode cX0_isAtPlace 5 = .ok (.getfield 15, 3) := by decide +kernel
theorem dX0_isAtPlace_8 : decode cX0_isAtPlace 8 = .ok (.if_icmp .ge 20, 3) := by decide +kernel
theorem dX0_isAtPlace_11 : decode cX0_isAtPlace 11 = .ok (.aload_n 0, 1) := by decide +kernel
theorem dX0_isAtPlace_12 : decode cX0_isAtPlace 12 = .ok (.getfield 9, 3) := by decide +kernel
theorem dX0_isAtPlace_15 : decode cX0_isAtPlace 15 = .ok (.aload_n 0, 1) := by decide +kernel
theorem dX0_isAtPlace_16 : decode cX0_isAtPlace 16 = .ok (.getfield 19, 3) := by decide +kernel
theorem dX0_isAtPlace_19 : decode cX0_isAtPlace 19 = .ok (.caload, 1) := by decide +kernel
theorem dX0_isAtPlace_20 : decode cX0_isAtPlace 20 = .ok (.iload_n 1, 1) := by decide +kernel
theorem dX0_isAtPlace_21 : decode cX0_isAtPlace 21 = .ok (.if_icmp .ne 7, 3) := by decide +kernel
theorem dX0_isAtPlace_24 : decode cX0_isAtPlace 24 = .ok (.iconst 1, 1) := by decide +kernel
theorem dX0_isAtPlace_25 : decode cX0_isAtPlace 25 = .ok (.goto 4, 3) := by decide +kernel
theorem dX0_isAtPlace_28 : decode cX0_isAtPlace 28 = .ok (.iconst 0, 1) := by decide +kernel
theorem dX0_isAtPlace_29 : decode cX0_isAtPlace 29 = .ok (.ireturn, 1) := by decide +kernel
theorem dX0_digitAtPlace_0 : decode cX0_digitAtPlace 0 = .ok (.aload_n 0, 1) := by decide +kernel
theorem dX0_digitAtPlace_1 : decode cX0_digitAtPlace 1 = .ok (.getfield 19, 3) := by decide +kernel
theorem dX0_digitAtPlace_4 : decode cX0_digitAtPlace 4 = .ok (.aload_n 0, 1) := by decide +kernel
theorem dX0_digitAtPlace_5 : decode cX0_digitAtPlace 5 = .ok (.getfield 15, 3) := by decide +kernel
theorem dX0_digitAtPlace_8 : decode cX0_digitAtPlace 8 = .ok (.if_icmp .ge 31, 3) := by decide +kernel
theorem dX0_digitAtPlace_11 : decode cX0_digitAtPlace 11 = .ok (.aload_n 0, 1) := by decide +kernel
theorem dX0_digitAtPlace_12 : decode cX0_digitAtPlace 12 = .ok (.getfield 9, 3) := by decide +kernel
theorem dX0_digitAtPlace_15 : decode cX0_digitAtPlace 15 = .ok (.aload_n 0, 1) := by decide +kernel
theorem dX0_digitAtPlace_16 : decode cX0_digitAtPlace 16 = .ok (.getfield 19, 3) := by decide +kernel
theorem dX0_digitAtPlace_19 : decode cX0_digitAtPlace 19 = .ok (.caload, 1) := by decide +kernel
theorem dX0_digitAtPlace_20 : decode cX0_digitAtPlace 20 = .ok (.bipush 48, 2) := by decide +kernel
theorem dX0_digitAtPlace_22 : decode cX0_digitAtPlace 22 = .ok (.if_icmp .lt 17, 3) := by decide +kernel
theorem dX0_digitAtPlace_25 : decode cX0_digitAtPlace 25 = .ok (.aload_n 0, 1) := by decide +kernel
theorem dX0_digitAtPlace_26 : decode cX0_digitAtPlace 26 = .ok (.getfield 9, 3) := by decide +kernel
theorem dX0_digitAtPlace_29 : decode cX0_digitAtPlace 29 = .ok (.aload_n 0, 1) := by decide +kernel
theorem dX0_digitAtPlace_30 : decode cX0_digitAtPlace 30 = .ok (.getfield 19, 3) := by decide +kernel
theorem dX0_digitAtPlace_33 : decode cX0_digitAtPlace 33 = .ok (.caload, 1) := by decide +kernel
theorem dX0_digitAtPlace_34 : decode cX0_digitAtPlace 34 = .ok (.bipush 57, 2) := by decide +kernel
theorem dX0_digitAtPlace_36 : decode cX0_digitAtPlace 36 = .ok (.if_icmp .le 6, 3) := by decide +kernel
theorem dX0_digitAtPlace_39 : decode cX0_digitAtPlace 39 = .ok (.bipush (-5), 2) := by decide +kernel
theorem dX0_digitAtPlace_41 : decode cX0_digitAtPlace 41 = .ok (.ireturn, 1) := by decide +kernel
theorem dX0_digitAtPlace_42 : decode cX0_digitAtPlace 42 = .ok (.aload_n 0, 1) := by decide +kernel
theorem dX0_digitAtPlace_43 : decode cX0_digitAtPlace 43 = .ok (.getfield 9, 3) := by decide +kernel
theorem dX0_digitAtPlace_46 : decode cX0_digitAtPlace 46 = .ok (.aload_n 0, 1) := by decide +kernel
theorem dX0_digitAtPlace_47 : decode cX0_digitAtPlace 47 = .ok (.getfield 19, 3) := by decide +kernel
theorem dX0_digitAtPlace_50 : decode cX0_digitAtPlace 50 = .ok (.caload, 1) := by decide +kernel
theorem dX0_digitAtPlace_51 : decode cX0_digitAtPlace 51 = .ok (.bipush 48, 2) := by decide +kernel
theorem dX0_digitAtPlace_53 : decode cX0_digitAtPlace 53 = .ok (.isub, 1) := by decide +kernel
theorem dX0_digitAtPlace_54 : decode cX0_digitAtPlace 54 = .ok (.ireturn, 1) := by decide +kernel
theorem dX0_readNumber_0 : decode cX0_readNumber 0 = .ok (.aload_n 0, 1) := by decide +kernel
theorem dX0_readNumber_1 : decode cX0_readNumber 1 = .ok (.invokevirtual 49, 3) := by decide +kernel
theorem dX0_readNumber_4 : decode cX0_readNumber 4 = .ok (.istore_n 3, 1) := by decide +kernel
theorem dX0_readNumber_5 : decode cX0_readNumber 5 = .ok (.iload_n 3, 1) := by decide +kernel
theorem dX0_readNumber_6 : decode cX0_readNumber 6 = .ok (.bipush (-5), 2) := by decide +kernel
theorem dX0_readNumber_8 : decode cX0_readNumber 8 = .ok (.if_icmp .eq 8, 3) := by decide +kernel
theorem dX0_readNumber_11 : decode cX0_readNumber 11 = .ok (.iload_n 3, 1) := by decide +kernel
theorem dX0_readNumber_12 : decode cX0_readNumber 12 = .ok (.iload_n 1, 1) := by decide +kernel
theorem dX0_readNumber_13 : decode cX0_readNumber 13 = .ok (.if_icmp .ge 5, 3) := by decide +kernel
theorem dX0_readNumber_16 : decode cX0_readNumber 16 = .ok (.iconst 0, 1) := by decide +kernel
theorem dX0_readNumber_17 : decode cX0_readNumber 17 = .ok (.ireturn, 1) := by decide +kernel
theorem dX0_readNumber_18 : decode cX0_readNumber 18 = .ok (.aload_n 0, 1) := by decide +kernel
theorem dX0_readNumber_19 : decode cX0_readNumber 19 = .ok (.iload_n 3, 1) := by decide +kernel
theorem dX0_readNumber_20 : decode cX0_readNumber 20 = .ok (.putfield 40, 3) := by decide +kernel
theorem dX0_readNumber_23 : decode cX0_readNumber 23 = .ok (.aload_n 0, 1) := by decide +kernel
theorem dX0_readNumber_24 : decode cX0_readNumber 24 = .ok (.dup, 1) := by decide +kernel
theorem dX0_readNumber_25 : decode cX0_readNumber 25 = .ok (.getfield 19, 3) := by decide +kernel
theorem dX0_readNumber_28 : decode cX0_readNumber 28 = .ok (.iconst 1, 1) := by decide +kernel
theorem dX0_readNumber_29 : decode cX0_readNumber 29 = .ok (.iadd, 1) := by decide +kernel
theorem dX0_readNumber_30 : decode cX0_readNumber 30 = .ok (.putfield 19, 3) := by decide +kernel
theorem dX0_readNumber_33 : decode cX0_readNumber 33 = .ok (.aload_n 0, 1) := by decide +kernel
theorem dX0_readNumber_34 : decode cX0_readNumber 34 = .ok (.getfield 19, 3) := by decide +kernel
theorem dX0_readNumber_37 : decode cX0_readNumber 37 = .ok (.istore 4, 2) := by decide +kernel
theorem dX0_readNumber_39 : decode cX0_readNumber 39 = .ok (.iload 4, 2) := by decide +kernel
theorem dX0_readNumber_41 : decode cX0_readNumber 41 = .ok (.aload_n 0, 1) := by decide +kernel
theorem dX0_readNumber_42 : decode cX0_readNumber 42 = .ok (.getfield 15, 3) := by decide +kernel
theorem dX0_readNumber_45 : decode cX0_readNumber 45 = .ok (.if_icmp .ge 67, 3) := by decide +kernel
theorem dX0_readNumber_48 : decode cX0_readNumber 48 = .ok (.aload_n 0, 1) := by decide +kernel
theorem dX0_readNumber_49 : decode cX0_readNumber 49 = .ok (.getfield 40, 3) := by decide +kernel
theorem dX0_readNumber_52 : decode cX0_readNumber 52 = .ok (.ifCond .le 60, 3) := by decide +kernel
theorem dX0_readNumber_55 : decode cX0_readNumber 55 = .ok (.aload_n 0, 1) := by decide +kernel
theorem dX0_readNumber_56 : decode cX0_readNumber 56 = .ok (.invokevirtual 49, 3) := by decide +kernel
theorem dX0_readNumber_59 : decode cX0_readNumber 59 = .ok (.istore_n 3, 1) := by decide +kernel
theorem dX0_readNumber_60 : decode cX0_readNumber 60 = .ok (.iload_n 3, 1) := by decide +kernel
theorem dX0_readNumber_61 : decode cX0_readNumber 61 = .ok (.bipush (-5), 2) := by decide +kernel
theorem dX0_readNumber_63 : decode cX0_readNumber 63 = .ok (.if_icmp .ne 5, 3) := by decide +kernel
theorem dX0_readNumber_66 : decode cX0_readNumber 66 = .ok (.iconst 1, 1) := by decide +kernel
theorem dX0_readNumber_67 : decode cX0_readNumber 67 = .ok (.ireturn, 1) := by decide +kernel
theorem dX0_readNumber_68 : decode cX0_readNumber 68 = .ok (.aload_n 0, 1) := by decide +kernel
theorem dX0_readNumber_69 : decode cX0_readNumber 69 = .ok (.getfield 40, 3) := by decide +kernel
theorem dX0_readNumber_72 : decode cX0_readNumber 72 = .ok (.bipush 10, 2) := by decide +kernel
theorem dX0_readNumber_74 : decode cX0_readNumber 74 = .ok (.imul, 1) := by decide +kernel
theorem dX0_readNumber_75 : decode cX0_readNumber 75 = .ok (.iload_n 3, 1) := by decide +kernel
theorem dX0_readNumber_76 : decode cX0_readNumber 76 = .ok (.iadd, 1) := by decide +kernel
theorem dX0_readNumber_77 : decode cX0_readNumber 77 = .ok (.iload_n 2, 1) := by decide +kernel
theorem dX0_readNumber_78 : decode cX0_readNumber 78 = .ok (.if_icmp .le 5, 3) := by decide +kernel
theorem dX0_readNumber_81 : decode cX0_readNumber 81 = .ok (.iconst 0, 1) := by decide +kernel
theorem dX0_readNumber_82 : decode cX0_readNumber 82 = .ok (.ireturn, 1) := by decide +kernel
theorem dX0_readNumber_83 : decode cX0_readNumber 83 = .ok (.aload_n 0, 1) := by decide +kernel
theorem dX0_readNumber_84 : decode cX0_readNumber 84 = .ok (.aload_n 0, 1) := by decide +kernel
theorem dX0_readNumber_85 : decode cX0_readNumber 85 = .ok (.getfield 40, 3) := by decide +kernel
theorem dX0_readNumber_88 : decode cX0_readNumber 88 = .ok (.bipush 10, 2) := by decide +kernel
theorem dX0_readNumber_90 : decode cX0_readNumber 90 = .ok (.imul, 1) := by decide +kernel
theorem dX0_readNumber_91 : decode cX0_readNumber 91 = .ok (.iload_n 3, 1) := by decide +kernel
theorem dX0_readNumber_92 : decode cX0_readNumber 92 = .ok (.iadd, 1) := by decide +kernel
theorem dX0_readNumber_93 : decode cX0_readNumber 93 = .ok (.putfield 40, 3) := by decide +kernel
theorem dX0_readNumber_96 : decode cX0_readNumber 96 = .ok (.aload_n 0, 1) := by decide +kernel
theorem dX0_readNumber_97 : decode cX0_readNumber 97 = .ok (.dup, 1) := by decide +kernel
theorem dX0_readNumber_98 : decode cX0_readNumber 98 = .ok (.getfield 19, 3) := by decide +kernel
theorem dX0_readNumber_101 : decode cX0_readNumber 101 = .ok (.iconst 1, 1) := by decide +kernel
theorem dX0_readNumber_102 : decode cX0_readNumber 102 = .ok (.iadd, 1) := by decide +kernel
theorem dX0_readNumber_103 : decode cX0_readNumber 103 = .ok (.putfield 19, 3) := by decide +kernel
theorem dX0_readNumber_106 : decode cX0_readNumber 106 = .ok (.iinc 4 1, 3) := by decide +kernel
theorem dX0_readNumber_109 : decode cX0_readNumber 109 = .ok (.goto (-70), 3) := by decide +kernel
theorem dX0_readNumber_112 : decode cX0_readNumber 112 = .ok (.iconst 1, 1) := by decide +kernel
theorem dX0_readNumber_113 : decode cX0_readNumber 113 = .ok (.ireturn, 1) := by decide +kernel
theorem dX1_init_0 : decode cX1_init 0 = .ok (.aload_n 0, 1) := by decide +kernel
theorem dX1_init_1 : decode cX1_init 1 = .ok (.invokespecial 1, 3) := by decide +kernel
theorem dX1_init_4 : decode cX1_init 4 = .ok (.return_, 1) := by decide +kernel
theorem dX1_copyFrom_0 : decode cX1_copyFrom 0 = .ok (.aload_n 0, 1) := by decide +kernel
theorem dX1_copyFrom_1 : decode cX1_copyFrom 1 = .ok (.aload_n 1, 1) := by decide +kernel
theorem dX1_copyFrom_2 : decode cX1_copyFrom 2 = .ok (.getfield 7, 3) := by decide +kernel
theorem dX1_copyFrom_5 : decode cX1_copyFrom 5 = .ok (.putfield 7, 3) := by decide +kernel
theorem dX1_copyFrom_8 : decode cX1_copyFrom 8 = .ok (.aload_n 0, 1) := by decide +kernel
theorem dX1_copyFrom_9 : decode cX1_copyFrom 9 = .ok (.aload_n 1, 1) := by decide +kernel
theorem dX1_copyFrom_10 : decode cX1_copyFrom 10 = .ok (.getfield 13, 3) := by decide +kernel
theorem dX1_copyFrom_13 : decode cX1_copyFrom 13 = .ok (.putfield 13, 3) := by decide +kernel
theorem dX1_copyFrom_16 : decode cX1_copyFrom 16 = .ok (.aload_n 0, 1) := by decide +kernel
theorem dX1_copyFrom_17 : decode cX1_copyFrom 17 = .ok (.aload_n 1, 1) := by decide +kernel
theorem dX1_copyFrom_18 : decode cX1_copyFrom 18 = .ok (.getfield 16, 3) := by decide +kernel
theorem dX1_copyFrom_21 : decode cX1_copyFrom 21 = .ok (.putfield 16, 3) := by decide +kernel
theorem dX1_copyFrom_24 : decode cX1_copyFrom 24 = .ok (.aload_n 0, 1) := by decide +kernel
theorem dX1_copyFrom_25 : decode cX1_copyFrom 25 = .ok (.aload_n 1, 1) := by decide +kernel
theorem dX1_copyFrom_26 : decode cX1_copyFrom 26 = .ok (.getfield 20, 3) := by decide +kernel
theorem dX1_copyFrom_29 : decode cX1_copyFrom 29 = .ok (.putfield 20, 3) := by decide +kernel
theorem dX1_copyFrom_32 : decode cX1_copyFrom 32 = .ok (.aload_n 0, 1) := by decide +kernel
theorem dX1_copyFrom_33 : decode cX1_copyFrom 33 = .ok (.aload_n 1, 1) := by decide +kernel
theorem dX1_copyFrom_34 : decode cX1_copyFrom 34 = .ok (.getfield 23, 3) := by decide +kernel
theorem dX1_copyFrom_37 : decode cX1_copyFrom 37 = .ok (.putfield 23, 3) := by decide +kernel
theorem dX1_copyFrom_40 : decode cX1_copyFrom 40 = .ok (.return_, 1) := by decide +kernel
theorem dX1_winnings_0 : decode cX1_winnings 0 = .ok (.iload_n 1, 1) := by decide +kernel
theorem dX1_winnings_1 : decode cX1_winnings 1 = .ok (.aload_n 0, 1) := by decide +kernel
theorem dX1_winnings_2 : decode cX1_winnings 2 = .ok (.getfield 16, 3) := by decide +kernel
theorem dX1_winnings_5 : decode cX1_winnings 5 = .ok (.if_icmp .eq 9, 3) := by decide +kernel
theorem dX1_winnings_8 : decode cX1_winnings 8 = .ok (.aload_n 0, 1) := by decide +kernel
theorem dX1_winnings_9 : decode cX1_winnings 9 = .ok (.getfield 13, 3) := by decide +kernel
theorem dX1_winnings_12 : decode cX1_winnings 12 = .ok (.ineg, 1) := by decide +kernel
theorem dX1_winnings_13 : decode cX1_winnings 13 = .ok (.ireturn, 1) := by decide +kernel
theorem dX1_winnings_14 : decode cX1_winnings 14 = .ok (.iload_n 2, 1) := by decide +kernel
theorem dX1_winnings_15 : decode cX1_winnings 15 = .ok (.aload_n 0, 1) := by decide +kernel
theorem dX1_winnings_16 : decode cX1_winnings 16 = .ok (.getfield 16, 3) := by decide +kernel
theorem dX1_winnings_19 : decode cX1_winnings 19 = .ok (.if_icmp .eq 12, 3) := by decide +kernel
theorem dX1_winnings_22 : decode cX1_winnings 22 = .ok (.aload_n 0, 1) := by decide +kernel
theorem dX1_winnings_23 : decode cX1_winnings 23 = .ok (.getfield 13, 3) := by decide +kernel
theorem dX1_winnings_26 : decode cX1_winnings 26 = .ok (.iload_n 3, 1) := by decide +kernel
theorem dX1_winnings_27 : decode cX1_winnings 27 = .ok (.imul, 1) := by decide +kernel
theorem dX1_winnings_28 : decode cX1_winnings 28 = .ok (.goto 7, 3) := by decide +kernel
theorem dX1_winnings_31 : decode cX1_winnings 31 = .ok (.aload_n 0, 1) := by decide +kernel
theorem dX1_winnings_32 : decode cX1_winnings 32 = .ok (.getfield 13, 3) := by decide +kernel
theorem dX1_winnings_35 : decode cX1_winnings 35 = .ok (.ireturn, 1) := by decide +kernel
theorem dX1_dropBet_0 : decode cX1_dropBet 0 = .ok (.aload_n 0, 1) := by decide +kernel
theorem dX1_dropBet_1 : decode cX1_dropBet 1 = .ok (.iconst 0, 1) := by decide +kernel
theorem dX1_dropBet_2 : decode cX1_dropBet 2 = .ok (.putfield 13, 3) := by decide +kernel
theorem dX1_dropBet_5 : decode cX1_dropBet 5 = .ok (.aload_n 0, 1) := by decide +kernel
theorem dX1_dropBet_6 : decode cX1_dropBet 6 = .ok (.iconst 0, 1) := by decide +kernel
theorem dX1_dropBet_7 : decode cX1_dropBet 7 = .ok (.putfield 16, 3) := by decide +kernel
theorem dX1_dropBet_10 : decode cX1_dropBet 10 = .ok (.return_, 1) := by decide +kernel
theorem dX2_init_0 : decode cX2_init 0 = .ok (.aload_n 0, 1) := by decide +kernel
theorem dX2_init_1 : decode cX2_init 1 = .ok (.invokespecial 1, 3) := by decide +kernel
theorem dX2_init_4 : decode cX2_init 4 = .ok (.return_, 1) := by decide +kernel
theorem dX2_copyFrom_0 : decode cX2_copyFrom 0 = .ok (.aload_n 0, 1) := by decide +kernel
theorem dX2_copyFrom_1 : decode cX2_copyFrom 1 = .ok (.aload_n 1, 1) := by decide +kernel
theorem dX2_copyFrom_2 : decode cX2_copyFrom 2 = .ok (.getfield 7, 3) := by decide +kernel
theorem dX2_copyFrom_5 : decode cX2_copyFrom 5 = .ok (.putfield 7, 3) := by decide +kernel
theorem dX2_copyFrom_8 : decode cX2_copyFrom 8 = .ok (.aload_n 0, 1) := by decide +kernel
theorem dX2_copyFrom_9 : decode cX2_copyFrom 9 = .ok (.aload_n 1, 1) := by decide +kernel
theorem dX2_copyFrom_10 : decode cX2_copyFrom 10 = .ok (.getfield 13, 3) := by decide +kernel
theorem dX2_copyFrom_13 : decode cX2_copyFrom 13 = .ok (.putfield 13, 3) := by decide +kernel
theorem dX2_copyFrom_16 : decode cX2_copyFrom 16 = .ok (.aload_n 0, 1) := by decide +kernel
theorem dX2_copyFrom_17 : decode cX2_copyFrom 17 = .ok (.aload_n 1, 1) := by decide +kernel
theorem dX2_copyFrom_18 : decode cX2_copyFrom 18 = .ok (.getfield 16, 3) := by decide +kernel
theorem dX2_copyFrom_21 : decode cX2_copyFrom 21 = .ok (.putfield 16, 3) := by decide +kernel
theorem dX2_copyFrom_24 : decode cX2_copyFrom 24 = .ok (.aload_n 0, 1) := by decide +kernel
theorem dX2_copyFrom_25 : decode cX2_copyFrom 25 = .ok (.aload_n 1, 1) := by decide +kernel
theorem dX2_copyFrom_26 : decode cX2_copyFrom 26 = .ok (.getfield 19, 3) := by decide +kernel
theorem dX2_copyFrom_29 : decode cX2_copyFrom 29 = .ok (.putfield 19, 3) := by decide +kernel
theorem dX2_copyFrom_32 : decode cX2_copyFrom 32 = .ok (.return_, 1) := by decide +kernel
theorem dX2_reaches_0 : decode cX2_reaches 0 = .ok (.iload_n 1, 1) := by decide +kernel
theorem dX2_reaches_1 : decode cX2_reaches 1 = .ok (.aload_n 0, 1) := by decide +kernel
theorem dX2_reaches_2 : decode cX2_reaches 2 = .ok (.getfield 7, 3) := by decide +kernel
theorem dX2_reaches_5 : decode cX2_reaches 5 = .ok (.if_icmp .le 20, 3) := by decide +kernel
theorem dX2_reaches_8 : decode cX2_reaches 8 = .ok (.iload_n 1, 1) := by decide +kernel
theorem dX2_reaches_9 : decode cX2_reaches 9 = .ok (.aload_n 0, 1) := by decide +kernel
theorem dX2_reaches_10 : decode cX2_reaches 10 = .ok (.getfield 7, 3) := by decide +kernel
theorem dX2_reaches_13 : decode cX2_reaches 13 = .ok (.aload_n 0, 1) := by decide +kernel
theorem dX2_reaches_14 : decode cX2_reaches 14 = .ok (.getfield 19, 3) := by decide +kernel
theorem dX2_reaches_17 : decode cX2_reaches 17 = .ok (.iadd, 1) := by decide +kernel
theorem dX2_reaches_18 : decode cX2_reaches 18 = .ok (.if_icmp .gt 7, 3) := by decide +kernel
theorem dX2_reaches_21 : decode cX2_reaches 21 = .ok (.iconst 1, 1) := by decide +kernel
theorem dX2_reaches_22 : decode cX2_reaches 22 = .ok (.goto 4, 3) := by decide +kernel
theorem dX2_reaches_25 : decode cX2_reaches 25 = .ok (.iconst 0, 1) := by decide +kernel
theorem dX2_reaches_26 : decode cX2_reaches 26 = .ok (.ireturn, 1) := by decide +kernel
theorem dX3_init_0 : decode cX3_init 0 = .ok (.aload_n 0, 1) := by decide +kernel
theorem dX3_init_1 : decode cX3_init 1 = .ok (.invokespecial 3, 3) := by decide +kernel
theorem dX3_init_4 : decode cX3_init 4 = .ok (.aload_n 0, 1) := by decide +kernel
theorem dX3_init_5 : decode cX3_init 5 = .ok (.iconst 4, 1) := by decide +kernel
theorem dX3_init_6 : decode cX3_init 6 = .ok (.newarray .int, 2) := by decide +kernel
theorem dX3_init_8 : decode cX3_init 8 = .ok (.putfield 9, 3) := by decide +kernel
theorem dX3_init_11 : decode cX3_init 11 = .ok (.getstatic 15, 3) := by decide +kernel
theorem dX3_init_14 : decode cX3_init 14 = .ok (.iconst 0, 1) := by decide +kernel
theorem dX3_init_15 : decode cX3_init 15 = .ok (.aload_n 0, 1) := by decide +kernel
theorem dX3_init_16 : decode cX3_init 16 = .ok (.getfield 9, 3) := by decide +kernel
theorem dX3_init_19 : decode cX3_init 19 = .ok (.iconst 0, 1) := by decide +kernel
theorem dX3_init_20 : decode cX3_init 20 = .ok (.iconst 4, 1) := by decide +kernel
theorem dX3_init_21 : decode cX3_init 21 = .ok (.invokestatic 18, 3) := by decide +kernel
theorem dX3_init_24 : decode cX3_init 24 = .ok (.aload_n 0, 1) := by decide +kernel
theorem dX3_init_25 : decode cX3_init 25 = .ok (.iconst 5, 1) := by decide +kernel
theorem dX3_init_26 : decode cX3_init 26 = .ok (.anewarray 24, 3) := by decide +kernel
theorem dX3_init_29 : decode cX3_init 29 = .ok (.putfield 26, 3) := by decide +kernel
theorem dX3_init_32 : decode cX3_init 32 = .ok (.iconst 0, 1) := by decide +kernel
theorem dX3_init_33 : decode cX3_init 33 = .ok (.istore_n 1, 1) := by decide +kernel
theorem dX3_init_34 : decode cX3_init 34 = .ok (.iload_n 1, 1) := by decide +kernel
theorem dX3_init_35 : decode cX3_init 35 = .ok (.iconst 5, 1) := by decide +kernel
theorem dX3_init_36 : decode cX3_init 36 = .ok (.if_icmp .ge 22, 3) := by decide +kernel
theorem dX3_init_39 : decode cX3_init 39 = .ok (.aload_n 0, 1) := by decide +kernel
theorem dX3_init_40 : decode cX3_init 40 = .ok (.getfield 26, 3) := by decide +kernel
theorem dX3_init_43 : decode cX3_init 43 = .ok (.iload_n 1, 1) := by decide +kernel
theorem dX3_init_44 : decode cX3_init 44 = .ok (.new 24, 3) := by decide +kernel
theorem dX3_init_47 : decode cX3_init 47 = .ok (.dup, 1) := by decide +kernel
theorem dX3_init_48 : decode cX3_init 48 = .ok (.invokespecial 30, 3) := by decide +kernel
theorem dX3_init_51 : decode cX3_init 51 = .ok (.aastore, 1) := by decide +kernel
theorem dX3_init_52 : decode cX3_init 52 = .ok (.iinc 1 1, 3) := by decide +kernel
theorem dX3_init_55 : decode cX3_init 55 = .ok (.goto (-21), 3) := by decide +kernel
theorem dX3_init_58 : decode cX3_init 58 = .ok (.aload_n 0, 1) := by decide +kernel
theorem dX3_init_59 : decode cX3_init 59 = .ok (.iconst 5, 1) := by decide +kernel
theorem dX3_init_60 : decode cX3_init 60 = .ok (.anewarray 31, 3) := by decide +kernel
theorem dX3_init_63 : decode cX3_init 63 = .ok (.putfield 33, 3) := by decide +kernel
theorem dX3_init_66 : decode cX3_init 66 = .ok (.iconst 0, 1) := by decide +kernel
theorem dX3_init_67 : decode cX3_init 67 = .ok (.istore_n 1, 1) := by decide +kernel
theorem dX3_init_68 : decode cX3_init 68 = .ok (.iload_n 1, 1) := by decide +kernel
theorem dX3_init_69 : decode cX3_init 69 = .ok (.iconst 5, 1) := by decide +kernel
theorem dX3_init_70 : decode cX3_init 70 = .ok (.if_icmp .ge 22, 3) := by decide +kernel
theorem dX3_init_73 : decode cX3_init 73 = .ok (.aload_n 0, 1) := by decide +kernel
theorem dX3_init_74 : decode cX3_init 74 = .ok (.getfield 33, 3) := by decide +kernel
theorem dX3_init_77 : decode cX3_init 77 = .ok (.iload_n 1, 1) := by decide +kernel
theorem dX3_init_78 : decode cX3_init 78 = .ok (.new 31, 3) := by decide +kernel
theorem dX3_init_81 : decode cX3_init 81 = .ok (.dup, 1) := by decide +kernel
theorem dX3_init_82 : decode cX3_init 82 = .ok (.invokespecial 37, 3) := by decide +kernel
theorem dX3_init_85 : decode cX3_init 85 = .ok (.aastore, 1) := by decide +kernel
theorem dX3_init_86 : decode cX3_init 86 = .ok (.iinc 1 1, 3) := by decide +kernel
theorem dX3_init_89 : decode cX3_init 89 = .ok (.goto (-21), 3) := by decide +kernel
theorem dX3_init_92 : decode cX3_init 92 = .ok (.aload_n 0, 1) := by decide +kernel
theorem dX3_init_93 : decode cX3_init 93 = .ok (.iconst 4, 1) := by decide +kernel
theorem dX3_init_94 : decode cX3_init 94 = .ok (.anewarray 38, 3) := by decide +kernel
theorem dX3_init_97 : decode cX3_init 97 = .ok (.putfield 40, 3) := by decide +kernel
theorem dX3_init_100 : decode cX3_init 100 = .ok (.iconst 0, 1) := by decide +kernel
theorem dX3_init_101 : decode cX3_init 101 = .ok (.istore_n 1, 1) := by decide +kernel
theorem dX3_init_102 : decode cX3_init 102 = .ok (.iload_n 1, 1) := by decide +kernel
theorem dX3_init_103 : decode cX3_init 103 = .ok (.iconst 4, 1) := by decide +kernel
theorem dX3_init_104 : decode cX3_init 104 = .ok (.if_icmp .ge 33, 3) := by decide +kernel
theorem dX3_init_107 : decode cX3_init 107 = .ok (.aload_n 0, 1) := by decide +kernel
theorem dX3_init_108 : decode cX3_init 108 = .ok (.getfield 40, 3) := by decide +kernel
theorem dX3_init_111 : decode cX3_init 111 = .ok (.iload_n 1, 1) := by decide +kernel
theorem dX3_init_112 : decode cX3_init 112 = .ok (.new 38, 3) := by decide +kernel
theorem dX3_init_115 : decode cX3_init 115 = .ok (.dup, 1) := by decide +kernel
theorem dX3_init_116 : decode cX3_init 116 = .ok (.invokespecial 44, 3) := by decide +kernel
theorem dX3_init_119 : decode cX3_init 119 = .ok (.aastore, 1) := by decide +kernel
theorem dX3_init_120 : decode cX3_init 120 = .ok (.aload_n 0, 1) := by decide +kernel
theorem dX3_init_121 : decode cX3_init 121 = .ok (.getfield 40, 3) := by decide +kernel
theorem dX3_init_124 : decode cX3_init 124 = .ok (.iload_n 1, 1) := by decide +kernel
theorem dX3_init_125 : decode cX3_init 125 = .ok (.aaload, 1) := by decide +kernel
theorem dX3_init_126 : decode cX3_init 126 = .ok (.bipush 100, 2) := by decide +kernel
theorem dX3_init_128 : decode cX3_init 128 = .ok (.putfield 45, 3) := by decide +kernel
theorem dX3_init_131 : decode cX3_init 131 = .ok (.iinc 1 1, 3) := by decide +kernel
theorem dX3_init_134 : decode cX3_init 134 = .ok (.goto (-32), 3) := by decide +kernel
theorem dX3_init_137 : decode cX3_init 137 = .ok (.return_, 1) := by decide +kernel
theorem dX3_copyFrom_0 : decode cX3_copyFrom 0 = .ok (.aload_n 1, 1) := by decide +kernel
theorem dX3_copyFrom_1 : decode cX3_copyFrom 1 = .ok (.getfield 9, 3) := by decide +kernel
theorem dX3_copyFrom_4 : decode cX3_copyFrom 4 = .ok (.iconst 0, 1) := by decide +kernel
theorem dX3_copyFrom_5 : decode cX3_copyFrom 5 = .ok (.aload_n 0, 1) := by decide +kernel
theorem dX3_copyFrom_6 : decode cX3_copyFrom 6 = .ok (.getfield 9, 3) := by decide +kernel
theorem dX3_copyFrom_9 : decode cX3_copyFrom 9 = .ok (.iconst 0, 1) := by decide +kernel
theorem dX3_copyFrom_10 : decode cX3_copyFrom 10 = .ok (.iconst 4, 1) := by decide +kernel
theorem dX3_copyFrom_11 : decode cX3_copyFrom 11 = .ok (.invokestatic 18, 3) := by decide +kernel
theorem dX3_copyFrom_14 : decode cX3_copyFrom 14 = .ok (.iconst 0, 1) := by decide +kernel
theorem dX3_copyFrom_15 : decode cX3_copyFrom 15 = .ok (.istore_n 2, 1) := by decide +kernel
theorem dX3_copyFrom_16 : decode cX3_copyFrom 16 = .ok (.iload_n 2, 1) := by decide +kernel
theorem dX3_copyFrom_17 : decode cX3_copyFrom 17 = .ok (.iconst 5, 1) := by decide +kernel
theorem dX3_copyFrom_18 : decode cX3_copyFrom 18 = .ok (.if_icmp .ge 24, 3) := by decide +kernel
theorem dX3_copyFrom_21 : decode cX3_copyFrom 21 = .ok (.aload_n 0, 1) := by decide +kernel
theorem dX3_copyFrom_22 : decode cX3_copyFrom 22 = .ok (.getfield 26, 3) := by decide +kernel
theorem dX3_copyFrom_25 : decode cX3_copyFrom 25 = .ok (.iload_n 2, 1) := by decide +kernel
theorem dX3_copyFrom_26 : decode cX3_copyFrom 26 = .ok (.aaload, 1) := by decide +kernel
theorem dX3_copyFrom_27 : decode cX3_copyFrom 27 = .ok (.aload_n 1, 1) := by decide +kernel
theorem dX3_copyFrom_28 : decode cX3_copyFrom 28 = .ok (.getfield 26, 3) := by decide +kernel
theorem dX3_copyFrom_31 : decode cX3_copyFrom 31 = .ok (.iload_n 2, 1) := by decide +kernel
theorem dX3_copyFrom_32 : decode cX3_copyFrom 32 = .ok (.aaload, 1) := by decide +kernel
theorem dX3_copyFrom_33 : decode cX3_copyFrom 33 = .ok (.invokevirtual 49, 3) := by decide +kernel
theorem dX3_copyFrom_36 : decode cX3_copyFrom 36 = .ok (.iinc 2 1, 3) := by decide +kernel
theorem dX3_copyFrom_39 : decode cX3_copyFrom 39 = .ok (.goto (-23), 3) := by decide +kernel
theorem dX3_copyFrom_42 : decode cX3_copyFrom 42 = .ok (.iconst 0, 1) := by decide +kernel
theorem dX3_copyFrom_43 : decode cX3_copyFrom 43 = .ok (.istore_n 2, 1) := by decide +kernel
theorem dX3_copyFrom_44 : decode cX3_copyFrom 44 = .ok (.iload_n 2, 1) := by decide +kernel
theorem dX3_copyFrom_45 : decode cX3_copyFrom 45 = .ok (.iconst 5, 1) := by decide +kernel
theorem dX3_copyFrom_46 : decode cX3_copyFrom 46 = .ok (.if_icmp .ge 24, 3) := by decide +kernel
theorem dX3_copyFrom_49 : decode cX3_copyFrom 49 = .ok (.aload_n 0, 1) := by decide +kernel
theorem dX3_copyFrom_50 : decode cX3_copyFrom 50 = .ok (.getfield 33, 3) := by decide +kernel
theorem dX3_copyFrom_53 : decode cX3_copyFrom 53 = .ok (.iload_n 2, 1) := by decide +kernel
theorem dX3_copyFrom_54 : decode cX3_copyFrom 54 = .ok (.aaload, 1) := by decide +kernel
theorem dX3_copyFrom_55 : decode cX3_copyFrom 55 = .ok (.aload_n 1, 1) := by decide +kernel
theorem dX3_copyFrom_56 : decode cX3_copyFrom 56 = .ok (.getfield 33, 3) := by decide +kernel
theorem dX3_copyFrom_59 : decode cX3_copyFrom 59 = .ok (.iload_n 2, 1) := by decide +kernel
theorem dX3_copyFrom_60 : decode cX3_copyFrom 60 = .ok (.aaload, 1) := by decide +kernel
theorem dX3_copyFrom_61 : decode cX3_copyFrom 61 = .ok (.invokevirtual 53, 3) := by decide +kernel
theorem dX3_copyFrom_64 : decode cX3_copyFrom 64 = .ok (.iinc 2 1, 3) := by decide +kernel
theorem dX3_copyFrom_67 : decode cX3_copyFrom 67 = .ok (.goto (-23), 3) := by decide +kernel
theorem dX3_copyFrom_70 : decode cX3_copyFrom 70 = .ok (.iconst 0, 1) := by decide +kernel
theorem dX3_copyFrom_71 : decode cX3_copyFrom 71 = .ok (.istore_n 2, 1) := by decide +kernel
theorem dX3_copyFrom_72 : decode cX3_copyFrom 72 = .ok (.iload_n 2, 1) := by decide +kernel
theorem dX3_copyFrom_73 : decode cX3_copyFrom 73 = .ok (.iconst 4, 1) := by decide +kernel
theorem dX3_copyFrom_74 : decode cX3_copyFrom 74 = .ok (.if_icmp .ge 24, 3) := by decide +kernel
theorem dX3_copyFrom_77 : decode cX3_copyFrom 77 = .ok (.aload_n 0, 1) := by decide +kernel
theorem dX3_copyFrom_78 : decode cX3_copyFrom 78 = .ok (.getfield 40, 3) := by decide +kernel
theorem dX3_copyFrom_81 : decode cX3_copyFrom 81 = .ok (.iload_n 2, 1) := by decide +kernel
theorem dX3_copyFrom_82 : decode cX3_copyFrom 82 = .ok (.aaload, 1) := by decide +kernel
theorem dX3_copyFrom_83 : decode cX3_copyFrom 83 = .ok (.aload_n 1, 1) := by decide +kernel
theorem dX3_copyFrom_84 : decode cX3_copyFrom 84 = .ok (.getfield 40, 3) := by decide +kernel
theorem dX3_copyFrom_87 : decode cX3_copyFrom 87 = .ok (.iload_n 2, 1) := by decide +kernel
theorem dX3_copyFrom_88 : decode cX3_copyFrom 88 = .ok (.aaload, 1) := by decide +kernel
theorem dX3_copyFrom_89 : decode cX3_copyFrom 89 = .ok (.invokevirtual 56, 3) := by decide +kernel
theorem dX3_copyFrom_92 : decode cX3_copyFrom 92 = .ok (.iinc 2 1, 3) := by decide +kernel
theorem dX3_copyFrom_95 : decode cX3_copyFrom 95 = .ok (.goto (-23), 3) := by decide +kernel
theorem dX3_copyFrom_98 : decode cX3_copyFrom 98 = .ok (.aload_n 0, 1) := by decide +kernel
theorem dX3_copyFrom_99 : decode cX3_copyFrom 99 = .ok (.aload_n 1, 1) := by decide +kernel
theorem dX3_copyFrom_100 : decode cX3_copyFrom 100 = .ok (.getfield 59, 3) := by decide +kernel
theorem dX3_copyFrom_103 : decode cX3_copyFrom 103 = .ok (.putfield 59, 3) := by decide +kernel
theorem dX3_copyFrom_106 : decode cX3_copyFrom 106 = .ok (.aload_n 0, 1) := by decide +kernel
theorem dX3_copyFrom_107 : decode cX3_copyFrom 107 = .ok (.aload_n 1, 1) := by decide +kernel
theorem dX3_copyFrom_108 : decode cX3_copyFrom 108 = .ok (.getfield 62, 3) := by decide +kernel
theorem dX3_copyFrom_111 : decode cX3_copyFrom 111 = .ok (.putfield 62, 3) := by decide +kernel
theorem dX3_copyFrom_114 : decode cX3_copyFrom 114 = .ok (.aload_n 0, 1) := by decide +kernel
theorem dX3_copyFrom_115 : decode cX3_copyFrom 115 = .ok (.aload_n 1, 1) := by decide +kernel
theorem dX3_copyFrom_116 : decode cX3_copyFrom 116 = .ok (.getfield 65, 3) := by decide +kernel
theorem dX3_copyFrom_119 : decode cX3_copyFrom 119 = .ok (.putfield 65, 3) := by decide +kernel
theorem dX3_copyFrom_122 : decode cX3_copyFrom 122 = .ok (.aload_n 0, 1) := by decide +kernel
theorem dX3_copyFrom_123 : decode cX3_copyFrom 123 = .ok (.aload_n 1, 1) := by decide +kernel
theorem dX3_copyFrom_124 : decode cX3_copyFrom 124 = .ok (.getfield 68, 3) := by decide +kernel
theorem dX3_copyFrom_127 : decode cX3_copyFrom 127 = .ok (.putfield 68, 3) := by decide +kernel
theorem dX3_copyFrom_130 : decode cX3_copyFrom 130 = .ok (.aload_n 0, 1) := by decide +kernel
theorem dX3_copyFrom_131 : decode cX3_copyFrom 131 = .ok (.aload_n 1, 1) := by decide +kernel
theorem dX3_copyFrom_132 : decode cX3_copyFrom 132 = .ok (.getfield 71, 3) := by decide +kernel
theorem dX3_copyFrom_135 : decode cX3_copyFrom 135 = .ok (.putfield 71, 3) := by decide +kernel
theorem dX3_copyFrom_138 : decode cX3_copyFrom 138 = .ok (.aload_n 0, 1) := by decide +kernel
theorem dX3_copyFrom_139 : decode cX3_copyFrom 139 = .ok (.aload_n 1, 1) := by decide +kernel
theorem dX3_copyFrom_140 : decode cX3_copyFrom 140 = .ok (.getfield 74, 3) := by decide +kernel
theorem dX3_copyFrom_143 : decode cX3_copyFrom 143 = .ok (.putfield 74, 3) := by decide +kernel
theorem dX3_copyFrom_146 : decode cX3_copyFrom 146 = .ok (.aload_n 0, 1) := by decide +kernel
theorem dX3_copyFrom_147 : decode cX3_copyFrom 147 = .ok (.aload_n 1, 1) := by decide +kernel
theorem dX3_copyFrom_148 : decode cX3_copyFrom 148 = .ok (.getfield 77, 3) := by decide +kernel
theorem dX3_copyFrom_151 : decode cX3_copyFrom 151 = .ok (.putfield 77, 3) := by decide +kernel
theorem dX3_copyFrom_154 : decode cX3_copyFrom 154 = .ok (.aload_n 0, 1) := by decide +kernel
theorem dX3_copyFrom_155 : decode cX3_copyFrom 155 = .ok (.aload_n 1, 1) := by decide +kernel
theorem dX3_copyFrom_156 : decode cX3_copyFrom 156 = .ok (.getfield 80, 3) := by decide +kernel
theorem dX3_copyFrom_159 : decode cX3_copyFrom 159 = .ok (.putfield 80, 3) := by decide +kernel
theorem dX3_copyFrom_162 : decode cX3_copyFrom 162 = .ok (.aload_n 0, 1) := by decide +kernel
theorem dX3_copyFrom_163 : decode cX3_copyFrom 163 = .ok (.aload_n 1, 1) := by decide +kernel
theorem dX3_copyFrom_164 : decode cX3_copyFrom 164 = .ok (.getfield 83, 3) := by decide +kernel
theorem dX3_copyFrom_167 : decode cX3_copyFrom 167 = .ok (.putfield 83, 3) := by decide +kernel
theorem dX3_copyFrom_170 : decode cX3_copyFrom 170 = .ok (.return_, 1) := by decide +kernel
theorem dX3_yearOfNow_0 : decode cX3_yearOfNow 0 = .ok (.aload_n 0, 1) := by decide +kernel
theorem dX3_yearOfNow_1 : decode cX3_yearOfNow 1 = .ok (.getfield 26, 3) := by decide +kernel
theorem dX3_yearOfNow_4 : decode cX3_yearOfNow 4 = .ok (.aload_n 0, 1) := by decide +kernel
theorem dX3_yearOfNow_5 : decode cX3_yearOfNow 5 = .ok (.getfield 62, 3) := by decide +kernel
theorem dX3_yearOfNow_8 : decode cX3_yearOfNow 8 = .ok (.iconst 5, 1) := by decide +kernel
theorem dX3_yearOfNow_9 : decode cX3_yearOfNow 9 = .ok (.irem, 1) := by decide +kernel
theorem dX3_yearOfNow_10 : decode cX3_yearOfNow 10 = .ok (.aaload, 1) := by decide +kernel
theorem dX3_yearOfNow_11 : decode cX3_yearOfNow 11 = .ok (.areturn, 1) := by decide +kernel
theorem dX3_knownYears_0 : decode cX3_knownYears 0 = .ok (.aload_n 0, 1) := by decide +kernel
theorem dX3_knownYears_1 : decode cX3_knownYears 1 = .ok (.getfield 62, 3) := by decide +kernel
theorem dX3_knownYears_4 : decode cX3_knownYears 4 = .ok (.iconst 4, 1) := by decide +kernel
theorem dX3_knownYears_5 : decode cX3_knownYears 5 = .ok (.invokestatic 84, 3) := by decide +kernel
theorem dX3_knownYears_8 : decode cX3_knownYears 8 = .ok (.ireturn, 1) := by decide +kernel
theorem dX3_endedYear_0 : decode cX3_endedYear 0 = .ok (.aload_n 0, 1) := by decide +kernel
theorem dX3_endedYear_1 : decode cX3_endedYear 1 = .ok (.getfield 26, 3) := by decide +kernel
theorem dX3_endedYear_4 : decode cX3_endedYear 4 = .ok (.aload_n 0, 1) := by decide +kernel
theorem dX3_endedYear_5 : decode cX3_endedYear 5 = .ok (.getfield 62, 3) := by decide +kernel
theorem dX3_endedYear_8 : decode cX3_endedYear 8 = .ok (.iconst 1, 1) := by decide +kernel
theorem dX3_endedYear_9 : decode cX3_endedYear 9 = .ok (.isub, 1) := by decide +kernel
theorem dX3_endedYear_10 : decode cX3_endedYear 10 = .ok (.iload_n 1, 1) := by decide +kernel
theorem dX3_endedYear_11 : decode cX3_endedYear 11 = .ok (.isub, 1) := by decide +kernel
theorem dX3_endedYear_12 : decode cX3_endedYear 12 = .ok (.iconst 5, 1) := by decide +kernel
theorem dX3_endedYear_13 : decode cX3_endedYear 13 = .ok (.irem, 1) := by decide +kernel
theorem dX3_endedYear_14 : decode cX3_endedYear 14 = .ok (.aaload, 1) := by decide +kernel
theorem dX3_endedYear_15 : decode cX3_endedYear 15 = .ok (.areturn, 1) := by decide +kernel
theorem dX3_isTelling_0 : decode cX3_isTelling 0 = .ok (.aload_n 1, 1) := by decide +kernel
theorem dX3_isTelling_1 : decode cX3_isTelling 1 = .ok (.getfield 90, 3) := by decide +kernel
theorem dX3_isTelling_4 : decode cX3_isTelling 4 = .ok (.aload_n 0, 1) := by decide +kernel
theorem dX3_isTelling_5 : decode cX3_isTelling 5 = .ok (.getfield 65, 3) := by decide +kernel
theorem dX3_isTelling_8 : decode cX3_isTelling 8 = .ok (.if_icmp .ge 26, 3) := by decide +kernel
theorem dX3_isTelling_11 : decode cX3_isTelling 11 = .ok (.aload_n 0, 1) := by decide +kernel
theorem dX3_isTelling_12 : decode cX3_isTelling 12 = .ok (.invokevirtual 93, 3) := by decide +kernel
theorem dX3_isTelling_15 : decode cX3_isTelling 15 = .ok (.getfield 97, 3) := by decide +kernel
theorem dX3_isTelling_18 : decode cX3_isTelling 18 = .ok (.aload_n 1, 1) := by decide +kernel
theorem dX3_isTelling_19 : decode cX3_isTelling 19 = .ok (.getfield 90, 3) := by decide +kernel
theorem dX3_isTelling_22 : decode cX3_isTelling 22 = .ok (.iaload, 1) := by decide +kernel
theorem dX3_isTelling_23 : decode cX3_isTelling 23 = .ok (.aload_n 1, 1) := by decide +kernel
theorem dX3_isTelling_24 : decode cX3_isTelling 24 = .ok (.getfield 100, 3) := by decide +kernel
theorem dX3_isTelling_27 : decode cX3_isTelling 27 = .ok (.if_icmp .gt 7, 3) := by decide +kernel
theorem dX3_isTelling_30 : decode cX3_isTelling 30 = .ok (.iconst 1, 1) := by decide +kernel
theorem dX3_isTelling_31 : decode cX3_isTelling 31 = .ok (.goto 4, 3) := by decide +kernel
theorem dX3_isTelling_34 : decode cX3_isTelling 34 = .ok (.iconst 0, 1) := by decide +kernel
theorem dX3_isTelling_35 : decode cX3_isTelling 35 = .ok (.ireturn, 1) := by decide +kernel
theorem dX3_foretoldOf_0 : decode cX3_foretoldOf 0 = .ok (.iload_n 1, 1) := by decide +kernel
theorem dX3_foretoldOf_1 : decode cX3_foretoldOf 1 = .ok (.aload_n 0, 1) := by decide +kernel
theorem dX3_foretoldOf_2 : decode cX3_foretoldOf 2 = .ok (.getfield 65, 3) := by decide +kernel
theorem dX3_foretoldOf_5 : decode cX3_foretoldOf 5 = .ok (.if_icmp .ge 13, 3) := by decide +kernel
theorem dX3_foretoldOf_8 : decode cX3_foretoldOf 8 = .ok (.aload_n 0, 1) := by decide +kernel
theorem dX3_foretoldOf_9 : decode cX3_foretoldOf 9 = .ok (.invokevirtual 93, 3) := by decide +kernel
theorem dX3_foretoldOf_12 : decode cX3_foretoldOf 12 = .ok (.getfield 103, 3) := by decide +kernel
theorem dX3_foretoldOf_15 : decode cX3_foretoldOf 15 = .ok (.iload_n 1, 1) := by decide +kernel
theorem dX3_foretoldOf_16 : decode cX3_foretoldOf 16 = .ok (.iaload, 1) := by decide +kernel
theorem dX3_foretoldOf_17 : decode cX3_foretoldOf 17 = .ok (.ireturn, 1) := by decide +kernel
theorem dX3_foretoldOf_18 : decode cX3_foretoldOf 18 = .ok (.aload_n 0, 1) := by decide +kernel
theorem dX3_foretoldOf_19 : decode cX3_foretoldOf 19 = .ok (.invokevirtual 93, 3) := by decide +kernel
theorem dX3_foretoldOf_22 : decode cX3_foretoldOf 22 = .ok (.getfield 106, 3) := by decide +kernel
theorem dX3_foretoldOf_25 : decode cX3_foretoldOf 25 = .ok (.iload_n 1, 1) := by decide +kernel
theorem dX3_foretoldOf_26 : decode cX3_foretoldOf 26 = .ok (.iaload, 1) := by decide +kernel
theorem dX3_foretoldOf_27 : decode cX3_foretoldOf 27 = .ok (.istore_n 2, 1) := by decide +kernel
theorem dX3_foretoldOf_28 : decode cX3_foretoldOf 28 = .ok (.iconst 0, 1) := by decide +kernel
theorem dX3_foretoldOf_29 : decode cX3_foretoldOf 29 = .ok (.istore_n 3, 1) := by decide +kernel
theorem dX3_foretoldOf_30 : decode cX3_foretoldOf 30 = .ok (.iload_n 3, 1) := by decide +kernel
theorem dX3_foretoldOf_31 : decode cX3_foretoldOf 31 = .ok (.aload_n 0, 1) := by decide +kernel
theorem dX3_foretoldOf_32 : decode cX3_foretoldOf 32 = .ok (.getfield 59, 3) := by decide +kernel
theorem dX3_foretoldOf_35 : decode cX3_foretoldOf 35 = .ok (.if_icmp .ge 47, 3) := by decide +kernel
theorem dX3_foretoldOf_38 : decode cX3_foretoldOf 38 = .ok (.aload_n 0, 1) := by decide +kernel
theorem dX3_foretoldOf_39 : decode cX3_foretoldOf 39 = .ok (.getfield 33, 3) := by decide +kernel
theorem dX3_foretoldOf_42 : decode cX3_foretoldOf 42 = .ok (.iload_n 3, 1) := by decide +kernel
theorem dX3_foretoldOf_43 : decode cX3_foretoldOf 43 = .ok (.aaload, 1) := by decide +kernel
theorem dX3_foretoldOf_44 : decode cX3_foretoldOf 44 = .ok (.iload_n 1, 1) := by decide +kernel
theorem dX3_foretoldOf_45 : decode cX3_foretoldOf 45 = .ok (.invokevirtual 109, 3) := by decide +kernel
theorem dX3_foretoldOf_48 : decode cX3_foretoldOf 48 = .ok (.ifCond .eq 28, 3) := by decide +kernel
theorem dX3_foretoldOf_51 : decode cX3_foretoldOf 51 = .ok (.aload_n 0, 1) := by decide +kernel
theorem dX3_foretoldOf_52 : decode cX3_foretoldOf 52 = .ok (.aload_n 0, 1) := by decide +kernel
theorem dX3_foretoldOf_53 : decode cX3_foretoldOf 53 = .ok (.getfield 33, 3) := by decide +kernel
theorem dX3_foretoldOf_56 : decode cX3_foretoldOf 56 = .ok (.iload_n 3, 1) := by decide +kernel
theorem dX3_foretoldOf_57 : decode cX3_foretoldOf 57 = .ok (.aaload, 1) := by decide +kernel
theorem dX3_foretoldOf_58 : decode cX3_foretoldOf 58 = .ok (.invokevirtual 113, 3) := by decide +kernel
theorem dX3_foretoldOf_61 : decode cX3_foretoldOf 61 = .ok (.ifCond .eq 15, 3) := by decide +kernel
theorem dX3_foretoldOf_64 : decode cX3_foretoldOf 64 = .ok (.iload_n 2, 1) := by decide +kernel
theorem dX3_foretoldOf_65 : decode cX3_foretoldOf 65 = .ok (.aload_n 0, 1) := by decide +kernel
theorem dX3_foretoldOf_66 : decode cX3_foretoldOf 66 = .ok (.getfield 33, 3) := by decide +kernel
theorem dX3_foretoldOf_69 : decode cX3_foretoldOf 69 = .ok (.iload_n 3, 1) := by decide +kernel
theorem dX3_foretoldOf_70 : decode cX3_foretoldOf 70 = .ok (.aaload, 1) := by decide +kernel
theorem dX3_foretoldOf_71 : decode cX3_foretoldOf 71 = .ok (.getfield 117, 3) := by decide +kernel
theorem dX3_foretoldOf_74 : decode cX3_foretoldOf 74 = .ok (.iadd, 1) := by decide +kernel
theorem dX3_foretoldOf_75 : decode cX3_foretoldOf 75 = .ok (.istore_n 2, 1) := by decide +kernel
theorem dX3_foretoldOf_76 : decode cX3_foretoldOf 76 = .ok (.iinc 3 1, 3) := by decide +kernel
theorem dX3_foretoldOf_79 : decode cX3_foretoldOf 79 = .ok (.goto (-49), 3) := by decide +kernel
theorem dX3_foretoldOf_82 : decode cX3_foretoldOf 82 = .ok (.iload_n 2, 1) := by decide +kernel
theorem dX3_foretoldOf_83 : decode cX3_foretoldOf 83 = .ok (.invokestatic 120, 3) := by decide +kernel
theorem dX3_foretoldOf_86 : decode cX3_foretoldOf 86 = .ok (.ireturn, 1) := by decide +kernel
theorem dX3_isFrostForetold_0 : decode cX3_isFrostForetold 0 = .ok (.iload_n 1, 1) := by decide +kernel
theorem dX3_isFrostForetold_1 : decode cX3_isFrostForetold 1 = .ok (.aload_n 0, 1) := by decide +kernel
theorem dX3_isFrostForetold_2 : decode cX3_isFrostForetold 2 = .ok (.getfield 9, 3) := by decide +kernel
theorem dX3_isFrostForetold_5 : decode cX3_isFrostForetold 5 = .ok (.iconst 2, 1) := by decide +kernel
theorem dX3_isFrostForetold_6 : decode cX3_isFrostForetold 6 = .ok (.iaload, 1) := by decide +kernel
theorem dX3_isFrostForetold_7 : decode cX3_isFrostForetold 7 = .ok (.if_icmp .gt 7, 3) := by decide +kernel
theorem dX3_isFrostForetold_10 : decode cX3_isFrostForetold 10 = .ok (.iconst 1, 1) := by decide +kernel
theorem dX3_isFrostForetold_11 : decode cX3_isFrostForetold 11 = .ok (.goto 4, 3) := by decide +kernel
theorem dX3_isFrostForetold_14 : decode cX3_isFrostForetold 14 = .ok (.iconst 0, 1) := by decide +kernel
theorem dX3_isFrostForetold_15 : decode cX3_isFrostForetold 15 = .ok (.ireturn, 1) := by decide +kernel
theorem dX3_removeSaint_0 : decode cX3_removeSaint 0 = .ok (.iload_n 1, 1) := by decide +kernel
theorem dX3_removeSaint_1 : decode cX3_removeSaint 1 = .ok (.iconst 1, 1) := by decide +kernel
theorem dX3_removeSaint_2 : decode cX3_removeSaint 2 = .ok (.iadd, 1) := by decide +kernel
theorem dX3_removeSaint_3 : decode cX3_removeSaint 3 = .ok (.istore_n 2, 1) := by decide +kernel
theorem dX3_removeSaint_4 : decode cX3_removeSaint 4 = .ok (.iload_n 2, 1) := by decide +kernel
theorem dX3_removeSaint_5 : decode cX3_removeSaint 5 = .ok (.aload_n 0, 1) := by decide +kernel
theorem dX3_removeSaint_6 : decode cX3_removeSaint 6 = .ok (.getfield 59, 3) := by decide +kernel
theorem dX3_removeSaint_9 : decode cX3_removeSaint 9 = .ok (.if_icmp .ge 26, 3) := by decide +kernel
theorem dX3_removeSaint_12 : decode cX3_removeSaint 12 = .ok (.aload_n 0, 1) := by decide +kernel
theorem dX3_removeSaint_13 : decode cX3_removeSaint 13 = .ok (.getfield 33, 3) := by decide +kernel
theorem dX3_removeSaint_16 : decode cX3_removeSaint 16 = .ok (.iload_n 2, 1) := by decide +kernel
theorem dX3_removeSaint_17 : decode cX3_removeSaint 17 = .ok (.iconst 1, 1) := by decide +kernel
theorem dX3_removeSaint_18 : decode cX3_removeSaint 18 = .ok (.isub, 1) := by decide +kernel
theorem dX3_removeSaint_19 : decode cX3_removeSaint 19 = .ok (.aaload, 1) := by decide +kernel
theorem dX3_removeSaint_20 : decode cX3_removeSaint 20 = .ok (.aload_n 0, 1) := by decide +kernel
theorem dX3_removeSaint_21 : decode cX3_removeSaint 21 = .ok (.getfield 33, 3) := by decide +kernel
theorem dX3_removeSaint_24 : decode cX3_removeSaint 24 = .ok (.iload_n 2, 1) := by decide +kernel
theorem dX3_removeSaint_25 : decode cX3_removeSaint 25 = .ok (.aaload, 1) := by decide +kernel
theorem dX3_removeSaint_26 : decode cX3_removeSaint 26 = .ok (.invokevirtual 53, 3) := by decide +kernel
theorem dX3_removeSaint_29 : decode cX3_removeSaint 29 = .ok (.iinc 2 1, 3) := by decide +kernel
theorem dX3_removeSaint_32 : decode cX3_removeSaint 32 = .ok (.goto (-28), 3) := by decide +kernel
theorem dX3_removeSaint_35 : decode cX3_removeSaint 35 = .ok (.aload_n 0, 1) := by decide +kernel
theorem dX3_removeSaint_36 : decode cX3_removeSaint 36 = .ok (.dup, 1) := by decide +kernel
theorem dX3_removeSaint_37 : decode cX3_removeSaint 37 = .ok (.getfield 59, 3) := by decide +kernel
theorem dX3_removeSaint_40 : decode cX3_removeSaint 40 = .ok (.iconst 1, 1) := by decide +kernel
theorem dX3_removeSaint_41 : decode cX3_removeSaint 41 = .ok (.isub, 1) := by decide +kernel
theorem dX3_removeSaint_42 : decode cX3_removeSaint 42 = .ok (.putfield 59, 3) := by decide +kernel
theorem dX3_removeSaint_45 : decode cX3_removeSaint 45 = .ok (.return_, 1) := by decide +kernel
theorem dX3_passDay_0 : decode cX3_passDay 0 = .ok (.aload_n 0, 1) := by decide +kernel
theorem dX3_passDay_1 : decode cX3_passDay 1 = .ok (.invokevirtual 93, 3) := by decide +kernel
theorem dX3_passDay_4 : decode cX3_passDay 4 = .ok (.astore_n 2, 1) := by decide +kernel
theorem dX3_passDay_5 : decode cX3_passDay 5 = .ok (.aload_n 0, 1) := by decide +kernel
theorem dX3_passDay_6 : decode cX3_passDay 6 = .ok (.aload_n 0, 1) := by decide +kernel
theorem dX3_passDay_7 : decode cX3_passDay 7 = .ok (.getfield 65, 3) := by decide +kernel
theorem dX3_passDay_10 : decode cX3_passDay 10 = .ok (.invokevirtual 124, 3) := by decide +kernel
theorem dX3_passDay_13 : decode cX3_passDay 13 = .ok (.istore_n 3, 1) := by decide +kernel
theorem dX3_passDay_14 : decode cX3_passDay 14 = .ok (.iload_n 1, 1) := by decide +kernel
theorem dX3_passDay_15 : decode cX3_passDay 15 = .ok (.iload_n 3, 1) := by decide +kernel
theorem dX3_passDay_16 : decode cX3_passDay 16 = .ok (.isub, 1) := by decide +kernel
theorem dX3_passDay_17 : decode cX3_passDay 17 = .ok (.istore 4, 2) := by decide +kernel
theorem dX3_passDay_19 : decode cX3_passDay 19 = .ok (.aload_n 2, 1) := by decide +kernel
theorem dX3_passDay_20 : decode cX3_passDay 20 = .ok (.getfield 103, 3) := by decide +kernel
theorem dX3_passDay_23 : decode cX3_passDay 23 = .ok (.aload_n 0, 1) := by decide +kernel
theorem dX3_passDay_24 : decode cX3_passDay 24 = .ok (.getfield 65, 3) := by decide +kernel
theorem dX3_passDay_27 : decode cX3_passDay 27 = .ok (.iload_n 3, 1) := by decide +kernel
theorem dX3_passDay_28 : decode cX3_passDay 28 = .ok (.iastore, 1) := by decide +kernel
theorem dX3_passDay_29 : decode cX3_passDay 29 = .ok (.aload_n 2, 1) := by decide +kernel
theorem dX3_passDay_30 : decode cX3_passDay 30 = .ok (.getfield 97, 3) := by decide +kernel
theorem dX3_passDay_33 : decode cX3_passDay 33 = .ok (.aload_n 0, 1) := by decide +kernel
theorem dX3_passDay_34 : decode cX3_passDay 34 = .ok (.getfield 65, 3) := by decide +kernel
theorem dX3_passDay_37 : decode cX3_passDay 37 = .ok (.iload_n 1, 1) := by decide +kernel
theorem dX3_passDay_38 : decode cX3_passDay 38 = .ok (.iastore, 1) := by decide +kernel
theorem dX3_passDay_39 : decode cX3_passDay 39 = .ok (.aload_n 2, 1) := by decide +kernel
theorem dX3_passDay_40 : decode cX3_passDay 40 = .ok (.getfield 127, 3) := by decide +kernel
theorem dX3_passDay_43 : decode cX3_passDay 43 = .ok (.aload_n 0, 1) := by decide +kernel
theorem dX3_passDay_44 : decode cX3_passDay 44 = .ok (.getfield 65, 3) := by decide +kernel
theorem dX3_passDay_47 : decode cX3_passDay 47 = .ok (.iload 4, 2) := by decide +kernel
theorem dX3_passDay_49 : decode cX3_passDay 49 = .ok (.iastore, 1) := by decide +kernel
theorem dX3_passDay_50 : decode cX3_passDay 50 = .ok (.aload_n 2, 1) := by decide +kernel
theorem dX3_passDay_51 : decode cX3_passDay 51 = .ok (.dup, 1) := by decide +kernel
theorem dX3_passDay_52 : decode cX3_passDay 52 = .ok (.getfield 130, 3) := by decide +kernel
theorem dX3_passDay_55 : decode cX3_passDay 55 = .ok (.iload 4, 2) := by decide +kernel
theorem dX3_passDay_57 : decode cX3_passDay 57 = .ok (.invokestatic 131, 3) := by decide +kernel
theorem dX3_passDay_60 : decode cX3_passDay 60 = .ok (.iadd, 1) := by decide +kernel
theorem dX3_passDay_61 : decode cX3_passDay 61 = .ok (.putfield 130, 3) := by decide +kernel
theorem dX3_passDay_64 : decode cX3_passDay 64 = .ok (.aload_n 0, 1) := by decide +kernel
theorem dX3_passDay_65 : decode cX3_passDay 65 = .ok (.dup, 1) := by decide +kernel
theorem dX3_passDay_66 : decode cX3_passDay 66 = .ok (.getfield 71, 3) := by decide +kernel
theorem dX3_passDay_69 : decode cX3_passDay 69 = .ok (.iload 4, 2) := by decide +kernel
theorem dX3_passDay_71 : decode cX3_passDay 71 = .ok (.invokestatic 131, 3) := by decide +kernel
theorem dX3_passDay_74 : decode cX3_passDay 74 = .ok (.iadd, 1) := by decide +kernel
theorem dX3_passDay_75 : decode cX3_passDay 75 = .ok (.putfield 71, 3) := by decide +kernel
theorem dX3_passDay_78 : decode cX3_passDay 78 = .ok (.aload_n 0, 1) := by decide +kernel
theorem dX3_passDay_79 : decode cX3_passDay 79 = .ok (.iload_n 1, 1) := by decide +kernel
theorem dX3_passDay_80 : decode cX3_passDay 80 = .ok (.invokestatic 134, 3) := by decide +kernel
theorem dX3_passDay_83 : decode cX3_passDay 83 = .ok (.aload_n 0, 1) := by decide +kernel
theorem dX3_passDay_84 : decode cX3_passDay 84 = .ok (.iload_n 3, 1) := by decide +kernel
theorem dX3_passDay_85 : decode cX3_passDay 85 = .ok (.invokevirtual 137, 3) := by decide +kernel
theorem dX3_passDay_88 : decode cX3_passDay 88 = .ok (.invokevirtual 140, 3) := by decide +kernel
theorem dX3_passDay_91 : decode cX3_passDay 91 = .ok (.aload_n 0, 1) := by decide +kernel
theorem dX3_passDay_92 : decode cX3_passDay 92 = .ok (.iload_n 1, 1) := by decide +kernel
theorem dX3_passDay_93 : decode cX3_passDay 93 = .ok (.invokestatic 134, 3) := by decide +kernel
theorem dX3_passDay_96 : decode cX3_passDay 96 = .ok (.aload_n 0, 1) := by decide +kernel
theorem dX3_passDay_97 : decode cX3_passDay 97 = .ok (.iload_n 3, 1) := by decide +kernel
theorem dX3_passDay_98 : decode cX3_passDay 98 = .ok (.invokevirtual 137, 3) := by decide +kernel
theorem dX3_passDay_101 : decode cX3_passDay 101 = .ok (.invokevirtual 144, 3) := by decide +kernel
theorem dX3_passDay_104 : decode cX3_passDay 104 = .ok (.aload_n 0, 1) := by decide +kernel
theorem dX3_passDay_105 : decode cX3_passDay 105 = .ok (.dup, 1) := by decide +kernel
theorem dX3_passDay_106 : decode cX3_passDay 106 = .ok (.getfield 68, 3) := by decide +kernel
theorem dX3_passDay_109 : decode cX3_passDay 109 = .ok (.iconst 1, 1) := by decide +kernel
theorem dX3_passDay_110 : decode cX3_passDay 110 = .ok (.iadd, 1) := by decide +kernel
theorem dX3_passDay_111 : decode cX3_passDay 111 = .ok (.putfield 68, 3) := by decide +kernel
theorem dX3_passDay_114 : decode cX3_passDay 114 = .ok (.aload_n 0, 1) := by decide +kernel
theorem dX3_passDay_115 : decode cX3_passDay 115 = .ok (.dup, 1) := by decide +kernel
theorem dX3_passDay_116 : decode cX3_passDay 116 = .ok (.getfield 65, 3) := by decide +kernel
theorem dX3_passDay_119 : decode cX3_passDay 119 = .ok (.iconst 1, 1) := by decide +kernel
theorem dX3_passDay_120 : decode cX3_passDay 120 = .ok (.iadd, 1) := by decide +kernel
theorem dX3_passDay_121 : decode cX3_passDay 121 = .ok (.putfield 65, 3) := by decide +kernel
theorem dX3_passDay_124 : decode cX3_passDay 124 = .ok (.aload_n 0, 1) := by decide +kernel
theorem dX3_passDay_125 : decode cX3_passDay 125 = .ok (.getfield 65, 3) := by decide +kernel
theorem dX3_passDay_128 : decode cX3_passDay 128 = .ok (.bipush 20, 2) := by decide +kernel
theorem dX3_passDay_130 : decode cX3_passDay 130 = .ok (.if_icmp .ne 7, 3) := by decide +kernel
theorem dX3_passDay_133 : decode cX3_passDay 133 = .ok (.aload_n 0, 1) := by decide +kernel
theorem dX3_passDay_134 : decode cX3_passDay 134 = .ok (.invokevirtual 147, 3) := by decide +kernel
theorem dX3_passDay_137 : decode cX3_passDay 137 = .ok (.iload 4, 2) := by decide +kernel
theorem dX3_passDay_139 : decode cX3_passDay 139 = .ok (.ireturn, 1) := by decide +kernel
theorem dX3_countFrost_0 : decode cX3_countFrost 0 = .ok (.iload_n 1, 1) := by decide +kernel
theorem dX3_countFrost_1 : decode cX3_countFrost 1 = .ok (.ifCond .eq 20, 3) := by decide +kernel
theorem dX3_countFrost_4 : decode cX3_countFrost 4 = .ok (.iload_n 2, 1) := by decide +kernel
theorem dX3_countFrost_5 : decode cX3_countFrost 5 = .ok (.ifCond .eq 16, 3) := by decide +kernel
theorem dX3_countFrost_8 : decode cX3_countFrost 8 = .ok (.aload_n 0, 1) := by decide +kernel
theorem dX3_countFrost_9 : decode cX3_countFrost 9 = .ok (.dup, 1) := by decide +kernel
theorem dX3_countFrost_10 : decode cX3_countFrost 10 = .ok (.getfield 74, 3) := by decide +kernel
theorem dX3_countFrost_13 : decode cX3_countFrost 13 = .ok (.iconst 1, 1) := by decide +kernel
theorem dX3_countFrost_14 : decode cX3_countFrost 14 = .ok (.iadd, 1) := by decide +kernel
theorem dX3_countFrost_15 : decode cX3_countFrost 15 = .ok (.putfield 74, 3) := by decide +kernel
theorem dX3_countFrost_18 : decode cX3_countFrost 18 = .ok (.goto 34, 3) := by decide +kernel
theorem dX3_countFrost_21 : decode cX3_countFrost 21 = .ok (.iload_n 1, 1) := by decide +kernel
theorem dX3_countFrost_22 : decode cX3_countFrost 22 = .ok (.ifCond .eq 16, 3) := by decide +kernel
theorem dX3_countFrost_25 : decode cX3_countFrost 25 = .ok (.aload_n 0, 1) := by decide +kernel
theorem dX3_countFrost_26 : decode cX3_countFrost 26 = .ok (.dup, 1) := by decide +kernel
theorem dX3_countFrost_27 : decode cX3_countFrost 27 = .ok (.getfield 77, 3) := by decide +kernel
theorem dX3_countFrost_30 : decode cX3_countFrost 30 = .ok (.iconst 1, 1) := by decide +kernel
theorem dX3_countFrost_31 : decode cX3_countFrost 31 = .ok (.iadd, 1) := by decide +kernel
theorem dX3_countFrost_32 : decode cX3_countFrost 32 = .ok (.putfield 77, 3) := by decide +kernel
theorem dX3_countFrost_35 : decode cX3_countFrost 35 = .ok (.goto 17, 3) := by decide +kernel
theorem dX3_countFrost_38 : decode cX3_countFrost 38 = .ok (.iload_n 2, 1) := by decide +kernel
theorem dX3_countFrost_39 : decode cX3_countFrost 39 = .ok (.ifCond .eq 13, 3) := by decide +kernel
theorem dX3_countFrost_42 : decode cX3_countFrost 42 = .ok (.aload_n 0, 1) := by decide +kernel
theorem dX3_countFrost_43 : decode cX3_countFrost 43 = .ok (.dup, 1) := by decide +kernel
theorem dX3_countFrost_44 : decode cX3_countFrost 44 = .ok (.getfield 80, 3) := by decide +kernel
theorem dX3_countFrost_47 : decode cX3_countFrost 47 = .ok (.iconst 1, 1) := by decide +kernel
theorem dX3_countFrost_48 : decode cX3_countFrost 48 = .ok (.iadd, 1) := by decide +kernel
theorem dX3_countFrost_49 : decode cX3_countFrost 49 = .ok (.putfield 80, 3) := by decide +kernel
theorem dX3_countFrost_52 : decode cX3_countFrost 52 = .ok (.return_, 1) := by decide +kernel
theorem dX3_settleBets_0 : decode cX3_settleBets 0 = .ok (.iconst 0, 1) := by decide +kernel
theorem dX3_settleBets_1 : decode cX3_settleBets 1 = .ok (.istore_n 3, 1) := by decide +kernel
theorem dX3_settleBets_2 : decode cX3_settleBets 2 = .ok (.iload_n 3, 1) := by decide +kernel
theorem dX3_settleBets_3 : decode cX3_settleBets 3 = .ok (.iconst 4, 1) := by decide +kernel
theorem dX3_settleBets_4 : decode cX3_settleBets 4 = .ok (.if_icmp .ge 104, 3) := by decide +kernel
theorem dX3_settleBets_7 : decode cX3_settleBets 7 = .ok (.aload_n 0, 1) := by decide +kernel
theorem dX3_settleBets_8 : decode cX3_settleBets 8 = .ok (.getfield 40, 3) := by decide +kernel
theorem dX3_settleBets_11 : decode cX3_settleBets 11 = .ok (.iload_n 3, 1) := by decide +kernel
theorem dX3_settleBets_12 : decode cX3_settleBets 12 = .ok (.aaload, 1) := by decide +kernel
theorem dX3_settleBets_13 : decode cX3_settleBets 13 = .ok (.astore 4, 2) := by decide +kernel
theorem dX3_settleBets_15 : decode cX3_settleBets 15 = .ok (.aload 4, 2) := by decide +kernel
theorem dX3_settleBets_17 : decode cX3_settleBets 17 = .ok (.getfield 150, 3) := by decide +kernel
theorem dX3_settleBets_20 : decode cX3_settleBets 20 = .ok (.ifCond .le 82, 3) := by decide +kernel
theorem dX3_settleBets_23 : decode cX3_settleBets 23 = .ok (.aload 4, 2) := by decide +kernel
theorem dX3_settleBets_25 : decode cX3_settleBets 25 = .ok (.iload_n 1, 1) := by decide +kernel
theorem dX3_settleBets_26 : decode cX3_settleBets 26 = .ok (.iload_n 2, 1) := by decide +kernel
theorem dX3_settleBets_27 : decode cX3_settleBets 27 = .ok (.aload_n 0, 1) := by decide +kernel
theorem dX3_settleBets_28 : decode cX3_settleBets 28 = .ok (.getfield 9, 3) := by decide +kernel
theorem dX3_settleBets_31 : decode cX3_settleBets 31 = .ok (.iconst 3, 1) := by decide +kernel
theorem dX3_settleBets_32 : decode cX3_settleBets 32 = .ok (.iaload, 1) := by decide +kernel
theorem dX3_settleBets_33 : decode cX3_settleBets 33 = .ok (.invokevirtual 153, 3) := by decide +kernel
theorem dX3_settleBets_36 : decode cX3_settleBets 36 = .ok (.istore 5, 2) := by decide +kernel
theorem dX3_settleBets_38 : decode cX3_settleBets 38 = .ok (.aload_n 0, 1) := by decide +kernel
theorem dX3_settleBets_39 : decode cX3_settleBets 39 = .ok (.dup, 1) := by decide +kernel
theorem dX3_settleBets_40 : decode cX3_settleBets 40 = .ok (.getfield 83, 3) := by decide +kernel
theorem dX3_settleBets_43 : decode cX3_settleBets 43 = .ok (.iload 5, 2) := by decide +kernel
theorem dX3_settleBets_45 : decode cX3_settleBets 45 = .ok (.isub, 1) := by decide +kernel
theorem dX3_settleBets_46 : decode cX3_settleBets 46 = .ok (.putfield 83, 3) := by decide +kernel
theorem dX3_settleBets_49 : decode cX3_settleBets 49 = .ok (.aload 4, 2) := by decide +kernel
theorem dX3_settleBets_51 : decode cX3_settleBets 51 = .ok (.dup, 1) := by decide +kernel
theorem dX3_settleBets_52 : decode cX3_settleBets 52 = .ok (.getfield 45, 3) := by decide +kernel
theorem dX3_settleBets_55 : decode cX3_settleBets 55 = .ok (.aload 4, 2) := by decide +kernel
theorem dX3_settleBets_57 : decode cX3_settleBets 57 = .ok (.getfield 150, 3) := by decide +kernel
theorem dX3_settleBets_60 : decode cX3_settleBets 60 = .ok (.iload 5, 2) := by decide +kernel
theorem dX3_settleBets_62 : decode cX3_settleBets 62 = .ok (.iadd, 1) := by decide +kernel
theorem dX3_settleBets_63 : decode cX3_settleBets 63 = .ok (.iadd, 1) := by decide +kernel
theorem dX3_settleBets_64 : decode cX3_settleBets 64 = .ok (.putfield 45, 3) := by decide +kernel
theorem dX3_settleBets_67 : decode cX3_settleBets 67 = .ok (.iload 5, 2) := by decide +kernel
theorem dX3_settleBets_69 : decode cX3_settleBets 69 = .ok (.ifCond .le 17, 3) := by decide +kernel
theorem dX3_settleBets_72 : decode cX3_settleBets 72 = .ok (.aload 4, 2) := by decide +kernel
theorem dX3_settleBets_74 : decode cX3_settleBets 74 = .ok (.dup, 1) := by decide +kernel
theorem dX3_settleBets_75 : decode cX3_settleBets 75 = .ok (.getfield 157, 3) := by decide +kernel
theorem dX3_settleBets_78 : decode cX3_settleBets 78 = .ok (.iconst 1, 1) := by decide +kernel
theorem dX3_settleBets_79 : decode cX3_settleBets 79 = .ok (.iadd, 1) := by decide +kernel
theorem dX3_settleBets_80 : decode cX3_settleBets 80 = .ok (.putfield 157, 3) := by decide +kernel
theorem dX3_settleBets_83 : decode cX3_settleBets 83 = .ok (.goto 14, 3) := by decide +kernel
theorem dX3_settleBets_86 : decode cX3_settleBets 86 = .ok (.aload 4, 2) := by decide +kernel
theorem dX3_settleBets_88 : decode cX3_settleBets 88 = .ok (.dup, 1) := by decide +kernel
theorem dX3_settleBets_89 : decode cX3_settleBets 89 = .ok (.getfield 160, 3) := by decide +kernel
theorem dX3_settleBets_92 : decode cX3_settleBets 92 = .ok (.iconst 1, 1) := by decide +kernel
theorem dX3_settleBets_93 : decode cX3_settleBets 93 = .ok (.iadd, 1) := by decide +kernel
theorem dX3_settleBets_94 : decode cX3_settleBets 94 = .ok (.putfield 160, 3) := by decide +kernel
theorem dX3_settleBets_97 : decode cX3_settleBets 97 = .ok (.aload 4, 2) := by decide +kernel
theorem dX3_settleBets_99 : decode cX3_settleBets 99 = .ok (.invokevirtual 163, 3) := by decide +kernel
theorem dX3_settleBets_102 : decode cX3_settleBets 102 = .ok (.iinc 3 1, 3) := by decide +kernel
theorem dX3_settleBets_105 : decode cX3_settleBets 105 = .ok (.goto (-103), 3) := by decide +kernel
theorem dX3_settleBets_108 : decode cX3_settleBets 108 = .ok (.return_, 1) := by decide +kernel
theorem dX3_endYear_0 : decode cX3_endYear 0 = .ok (.aload_n 0, 1) := by decide +kernel
theorem dX3_endYear_1 : decode cX3_endYear 1 = .ok (.invokevirtual 93, 3) := by decide +kernel
theorem dX3_endYear_4 : decode cX3_endYear 4 = .ok (.astore_n 1, 1) := by decide +kernel
theorem dX3_endYear_5 : decode cX3_endYear 5 = .ok (.aload_n 0, 1) := by decide +kernel
theorem dX3_endYear_6 : decode cX3_endYear 6 = .ok (.dup, 1) := by decide +kernel
theorem dX3_endYear_7 : decode cX3_endYear 7 = .ok (.getfield 62, 3) := by decide +kernel
theorem dX3_endYear_10 : decode cX3_endYear 10 = .ok (.iconst 1, 1) := by decide +kernel
theorem dX3_endYear_11 : decode cX3_endYear 11 = .ok (.iadd, 1) := by decide +kernel
theorem dX3_endYear_12 : decode cX3_endYear 12 = .ok (.putfield 62, 3) := by decide +kernel
theorem dX3_endYear_15 : decode cX3_endYear 15 = .ok (.aload_n 0, 1) := by decide +kernel
theorem dX3_endYear_16 : decode cX3_endYear 16 = .ok (.iconst 0, 1) := by decide +kernel
theorem dX3_endYear_17 : decode cX3_endYear 17 = .ok (.putfield 65, 3) := by decide +kernel
theorem dX3_endYear_20 : decode cX3_endYear 20 = .ok (.aload_n 0, 1) := by decide +kernel
theorem dX3_endYear_21 : decode cX3_endYear 21 = .ok (.invokevirtual 93, 3) := by decide +kernel
theorem dX3_endYear_24 : decode cX3_endYear 24 = .ok (.aload_n 1, 1) := by decide +kernel
theorem dX3_endYear_25 : decode cX3_endYear 25 = .ok (.aload_n 0, 1) := by decide +kernel
theorem dX3_endYear_26 : decode cX3_endYear 26 = .ok (.getfield 9, 3) := by decide +kernel
theorem dX3_endYear_29 : decode cX3_endYear 29 = .ok (.iconst 0, 1) := by decide +kernel
theorem dX3_endYear_30 : decode cX3_endYear 30 = .ok (.iaload, 1) := by decide +kernel
theorem dX3_endYear_31 : decode cX3_endYear 31 = .ok (.aload_n 0, 1) := by decide +kernel
theorem dX3_endYear_32 : decode cX3_endYear 32 = .ok (.getfield 9, 3) := by decide +kernel
theorem dX3_endYear_35 : decode cX3_endYear 35 = .ok (.iconst 1, 1) := by decide +kernel
theorem dX3_endYear_36 : decode cX3_endYear 36 = .ok (.iaload, 1) := by decide +kernel
theorem dX3_endYear_37 : decode cX3_endYear 37 = .ok (.invokevirtual 166, 3) := by decide +kernel
theorem dX3_endYear_40 : decode cX3_endYear 40 = .ok (.return_, 1) := by decide +kernel
theorem dX4_init_0 : decode cX4_init 0 = .ok (.aload_n 0, 1) := by decide +kernel
theorem dX4_init_1 : decode cX4_init 1 = .ok (.invokespecial 3, 3) := by decide +kernel
theorem dX4_init_4 : decode cX4_init 4 = .ok (.aload_n 0, 1) := by decide +kernel
theorem dX4_init_5 : decode cX4_init 5 = .ok (.bipush 20, 2) := by decide +kernel
theorem dX4_init_7 : decode cX4_init 7 = .ok (.newarray .int, 2) := by decide +kernel
theorem dX4_init_9 : decode cX4_init 9 = .ok (.putfield 9, 3) := by decide +kernel
theorem dX4_init_12 : decode cX4_init 12 = .ok (.aload_n 0, 1) := by decide +kernel
theorem dX4_init_13 : decode cX4_init 13 = .ok (.bipush 20, 2) := by decide +kernel
theorem dX4_init_15 : decode cX4_init 15 = .ok (.newarray .int, 2) := by decide +kernel
theorem dX4_init_17 : decode cX4_init 17 = .ok (.putfield 15, 3) := by decide +kernel
theorem dX4_init_20 : decode cX4_init 20 = .ok (.aload_n 0, 1) := by decide +kernel
theorem dX4_init_21 : decode cX4_init 21 = .ok (.bipush 20, 2) := by decide +kernel
theorem dX4_init_23 : decode cX4_init 23 = .ok (.newarray .int, 2) := by decide +kernel
theorem dX4_init_25 : decode cX4_init 25 = .ok (.putfield 18, 3) := by decide +kernel
theorem dX4_init_28 : decode cX4_init 28 = .ok (.aload_n 0, 1) := by decide +kernel
theorem dX4_init_29 : decode cX4_init 29 = .ok (.bipush 20, 2) := by decide +kernel
theorem dX4_init_31 : decode cX4_init 31 = .ok (.newarray .int, 2) := by decide +kernel
theorem dX4_init_33 : decode cX4_init 33 = .ok (.putfield 21, 3) := by decide +kernel
theorem dX4_init_36 : decode cX4_init 36 = .ok (.aload_n 0, 1) := by decide +kernel
theorem dX4_init_37 : decode cX4_init 37 = .ok (.iconst 0, 1) := by decide +kernel
theorem dX4_init_38 : decode cX4_init 38 = .ok (.putfield 24, 3) := by decide +kernel
theorem dX4_init_41 : decode cX4_init 41 = .ok (.return_, 1) := by decide +kernel
theorem dX4_copyFrom_0 : decode cX4_copyFrom 0 = .ok (.aload_n 1, 1) := by decide +kernel
theorem dX4_copyFrom_1 : decode cX4_copyFrom 1 = .ok (.getfield 9, 3) := by decide +kernel
theorem dX4_copyFrom_4 : decode cX4_copyFrom 4 = .ok (.iconst 0, 1) := by decide +kernel
theorem dX4_copyFrom_5 : decode cX4_copyFrom 5 = .ok (.aload_n 0, 1) := by decide +kernel
theorem dX4_copyFrom_6 : decode cX4_copyFrom 6 = .ok (.getfield 9, 3) := by decide +kernel
theorem dX4_copyFrom_9 : decode cX4_copyFrom 9 = .ok (.iconst 0, 1) := by decide +kernel
theorem dX4_copyFrom_10 : decode cX4_copyFrom 10 = .ok (.bipush 20, 2) := by decide +kernel
theorem dX4_copyFrom_12 : decode cX4_copyFrom 12 = .ok (.invokestatic 28, 3) := by decide +kernel
theorem dX4_copyFrom_15 : decode cX4_copyFrom 15 = .ok (.aload_n 1, 1) := by decide +kernel
theorem dX4_copyFrom_16 : decode cX4_copyFrom 16 = .ok (.getfield 15, 3) := by decide +kernel
theorem dX4_copyFrom_19 : decode cX4_copyFrom 19 = .ok (.iconst 0, 1) := by decide +kernel
theorem dX4_copyFrom_20 : decode cX4_copyFrom 20 = .ok (.aload_n 0, 1) := by decide +kernel
theorem dX4_copyFrom_21 : decode cX4_copyFrom 21 = .ok (.getfield 15, 3) := by decide +kernel
theorem dX4_copyFrom_24 : decode cX4_copyFrom 24 = .ok (.iconst 0, 1) := by decide +kernel
theorem dX4_copyFrom_25 : decode cX4_copyFrom 25 = .ok (.bipush 20, 2) := by decide +kernel
theorem dX4_copyFrom_27 : decode cX4_copyFrom 27 = .ok (.invokestatic 28, 3) := by decide +kernel
theorem dX4_copyFrom_30 : decode cX4_copyFrom 30 = .ok (.aload_n 1, 1) := by decide +kernel
theorem dX4_copyFrom_31 : decode cX4_copyFrom 31 = .ok (.getfield 18, 3) := by decide +kernel
theorem dX4_copyFrom_34 : decode cX4_copyFrom 34 = .ok (.iconst 0, 1) := by decide +kernel
theorem dX4_copyFrom_35 : decode cX4_copyFrom 35 = .ok (.aload_n 0, 1) := by decide +kernel
theorem dX4_copyFrom_36 : decode cX4_copyFrom 36 = .ok (.getfield 18, 3) := by decide +kernel
theorem dX4_copyFrom_39 : decode cX4_copyFrom 39 = .ok (.iconst 0, 1) := by decide +kernel
theorem dX4_copyFrom_40 : decode cX4_copyFrom 40 = .ok (.bipush 20, 2) := by decide +kernel
theorem dX4_copyFrom_42 : decode cX4_copyFrom 42 = .ok (.invokestatic 28, 3) := by decide +kernel
theorem dX4_copyFrom_45 : decode cX4_copyFrom 45 = .ok (.aload_n 1, 1) := by decide +kernel
theorem dX4_copyFrom_46 : decode cX4_copyFrom 46 = .ok (.getfield 21, 3) := by decide +kernel
theorem dX4_copyFrom_49 : decode cX4_copyFrom 49 = .ok (.iconst 0, 1) := by decide +kernel
theorem dX4_copyFrom_50 : decode cX4_copyFrom 50 = .ok (.aload_n 0, 1) := by decide +kernel
theorem dX4_copyFrom_51 : decode cX4_copyFrom 51 = .ok (.getfield 21, 3) := by decide +kernel
theorem dX4_copyFrom_54 : decode cX4_copyFrom 54 = .ok (.iconst 0, 1) := by decide +kernel
theorem dX4_copyFrom_55 : decode cX4_copyFrom 55 = .ok (.bipush 20, 2) := by decide +kernel
theorem dX4_copyFrom_57 : decode cX4_copyFrom 57 = .ok (.invokestatic 28, 3) := by decide +kernel
theorem dX4_copyFrom_60 : decode cX4_copyFrom 60 = .ok (.aload_n 0, 1) := by decide +kernel
theorem dX4_copyFrom_61 : decode cX4_copyFrom 61 = .ok (.aload_n 1, 1) := by decide +kernel
theorem dX4_copyFrom_62 : decode cX4_copyFrom 62 = .ok (.getfield 24, 3) := by decide +kernel
theorem dX4_copyFrom_65 : decode cX4_copyFrom 65 = .ok (.putfield 24, 3) := by decide +kernel
theorem dX4_copyFrom_68 : decode cX4_copyFrom 68 = .ok (.return_, 1) := by decide +kernel
theorem dX4_beginBehind_0 : decode cX4_beginBehind 0 = .ok (.iconst 0, 1) := by decide +kernel
theorem dX4_beginBehind_1 : decode cX4_beginBehind 1 = .ok (.istore 4, 2) := by decide +kernel
theorem dX4_beginBehind_3 : decode cX4_beginBehind 3 = .ok (.iload 4, 2) := by decide +kernel
theorem dX4_beginBehind_5 : decode cX4_beginBehind 5 = .ok (.bipush 20, 2) := by decide +kernel
theorem dX4_beginBehind_7 : decode cX4_beginBehind 7 = .ok (.if_icmp .ge 42, 3) := by decide +kernel
theorem dX4_beginBehind_10 : decode cX4_beginBehind 10 = .ok (.aload_n 0, 1) := by decide +kernel
theorem dX4_beginBehind_11 : decode cX4_beginBehind 11 = .ok (.getfield 9, 3) := by decide +kernel
theorem dX4_beginBehind_14 : decode cX4_beginBehind 14 = .ok (.iload 4, 2) := by decide +kernel
theorem dX4_beginBehind_16 : decode cX4_beginBehind 16 = .ok (.aload_n 1, 1) := by decide +kernel
theorem dX4_beginBehind_17 : decode cX4_beginBehind 17 = .ok (.getfield 9, 3) := by decide +kernel
theorem dX4_beginBehind_20 : decode cX4_beginBehind 20 = .ok (.iload 4, 2) := by decide +kernel
theorem dX4_beginBehind_22 : decode cX4_beginBehind 22 = .ok (.iaload, 1) := by decide +kernel
theorem dX4_beginBehind_23 : decode cX4_beginBehind 23 = .ok (.aload_n 1, 1) := by decide +kernel
theorem dX4_beginBehind_24 : decode cX4_beginBehind 24 = .ok (.iload 4, 2) := by decide +kernel
theorem dX4_beginBehind_26 : decode cX4_beginBehind 26 = .ok (.iload_n 2, 1) := by decide +kernel
theorem dX4_beginBehind_27 : decode cX4_beginBehind 27 = .ok (.invokevirtual 34, 3) := by decide +kernel
theorem dX4_beginBehind_30 : decode cX4_beginBehind 30 = .ok (.iload_n 3, 1) := by decide +kernel
theorem dX4_beginBehind_31 : decode cX4_beginBehind 31 = .ok (.invokestatic 38, 3) := by decide +kernel
theorem dX4_beginBehind_34 : decode cX4_beginBehind 34 = .ok (.iastore, 1) := by decide +kernel
theorem dX4_beginBehind_35 : decode cX4_beginBehind 35 = .ok (.aload_n 0, 1) := by decide +kernel
theorem dX4_beginBehind_36 : decode cX4_beginBehind 36 = .ok (.getfield 21, 3) := by decide +kernel
theorem dX4_beginBehind_39 : decode cX4_beginBehind 39 = .ok (.iload 4, 2) := by decide +kernel
theorem dX4_beginBehind_41 : decode cX4_beginBehind 41 = .ok (.iconst 0, 1) := by decide +kernel
theorem dX4_beginBehind_42 : decode cX4_beginBehind 42 = .ok (.iastore, 1) := by decide +kernel
theorem dX4_beginBehind_43 : decode cX4_beginBehind 43 = .ok (.iinc 4 1, 3) := by decide +kernel
theorem dX4_beginBehind_46 : decode cX4_beginBehind 46 = .ok (.goto (-43), 3) := by decide +kernel
theorem dX4_beginBehind_49 : decode cX4_beginBehind 49 = .ok (.aload_n 0, 1) := by decide +kernel
theorem dX4_beginBehind_50 : decode cX4_beginBehind 50 = .ok (.iconst 0, 1) := by decide +kernel
theorem dX4_beginBehind_51 : decode cX4_beginBehind 51 = .ok (.putfield 24, 3) := by decide +kernel
theorem dX4_beginBehind_54 : decode cX4_beginBehind 54 = .ok (.return_, 1) := by decide +kernel
theorem dX4_meanByDays_0 : decode cX4_meanByDays 0 = .ok (.iconst 0, 1) := by decide +kernel
theorem dX4_meanByDays_1 : decode cX4_meanByDays 1 = .ok (.iload_n 1, 1) := by decide +kernel
theorem dX4_meanByDays_2 : decode cX4_meanByDays 2 = .ok (.iload_n 2, 1) := by decide +kernel
theorem dX4_meanByDays_3 : decode cX4_meanByDays 3 = .ok (.isub, 1) := by decide +kernel
theorem dX4_meanByDays_4 : decode cX4_meanByDays 4 = .ok (.invokestatic 42, 3) := by decide +kernel
theorem dX4_meanByDays_7 : decode cX4_meanByDays 7 = .ok (.istore_n 3, 1) := by decide +kernel
theorem dX4_meanByDays_8 : decode cX4_meanByDays 8 = .ok (.bipush 19, 2) := by decide +kernel
theorem dX4_meanByDays_10 : decode cX4_meanByDays 10 = .ok (.iload_n 1, 1) := by decide +kernel
theorem dX4_meanByDays_11 : decode cX4_meanByDays 11 = .ok (.iload_n 2, 1) := by decide +kernel
theorem dX4_meanByDays_12 : decode cX4_meanByDays 12 = .ok (.iadd, 1) := by decide +kernel
theorem dX4_meanByDays_13 : decode cX4_meanByDays 13 = .ok (.invokestatic 47, 3) := by decide +kernel
theorem dX4_meanByDays_16 : decode cX4_meanByDays 16 = .ok (.istore 4, 2) := by decide +kernel
theorem dX4_meanByDays_18 : decode cX4_meanByDays 18 = .ok (.iconst 0, 1) := by decide +kernel
theorem dX4_meanByDays_19 : decode cX4_meanByDays 19 = .ok (.istore 5, 2) := by decide +kernel
theorem dX4_meanByDays_21 : decode cX4_meanByDays 21 = .ok (.iconst 0, 1) := by decide +kernel
theorem dX4_meanByDays_22 : decode cX4_meanByDays 22 = .ok (.istore 6, 2) := by decide +kernel
theorem dX4_meanByDays_24 : decode cX4_meanByDays 24 = .ok (.iload_n 3, 1) := by decide +kernel
theorem dX4_meanByDays_25 : decode cX4_meanByDays 25 = .ok (.istore 7, 2) := by decide +kernel
theorem dX4_meanByDays_27 : decode cX4_meanByDays 27 = .ok (.iload 7, 2) := by decide +kernel
theorem dX4_meanByDays_29 : decode cX4_meanByDays 29 = .ok (.iload 4, 2) := by decide +kernel
theorem dX4_meanByDays_31 : decode cX4_meanByDays 31 = .ok (.if_icmp .gt 24, 3) := by decide +kernel
theorem dX4_meanByDays_34 : decode cX4_meanByDays 34 = .ok (.iload 5, 2) := by decide +kernel
theorem dX4_meanByDays_36 : decode cX4_meanByDays 36 = .ok (.aload_n 0, 1) := by decide +kernel
theorem dX4_meanByDays_37 : decode cX4_meanByDays 37 = .ok (.getfield 21, 3) := by decide +kernel
theorem dX4_meanByDays_40 : decode cX4_meanByDays 40 = .ok (.iload 7, 2) := by decide +kernel
theorem dX4_meanByDays_42 : decode cX4_meanByDays 42 = .ok (.iaload, 1) := by decide +kernel
theorem dX4_meanByDays_43 : decode cX4_meanByDays 43 = .ok (.iadd, 1) := by decide +kernel
theorem dX4_meanByDays_44 : decode cX4_meanByDays 44 = .ok (.istore 5, 2) := by decide +kernel
theorem dX4_meanByDays_46 : decode cX4_meanByDays 46 = .ok (.iinc 6 1, 3) := by decide +kernel
theorem dX4_meanByDays_49 : decode cX4_meanByDays 49 = .ok (.iinc 7 1, 3) := by decide +kernel
theorem dX4_meanByDays_52 : decode cX4_meanByDays 52 = .ok (.goto (-25), 3) := by decide +kernel
theorem dX4_meanByDays_55 : decode cX4_meanByDays 55 = .ok (.iload 6, 2) := by decide +kernel
theorem dX4_meanByDays_57 : decode cX4_meanByDays 57 = .ok (.ifCond .le 11, 3) := by decide +kernel
theorem dX4_meanByDays_60 : decode cX4_meanByDays 60 = .ok (.iload 5, 2) := by decide +kernel
theorem dX4_meanByDays_62 : decode cX4_meanByDays 62 = .ok (.iload 6, 2) := by decide +kernel
theorem dX4_meanByDays_64 : decode cX4_meanByDays 64 = .ok (.idiv, 1) := by decide +kernel
theorem dX4_meanByDays_65 : decode cX4_meanByDays 65 = .ok (.goto 4, 3) := by decide +kernel
theorem dX4_meanByDays_68 : decode cX4_meanByDays 68 = .ok (.iconst 0, 1) := by decide +kernel
theorem dX4_meanByDays_69 : decode cX4_meanByDays 69 = .ok (.ireturn, 1) := by decide +kernel
theorem dX4_meanBySums_0 : decode cX4_meanBySums 0 = .ok (.iconst 0, 1) := by decide +kernel
theorem dX4_meanBySums_1 : decode cX4_meanBySums 1 = .ok (.iload_n 1, 1) := by decide +kernel
theorem dX4_meanBySums_2 : decode cX4_meanBySums 2 = .ok (.iload_n 2, 1) := by decide +kernel
theorem dX4_meanBySums_3 : decode cX4_meanBySums 3 = .ok (.isub, 1) := by decide +kernel
theorem dX4_meanBySums_4 : decode cX4_meanBySums 4 = .ok (.invokestatic 42, 3) := by decide +kernel
theorem dX4_meanBySums_7 : decode cX4_meanBySums 7 = .ok (.istore_n 3, 1) := by decide +kernel
theorem dX4_meanBySums_8 : decode cX4_meanBySums 8 = .ok (.bipush 19, 2) := by decide +kernel
theorem dX4_meanBySums_10 : decode cX4_meanBySums 10 = .ok (.iload_n 1, 1) := by decide +kernel
theorem dX4_meanBySums_11 : decode cX4_meanBySums 11 = .ok (.iload_n 2, 1) := by decide +kernel
theorem dX4_meanBySums_12 : decode cX4_meanBySums 12 = .ok (.iadd, 1) := by decide +kernel
theorem dX4_meanBySums_13 : decode cX4_meanBySums 13 = .ok (.invokestatic 47, 3) := by decide +kernel
theorem dX4_meanBySums_16 : decode cX4_meanBySums 16 = .ok (.istore 4, 2) := by decide +kernel
theorem dX4_meanBySums_18 : decode cX4_meanBySums 18 = .ok (.iload 4, 2) := by decide +kernel
theorem dX4_meanBySums_20 : decode cX4_meanBySums 20 = .ok (.iload_n 3, 1) := by decide +kernel
theorem dX4_meanBySums_21 : decode cX4_meanBySums 21 = .ok (.isub, 1) := by decide +kernel
theorem dX4_meanBySums_22 : decode cX4_meanBySums 22 = .ok (.iconst 1, 1) := by decide +kernel
theorem dX4_meanBySums_23 : decode cX4_meanBySums 23 = .ok (.iadd, 1) := by decide +kernel
theorem dX4_meanBySums_24 : decode cX4_meanBySums 24 = .ok (.istore 5, 2) := by decide +kernel
theorem dX4_meanBySums_26 : decode cX4_meanBySums 26 = .ok (.aload_n 0, 1) := by decide +kernel
theorem dX4_meanBySums_27 : decode cX4_meanBySums 27 = .ok (.iload 4, 2) := by decide +kernel
theorem dX4_meanBySums_29 : decode cX4_meanBySums 29 = .ok (.iconst 1, 1) := by decide +kernel
theorem dX4_meanBySums_30 : decode cX4_meanBySums 30 = .ok (.iadd, 1) := by decide +kernel
theorem dX4_meanBySums_31 : decode cX4_meanBySums 31 = .ok (.invokevirtual 50, 3) := by decide +kernel
theorem dX4_meanBySums_34 : decode cX4_meanBySums 34 = .ok (.aload_n 0, 1) := by decide +kernel
theorem dX4_meanBySums_35 : decode cX4_meanBySums 35 = .ok (.iload_n 3, 1) := by decide +kernel
theorem dX4_meanBySums_36 : decode cX4_meanBySums 36 = .ok (.invokevirtual 50, 3) := by decide +kernel
theorem dX4_meanBySums_39 : decode cX4_meanBySums 39 = .ok (.isub, 1) := by decide +kernel
theorem dX4_meanBySums_40 : decode cX4_meanBySums 40 = .ok (.istore 6, 2) := by decide +kernel
theorem dX4_meanBySums_42 : decode cX4_meanBySums 42 = .ok (.iload 5, 2) := by decide +kernel
theorem dX4_meanBySums_44 : decode cX4_meanBySums 44 = .ok (.ifCond .le 11, 3) := by decide +kernel
theorem dX4_meanBySums_47 : decode cX4_meanBySums 47 = .ok (.iload 6, 2) := by decide +kernel
theorem dX4_meanBySums_49 : decode cX4_meanBySums 49 = .ok (.iload 5, 2) := by decide +kernel
theorem dX4_meanBySums_51 : decode cX4_meanBySums 51 = .ok (.idiv, 1) := by decide +kernel
theorem dX4_meanBySums_52 : decode cX4_meanBySums 52 = .ok (.goto 4, 3) := by decide +kernel
theorem dX4_meanBySums_55 : decode cX4_meanBySums 55 = .ok (.iconst 0, 1) := by decide +kernel
theorem dX4_meanBySums_56 : decode cX4_meanBySums 56 = .ok (.ireturn, 1) := by decide +kernel
theorem dX4_sumBefore_0 : decode cX4_sumBefore 0 = .ok (.iconst 0, 1) := by decide +kernel
theorem dX4_sumBefore_1 : decode cX4_sumBefore 1 = .ok (.istore_n 2, 1) := by decide +kernel
theorem dX4_sumBefore_2 : decode cX4_sumBefore 2 = .ok (.iconst 0, 1) := by decide +kernel
theorem dX4_sumBefore_3 : decode cX4_sumBefore 3 = .ok (.istore_n 3, 1) := by decide +kernel
theorem dX4_sumBefore_4 : decode cX4_sumBefore 4 = .ok (.iload_n 3, 1) := by decide +kernel
theorem dX4_sumBefore_5 : decode cX4_sumBefore 5 = .ok (.iload_n 1, 1) := by decide +kernel
theorem dX4_sumBefore_6 : decode cX4_sumBefore 6 = .ok (.if_icmp .ge 24, 3) := by decide +kernel
theorem dX4_sumBefore_9 : decode cX4_sumBefore 9 = .ok (.iload_n 3, 1) := by decide +kernel
theorem dX4_sumBefore_10 : decode cX4_sumBefore 10 = .ok (.bipush 20, 2) := by decide +kernel
theorem dX4_sumBefore_12 : decode cX4_sumBefore 12 = .ok (.if_icmp .ge 18, 3) := by decide +kernel
theorem dX4_sumBefore_15 : decode cX4_sumBefore 15 = .ok (.iload_n 2, 1) := by decide +kernel
theorem dX4_sumBefore_16 : decode cX4_sumBefore 16 = .ok (.aload_n 0, 1) := by decide +kernel
theorem dX4_sumBefore_17 : decode cX4_sumBefore 17 = .ok (.getfield 21, 3) := by decide +kernel
theorem dX4_sumBefore_20 : decode cX4_sumBefore 20 = .ok (.iload_n 3, 1) := by decide +kernel
theorem dX4_sumBefore_21 : decode cX4_sumBefore 21 = .ok (.iaload, 1) := by decide +kernel
theorem dX4_sumBefore_22 : decode cX4_sumBefore 22 = .ok (.iadd, 1) := by decide +kernel
theorem dX4_sumBefore_23 : decode cX4_sumBefore 23 = .ok (.istore_n 2, 1) := by decide +kernel
theorem dX4_sumBefore_24 : decode cX4_sumBefore 24 = .ok (.iinc 3 1, 3) := by decide +kernel
theorem dX4_sumBefore_27 : decode cX4_sumBefore 27 = .ok (.goto (-23), 3) := by decide +kernel
theorem dX4_sumBefore_30 : decode cX4_sumBefore 30 = .ok (.iload_n 2, 1) := by decide +kernel
theorem dX4_sumBefore_31 : decode cX4_sumBefore 31 = .ok (.ireturn, 1) := by decide +kernel
theorem dX4_wrongFrosts_0 : decode cX4_wrongFrosts 0 = .ok (.iconst 0, 1) := by decide +kernel
theorem dX4_wrongFrosts_1 : decode cX4_wrongFrosts 1 = .ok (.istore_n 2, 1) := by decide +kernel
theorem dX4_wrongFrosts_2 : decode cX4_wrongFrosts 2 = .ok (.iconst 0, 1) := by decide +kernel
theorem dX4_wrongFrosts_3 : decode cX4_wrongFrosts 3 = .ok (.istore_n 3, 1) := by decide +kernel
theorem dX4_wrongFrosts_4 : decode cX4_wrongFrosts 4 = .ok (.iload_n 3, 1) := by decide +kernel
theorem dX4_wrongFrosts_5 : decode cX4_wrongFrosts 5 = .ok (.bipush 20, 2) := by decide +kernel
theorem dX4_wrongFrosts_7 : decode cX4_wrongFrosts 7 = .ok (.if_icmp .ge 39, 3) := by decide +kernel
theorem dX4_wrongFrosts_10 : decode cX4_wrongFrosts 10 = .ok (.aload_n 0, 1) := by decide +kernel
theorem dX4_wrongFrosts_11 : decode cX4_wrongFrosts 11 = .ok (.getfield 18, 3) := by decide +kernel
theorem dX4_wrongFrosts_14 : decode cX4_wrongFrosts 14 = .ok (.iload_n 3, 1) := by decide +kernel
theorem dX4_wrongFrosts_15 : decode cX4_wrongFrosts 15 = .ok (.iaload, 1) := by decide +kernel
theorem dX4_wrongFrosts_16 : decode cX4_wrongFrosts 16 = .ok (.invokestatic 54, 3) := by decide +kernel
theorem dX4_wrongFrosts_19 : decode cX4_wrongFrosts 19 = .ok (.aload_n 0, 1) := by decide +kernel
theorem dX4_wrongFrosts_20 : decode cX4_wrongFrosts 20 = .ok (.getfield 15, 3) := by decide +kernel
theorem dX4_wrongFrosts_23 : decode cX4_wrongFrosts 23 = .ok (.iload_n 3, 1) := by decide +kernel
theorem dX4_wrongFrosts_24 : decode cX4_wrongFrosts 24 = .ok (.iaload, 1) := by decide +kernel
theorem dX4_wrongFrosts_25 : decode cX4_wrongFrosts 25 = .ok (.iload_n 1, 1) := by decide +kernel
theorem dX4_wrongFrosts_26 : decode cX4_wrongFrosts 26 = .ok (.if_icmp .gt 7, 3) := by decide +kernel
theorem dX4_wrongFrosts_29 : decode cX4_wrongFrosts 29 = .ok (.iconst 1, 1) := by decide +kernel
theorem dX4_wrongFrosts_30 : decode cX4_wrongFrosts 30 = .ok (.goto 4, 3) := by decide +kernel
theorem dX4_wrongFrosts_33 : decode cX4_wrongFrosts 33 = .ok (.iconst 0, 1) := by decide +kernel
theorem dX4_wrongFrosts_34 : decode cX4_wrongFrosts 34 = .ok (.if_icmp .eq 6, 3) := by decide +kernel
theorem dX4_wrongFrosts_37 : decode cX4_wrongFrosts 37 = .ok (.iinc 2 1, 3) := by decide +kernel
theorem dX4_wrongFrosts_40 : decode cX4_wrongFrosts 40 = .ok (.iinc 3 1, 3) := by decide +kernel
theorem dX4_wrongFrosts_43 : decode cX4_wrongFrosts 43 = .ok (.goto (-39), 3) := by decide +kernel
theorem dX4_wrongFrosts_46 : decode cX4_wrongFrosts 46 = .ok (.iload_n 2, 1) := by decide +kernel
theorem dX4_wrongFrosts_47 : decode cX4_wrongFrosts 47 = .ok (.ireturn, 1) := by decide +kernel
theorem dX5_init_0 : decode cX5_init 0 = .ok (.aload_n 0, 1) := by decide +kernel
theorem dX5_init_1 : decode cX5_init 1 = .ok (.invokespecial 3, 3) := by decide +kernel
theorem dX5_init_4 : decode cX5_init 4 = .ok (.aload_n 0, 1) := by decide +kernel
theorem dX5_init_5 : decode cX5_init 5 = .ok (.new 9, 3) := by decide +kernel
theorem dX5_init_8 : decode cX5_init 8 = .ok (.dup, 1) := by decide +kernel
theorem dX5_init_9 : decode cX5_init 9 = .ok (.invokespecial 11, 3) := by decide +kernel
theorem dX5_init_12 : decode cX5_init 12 = .ok (.putfield 12, 3) := by decide +kernel
theorem dX5_init_15 : decode cX5_init 15 = .ok (.aload_n 0, 1) := by decide +kernel
theorem dX5_init_16 : decode cX5_init 16 = .ok (.iconst 4, 1) := by decide +kernel
theorem dX5_init_17 : decode cX5_init 17 = .ok (.anewarray 16, 3) := by decide +kernel
theorem dX5_init_20 : decode cX5_init 20 = .ok (.putfield 18, 3) := by decide +kernel
theorem dX5_init_23 : decode cX5_init 23 = .ok (.iconst 0, 1) := by decide +kernel
theorem dX5_init_24 : decode cX5_init 24 = .ok (.istore_n 1, 1) := by decide +kernel
theorem dX5_init_25 : decode cX5_init 25 = .ok (.iload_n 1, 1) := by decide +kernel
theorem dX5_init_26 : decode cX5_init 26 = .ok (.iconst 4, 1) := by decide +kernel
theorem dX5_init_27 : decode cX5_init 27 = .ok (.if_icmp .ge 22, 3) := by decide +kernel
theorem dX5_init_30 : decode cX5_init 30 = .ok (.aload_n 0, 1) := by decide +kernel
theorem dX5_init_31 : decode cX5_init 31 = .ok (.getfield 18, 3) := by decide +kernel
theorem dX5_init_34 : decode cX5_init 34 = .ok (.iload_n 1, 1) := by decide +kernel
theorem dX5_init_35 : decode cX5_init 35 = .ok (.new 16, 3) := by decide +kernel
theorem dX5_init_38 : decode cX5_init 38 = .ok (.dup, 1) := by decide +kernel
theorem dX5_init_39 : decode cX5_init 39 = .ok (.invokespecial 22, 3) := by decide +kernel
theorem dX5_init_42 : decode cX5_init 42 = .ok (.aastore, 1) := by decide +kernel
theorem dX5_init_43 : decode cX5_init 43 = .ok (.iinc 1 1, 3) := by decide +kernel
theorem dX5_init_46 : decode cX5_init 46 = .ok (.goto (-21), 3) := by decide +kernel
theorem dX5_init_49 : decode cX5_init 49 = .ok (.aload_n 0, 1) := by decide +kernel
theorem dX5_init_50 : decode cX5_init 50 = .ok (.new 16, 3) := by decide +kernel
theorem dX5_init_53 : decode cX5_init 53 = .ok (.dup, 1) := by decide +kernel
theorem dX5_init_54 : decode cX5_init 54 = .ok (.invokespecial 22, 3) := by decide +kernel
theorem dX5_init_57 : decode cX5_init 57 = .ok (.putfield 23, 3) := by decide +kernel
theorem dX5_init_60 : decode cX5_init 60 = .ok (.aload_n 0, 1) := by decide +kernel
theorem dX5_init_61 : decode cX5_init 61 = .ok (.bipush 20, 2) := by decide +kernel
theorem dX5_init_63 : decode cX5_init 63 = .ok (.newarray .int, 2) := by decide +kernel
theorem dX5_init_65 : decode cX5_init 65 = .ok (.putfield 27, 3) := by decide +kernel
theorem dX5_init_68 : decode cX5_init 68 = .ok (.aload_n 0, 1) := by decide +kernel
theorem dX5_init_69 : decode cX5_init 69 = .ok (.new 16, 3) := by decide +kernel
theorem dX5_init_72 : decode cX5_init 72 = .ok (.dup, 1) := by decide +kernel
theorem dX5_init_73 : decode cX5_init 73 = .ok (.invokespecial 22, 3) := by decide +kernel
theorem dX5_init_76 : decode cX5_init 76 = .ok (.putfield 31, 3) := by decide +kernel
theorem dX5_init_79 : decode cX5_init 79 = .ok (.aload_n 0, 1) := by decide +kernel
theorem dX5_init_80 : decode cX5_init 80 = .ok (.iconst 0, 1) := by decide +kernel
theorem dX5_init_81 : decode cX5_init 81 = .ok (.putfield 34, 3) := by decide +kernel
theorem dX5_init_84 : decode cX5_init 84 = .ok (.aload_n 0, 1) := by decide +kernel
theorem dX5_init_85 : decode cX5_init 85 = .ok (.iconst 0, 1) := by decide +kernel
theorem dX5_init_86 : decode cX5_init 86 = .ok (.putfield 38, 3) := by decide +kernel
theorem dX5_init_89 : decode cX5_init 89 = .ok (.return_, 1) := by decide +kernel
theorem dX5_measure_0 : decode cX5_measure 0 = .ok (.iload_n 1, 1) := by decide +kernel
theorem dX5_measure_1 : decode cX5_measure 1 = .ok (.bipush 40, 2) := by decide +kernel
theorem dX5_measure_3 : decode cX5_measure 3 = .ok (.invokestatic 42, 3) := by decide +kernel
theorem dX5_measure_6 : decode cX5_measure 6 = .ok (.ifCond .ne 6, 3) := by decide +kernel
theorem dX5_measure_9 : decode cX5_measure 9 = .ok (.bipush (-2), 2) := by decide +kernel
theorem dX5_measure_11 : decode cX5_measure 11 = .ok (.ireturn, 1) := by decide +kernel
theorem dX5_measure_12 : decode cX5_measure 12 = .ok (.aload_n 0, 1) := by decide +kernel
theorem dX5_measure_13 : decode cX5_measure 13 = .ok (.invokevirtual 46, 3) := by decide +kernel
theorem dX5_measure_16 : decode cX5_measure 16 = .ok (.aload_n 0, 1) := by decide +kernel
theorem dX5_measure_17 : decode cX5_measure 17 = .ok (.getfield 31, 3) := by decide +kernel
theorem dX5_measure_20 : decode cX5_measure 20 = .ok (.iload_n 1, 1) := by decide +kernel
theorem dX5_measure_21 : decode cX5_measure 21 = .ok (.invokevirtual 49, 3) := by decide +kernel
theorem dX5_measure_24 : decode cX5_measure 24 = .ok (.sipush 1000, 3) := by decide +kernel
theorem dX5_measure_27 : decode cX5_measure 27 = .ok (.iadd, 1) := by decide +kernel
theorem dX5_measure_28 : decode cX5_measure 28 = .ok (.ireturn, 1) := by decide +kernel
theorem dX5_measureAll_0 : decode cX5_measureAll 0 = .ok (.aload_n 0, 1) := by decide +kernel
theorem dX5_measureAll_1 : decode cX5_measureAll 1 = .ok (.getfield 12, 3) := by decide +kernel
theorem dX5_measureAll_4 : decode cX5_measureAll 4 = .ok (.invokevirtual 53, 3) := by decide +kernel
theorem dX5_measureAll_7 : decode cX5_measureAll 7 = .ok (.istore_n 1, 1) := by decide +kernel
theorem dX5_measureAll_8 : decode cX5_measureAll 8 = .ok (.iload_n 1, 1) := by decide +kernel
theorem dX5_measureAll_9 : decode cX5_measureAll 9 = .ok (.bipush (-5), 2) := by decide +kernel
theorem dX5_measureAll_11 : decode cX5_measureAll 11 = .ok (.if_icmp .eq 8, 3) := by decide +kernel
theorem dX5_measureAll_14 : decode cX5_measureAll 14 = .ok (.bipush (-100), 2) := by decide +kernel
theorem dX5_measureAll_16 : decode cX5_measureAll 16 = .ok (.iload_n 1, 1) := by decide +kernel
theorem dX5_measureAll_17 : decode cX5_measureAll 17 = .ok (.isub, 1) := by decide +kernel
theorem dX5_measureAll_18 : decode cX5_measureAll 18 = .ok (.ireturn, 1) := by decide +kernel
theorem dX5_measureAll_19 : decode cX5_measureAll 19 = .ok (.aload_n 0, 1) := by decide +kernel
theorem dX5_measureAll_20 : decode cX5_measureAll 20 = .ok (.invokevirtual 46, 3) := by decide +kernel
theorem dX5_measureAll_23 : decode cX5_measureAll 23 = .ok (.aload_n 0, 1) := by decide +kernel
theorem dX5_measureAll_24 : decode cX5_measureAll 24 = .ok (.getfield 31, 3) := by decide +kernel
theorem dX5_measureAll_27 : decode cX5_measureAll 27 = .ok (.getfield 57, 3) := by decide +kernel
theorem dX5_measureAll_30 : decode cX5_measureAll 30 = .ok (.istore_n 2, 1) := by decide +kernel
theorem dX5_measureAll_31 : decode cX5_measureAll 31 = .ok (.aload_n 0, 1) := by decide +kernel
theorem dX5_measureAll_32 : decode cX5_measureAll 32 = .ok (.getfield 12, 3) := by decide +kernel
theorem dX5_measureAll_35 : decode cX5_measureAll 35 = .ok (.invokevirtual 60, 3) := by decide +kernel
theorem dX5_measureAll_38 : decode cX5_measureAll 38 = .ok (.iconst 0, 1) := by decide +kernel
theorem dX5_measureAll_39 : decode cX5_measureAll 39 = .ok (.istore_n 3, 1) := by decide +kernel
theorem dX5_measureAll_40 : decode cX5_measureAll 40 = .ok (.iload_n 3, 1) := by decide +kernel
theorem dX5_measureAll_41 : decode cX5_measureAll 41 = .ok (.bipush 60, 2) := by decide +kernel
theorem dX5_measureAll_43 : decode cX5_measureAll 43 = .ok (.if_icmp .ge 62, 3) := by decide +kernel
theorem dX5_measureAll_46 : decode cX5_measureAll 46 = .ok (.aload_n 0, 1) := by decide +kernel
theorem dX5_measureAll_47 : decode cX5_measureAll 47 = .ok (.getfield 12, 3) := by decide +kernel
theorem dX5_measureAll_50 : decode cX5_measureAll 50 = .ok (.invokevirtual 63, 3) := by decide +kernel
theorem dX5_measureAll_53 : decode cX5_measureAll 53 = .ok (.ifCond .eq 52, 3) := by decide +kernel
theorem dX5_measureAll_56 : decode cX5_measureAll 56 = .ok (.iconst 0, 1) := by decide +kernel
theorem dX5_measureAll_57 : decode cX5_measureAll 57 = .ok (.istore 4, 2) := by decide +kernel
theorem dX5_measureAll_59 : decode cX5_measureAll 59 = .ok (.iload 4, 2) := by decide +kernel
theorem dX5_measureAll_61 : decode cX5_measureAll 61 = .ok (.aload_n 0, 1) := by decide +kernel
theorem dX5_measureAll_62 : decode cX5_measureAll 62 = .ok (.getfield 12, 3) := by decide +kernel
theorem dX5_measureAll_65 : decode cX5_measureAll 65 = .ok (.getfield 67, 3) := by decide +kernel
theorem dX5_measureAll_68 : decode cX5_measureAll 68 = .ok (.if_icmp .ge 24, 3) := by decide +kernel
theorem dX5_measureAll_71 : decode cX5_measureAll 71 = .ok (.aload_n 0, 1) := by decide +kernel
theorem dX5_measureAll_72 : decode cX5_measureAll 72 = .ok (.getfield 31, 3) := by decide +kernel
theorem dX5_measureAll_75 : decode cX5_measureAll 75 = .ok (.aload_n 0, 1) := by decide +kernel
theorem dX5_measureAll_76 : decode cX5_measureAll 76 = .ok (.getfield 12, 3) := by decide +kernel
theorem dX5_measureAll_79 : decode cX5_measureAll 79 = .ok (.getfield 70, 3) := by decide +kernel
theorem dX5_measureAll_82 : decode cX5_measureAll 82 = .ok (.invokevirtual 49, 3) := by decide +kernel
theorem dX5_measureAll_85 : decode cX5_measureAll 85 = .ok (.pop, 1) := by decide +kernel
theorem dX5_measureAll_86 : decode cX5_measureAll 86 = .ok (.iinc 4 1, 3) := by decide +kernel
theorem dX5_measureAll_89 : decode cX5_measureAll 89 = .ok (.goto (-30), 3) := by decide +kernel
theorem dX5_measureAll_92 : decode cX5_measureAll 92 = .ok (.aload_n 0, 1) := by decide +kernel
theorem dX5_measureAll_93 : decode cX5_measureAll 93 = .ok (.getfield 12, 3) := by decide +kernel
theorem dX5_measureAll_96 : decode cX5_measureAll 96 = .ok (.invokevirtual 73, 3) := by decide +kernel
theorem dX5_measureAll_99 : decode cX5_measureAll 99 = .ok (.iinc 3 1, 3) := by decide +kernel
theorem dX5_measureAll_102 : decode cX5_measureAll 102 = .ok (.goto (-62), 3) := by decide +kernel
theorem dX5_measureAll_105 : decode cX5_measureAll 105 = .ok (.aload_n 0, 1) := by decide +kernel
theorem dX5_measureAll_106 : decode cX5_measureAll 106 = .ok (.getfield 31, 3) := by decide +kernel
theorem dX5_measureAll_109 : decode cX5_measureAll 109 = .ok (.getfield 57, 3) := by decide +kernel
theorem dX5_measureAll_112 : decode cX5_measureAll 112 = .ok (.iload_n 2, 1) := by decide +kernel
theorem dX5_measureAll_113 : decode cX5_measureAll 113 = .ok (.isub, 1) := by decide +kernel
theorem dX5_measureAll_114 : decode cX5_measureAll 114 = .ok (.ireturn, 1) := by decide +kernel
theorem dX5_base_0 : decode cX5_base 0 = .ok (.iload_n 1, 1) := by decide +kernel
theorem dX5_base_1 : decode cX5_base 1 = .ok (.bipush 20, 2) := by decide +kernel
theorem dX5_base_3 : decode cX5_base 3 = .ok (.invokestatic 76, 3) := by decide +kernel
theorem dX5_base_6 : decode cX5_base 6 = .ok (.ifCond .ne 5, 3) := by decide +kernel
theorem dX5_base_9 : decode cX5_base 9 = .ok (.iconst (-1), 1) := by decide +kernel
theorem dX5_base_10 : decode cX5_base 10 = .ok (.ireturn, 1) := by decide +kernel
theorem dX5_base_11 : decode cX5_base 11 = .ok (.iload_n 2, 1) := by decide +kernel
theorem dX5_base_12 : decode cX5_base 12 = .ok (.bipush 40, 2) := by decide +kernel
theorem dX5_base_14 : decode cX5_base 14 = .ok (.invokestatic 42, 3) := by decide +kernel
theorem dX5_base_17 : decode cX5_base 17 = .ok (.ifCond .ne 6, 3) := by decide +kernel
theorem dX5_base_20 : decode cX5_base 20 = .ok (.bipush (-2), 2) := by decide +kernel
theorem dX5_base_22 : decode cX5_base 22 = .ok (.ireturn, 1) := by decide +kernel
theorem dX5_base_23 : decode cX5_base 23 = .ok (.iload_n 1, 1) := by decide +kernel
theorem dX5_base_24 : decode cX5_base 24 = .ok (.aload_n 0, 1) := by decide +kernel
theorem dX5_base_25 : decode cX5_base 25 = .ok (.getfield 31, 3) := by decide +kernel
theorem dX5_base_28 : decode cX5_base 28 = .ok (.getfield 79, 3) := by decide +kernel
theorem dX5_base_31 : decode cX5_base 31 = .ok (.if_icmp .ge 6, 3) := by decide +kernel
theorem dX5_base_34 : decode cX5_base 34 = .ok (.bipush (-4), 2) := by decide +kernel
theorem dX5_base_36 : decode cX5_base 36 = .ok (.ireturn, 1) := by decide +kernel
theorem dX5_base_37 : decode cX5_base 37 = .ok (.aload_n 0, 1) := by decide +kernel
theorem dX5_base_38 : decode cX5_base 38 = .ok (.getfield 31, 3) := by decide +kernel
theorem dX5_base_41 : decode cX5_base 41 = .ok (.invokevirtual 82, 3) := by decide +kernel
theorem dX5_base_44 : decode cX5_base 44 = .ok (.getfield 86, 3) := by decide +kernel
theorem dX5_base_47 : decode cX5_base 47 = .ok (.iload_n 1, 1) := by decide +kernel
theorem dX5_base_48 : decode cX5_base 48 = .ok (.iaload, 1) := by decide +kernel
theorem dX5_base_49 : decode cX5_base 49 = .ok (.istore_n 3, 1) := by decide +kernel
theorem dX5_base_50 : decode cX5_base 50 = .ok (.iload_n 3, 1) := by decide +kernel
theorem dX5_base_51 : decode cX5_base 51 = .ok (.iload_n 2, 1) := by decide +kernel
theorem dX5_base_52 : decode cX5_base 52 = .ok (.if_icmp .ne 6, 3) := by decide +kernel
theorem dX5_base_55 : decode cX5_base 55 = .ok (.bipush (-5), 2) := by decide +kernel
theorem dX5_base_57 : decode cX5_base 57 = .ok (.ireturn, 1) := by decide +kernel
theorem dX5_base_58 : decode cX5_base 58 = .ok (.aload_n 0, 1) := by decide +kernel
theorem dX5_base_59 : decode cX5_base 59 = .ok (.invokevirtual 46, 3) := by decide +kernel
theorem dX5_base_62 : decode cX5_base 62 = .ok (.aload_n 0, 1) := by decide +kernel
theorem dX5_base_63 : decode cX5_base 63 = .ok (.getfield 31, 3) := by decide +kernel
theorem dX5_base_66 : decode cX5_base 66 = .ok (.invokevirtual 82, 3) := by decide +kernel
theorem dX5_base_69 : decode cX5_base 69 = .ok (.getfield 86, 3) := by decide +kernel
theorem dX5_base_72 : decode cX5_base 72 = .ok (.iload_n 1, 1) := by decide +kernel
theorem dX5_base_73 : decode cX5_base 73 = .ok (.iload_n 2, 1) := by decide +kernel
theorem dX5_base_74 : decode cX5_base 74 = .ok (.iastore, 1) := by decide +kernel
theorem dX5_base_75 : decode cX5_base 75 = .ok (.iload_n 3, 1) := by decide +kernel
theorem dX5_base_76 : decode cX5_base 76 = .ok (.sipush 1000, 3) := by decide +kernel
theorem dX5_base_79 : decode cX5_base 79 = .ok (.iadd, 1) := by decide +kernel
theorem dX5_base_80 : decode cX5_base 80 = .ok (.ireturn, 1) := by decide +kernel
theorem dX5_saint_0 : decode cX5_saint 0 = .ok (.iload_n 1, 1) := by decide +kernel
theorem dX5_saint_1 : decode cX5_saint 1 = .ok (.bipush 20, 2) := by decide +kernel
theorem dX5_saint_3 : decode cX5_saint 3 = .ok (.invokestatic 76, 3) := by decide +kernel
theorem dX5_saint_6 : decode cX5_saint 6 = .ok (.ifCond .ne 5, 3) := by decide +kernel
theorem dX5_saint_9 : decode cX5_saint 9 = .ok (.iconst (-1), 1) := by decide +kernel
theorem dX5_saint_10 : decode cX5_saint 10 = .ok (.ireturn, 1) := by decide +kernel
theorem dX5_saint_11 : decode cX5_saint 11 = .ok (.iload_n 2, 1) := by decide +kernel
theorem dX5_saint_12 : decode cX5_saint 12 = .ok (.bipush 40, 2) := by decide +kernel
theorem dX5_saint_14 : decode cX5_saint 14 = .ok (.invokestatic 42, 3) := by decide +kernel
theorem dX5_saint_17 : decode cX5_saint 17 = .ok (.ifCond .eq 25, 3) := by decide +kernel
theorem dX5_saint_20 : decode cX5_saint 20 = .ok (.iload_n 3, 1) := by decide +kernel
theorem dX5_saint_21 : decode cX5_saint 21 = .ok (.bipush 20, 2) := by decide +kernel
theorem dX5_saint_23 : decode cX5_saint 23 = .ok (.invokestatic 42, 3) := by decide +kernel
theorem dX5_saint_26 : decode cX5_saint 26 = .ok (.ifCond .eq 16, 3) := by decide +kernel
theorem dX5_saint_29 : decode cX5_saint 29 = .ok (.iload 4, 2) := by decide +kernel
theorem dX5_saint_31 : decode cX5_saint 31 = .ok (.iconst 1, 1) := by decide +kernel
theorem dX5_saint_32 : decode cX5_saint 32 = .ok (.if_icmp .lt 10, 3) := by decide +kernel
theorem dX5_saint_35 : decode cX5_saint 35 = .ok (.iload 4, 2) := by decide +kernel
theorem dX5_saint_37 : decode cX5_saint 37 = .ok (.bipush 9, 2) := by decide +kernel
theorem dX5_saint_39 : decode cX5_saint 39 = .ok (.if_icmp .le 6, 3) := by decide +kernel
theorem dX5_saint_42 : decode cX5_saint 42 = .ok (.bipush (-2), 2) := by decide +kernel
theorem dX5_saint_44 : decode cX5_saint 44 = .ok (.ireturn, 1) := by decide +kernel
theorem dX5_saint_45 : decode cX5_saint 45 = .ok (.aload_n 0, 1) := by decide +kernel
theorem dX5_saint_46 : decode cX5_saint 46 = .ok (.getfield 31, 3) := by decide +kernel
theorem dX5_saint_49 : decode cX5_saint 49 = .ok (.getfield 91, 3) := by decide +kernel
theorem dX5_saint_52 : decode cX5_saint 52 = .ok (.iconst 5, 1) := by decide +kernel
theorem dX5_saint_53 : decode cX5_saint 53 = .ok (.if_icmp .lt 6, 3) := by decide +kernel
theorem dX5_saint_56 : decode cX5_saint 56 = .ok (.bipush (-3), 2) := by decide +kernel
theorem dX5_saint_58 : decode cX5_saint 58 = .ok (.ireturn, 1) := by decide +kernel
theorem dX5_saint_59 : decode cX5_saint 59 = .ok (.aload_n 0, 1) := by decide +kernel
theorem dX5_saint_60 : decode cX5_saint 60 = .ok (.invokevirtual 46, 3) := by decide +kernel
theorem dX5_saint_63 : decode cX5_saint 63 = .ok (.aload_n 0, 1) := by decide +kernel
theorem dX5_saint_64 : decode cX5_saint 64 = .ok (.getfield 31, 3) := by decide +kernel
theorem dX5_saint_67 : decode cX5_saint 67 = .ok (.getfield 94, 3) := by decide +kernel
theorem dX5_saint_70 : decode cX5_saint 70 = .ok (.aload_n 0, 1) := by decide +kernel
theorem dX5_saint_71 : decode cX5_saint 71 = .ok (.getfield 31, 3) := by decide +kernel
theorem dX5_saint_74 : decode cX5_saint 74 = .ok (.getfield 91, 3) := by decide +kernel
theorem dX5_saint_77 : decode cX5_saint 77 = .ok (.aaload, 1) := by decide +kernel
theorem dX5_saint_78 : decode cX5_saint 78 = .ok (.astore 5, 2) := by decide +kernel
theorem dX5_saint_80 : decode cX5_saint 80 = .ok (.aload 5, 2) := by decide +kernel
theorem dX5_saint_82 : decode cX5_saint 82 = .ok (.iload_n 1, 1) := by decide +kernel
theorem dX5_saint_83 : decode cX5_saint 83 = .ok (.putfield 98, 3) := by decide +kernel
theorem dX5_saint_86 : decode cX5_saint 86 = .ok (.aload 5, 2) := by decide +kernel
theorem dX5_saint_88 : decode cX5_saint 88 = .ok (.iload_n 2, 1) := by decide +kernel
theorem dX5_saint_89 : decode cX5_saint 89 = .ok (.putfield 103, 3) := by decide +kernel
theorem dX5_saint_92 : decode cX5_saint 92 = .ok (.aload 5, 2) := by decide +kernel
theorem dX5_saint_94 : decode cX5_saint 94 = .ok (.iload_n 3, 1) := by decide +kernel
theorem dX5_saint_95 : decode cX5_saint 95 = .ok (.putfield 106, 3) := by decide +kernel
theorem dX5_saint_98 : decode cX5_saint 98 = .ok (.aload 5, 2) := by decide +kernel
theorem dX5_saint_100 : decode cX5_saint 100 = .ok (.iload 4, 2) := by decide +kernel
theorem dX5_saint_102 : decode cX5_saint 102 = .ok (.putfield 109, 3) := by decide +kernel
theorem dX5_saint_105 : decode cX5_saint 105 = .ok (.aload_n 0, 1) := by decide +kernel
theorem dX5_saint_106 : decode cX5_saint 106 = .ok (.getfield 31, 3) := by decide +kernel
theorem dX5_saint_109 : decode cX5_saint 109 = .ok (.dup, 1) := by decide +kernel
theorem dX5_saint_110 : decode cX5_saint 110 = .ok (.getfield 91, 3) := by decide +kernel
theorem dX5_saint_113 : decode cX5_saint 113 = .ok (.iconst 1, 1) := by decide +kernel
theorem dX5_saint_114 : decode cX5_saint 114 = .ok (.iadd, 1) := by decide +kernel
theorem dX5_saint_115 : decode cX5_saint 115 = .ok (.putfield 91, 3) := by decide +kernel
theorem dX5_saint_118 : decode cX5_saint 118 = .ok (.aload_n 0, 1) := by decide +kernel
theorem dX5_saint_119 : decode cX5_saint 119 = .ok (.getfield 31, 3) := by decide +kernel
theorem dX5_saint_122 : decode cX5_saint 122 = .ok (.getfield 91, 3) := by decide +kernel
theorem dX5_saint_125 : decode cX5_saint 125 = .ok (.iconst 1, 1) := by decide +kernel
theorem dX5_saint_126 : decode cX5_saint 126 = .ok (.isub, 1) := by decide +kernel
theorem dX5_saint_127 : decode cX5_saint 127 = .ok (.ireturn, 1) := by decide +kernel
theorem dX5_strike_0 : decode cX5_strike 0 = .ok (.iload_n 1, 1) := by decide +kernel
theorem dX5_strike_1 : decode cX5_strike 1 = .ok (.aload_n 0, 1) := by decide +kernel
theorem dX5_strike_2 : decode cX5_strike 2 = .ok (.getfield 31, 3) := by decide +kernel
theorem dX5_strike_5 : decode cX5_strike 5 = .ok (.getfield 91, 3) := by decide +kernel
theorem dX5_strike_8 : decode cX5_strike 8 = .ok (.invokestatic 76, 3) := by decide +kernel
theorem dX5_strike_11 : decode cX5_strike 11 = .ok (.ifCond .ne 5, 3) := by decide +kernel
theorem dX5_strike_14 : decode cX5_strike 14 = .ok (.iconst (-1), 1) := by decide +kernel
theorem dX5_strike_15 : decode cX5_strike 15 = .ok (.ireturn, 1) := by decide +kernel
theorem dX5_strike_16 : decode cX5_strike 16 = .ok (.aload_n 0, 1) := by decide +kernel
theorem dX5_strike_17 : decode cX5_strike 17 = .ok (.invokevirtual 46, 3) := by decide +kernel
theorem dX5_strike_20 : decode cX5_strike 20 = .ok (.aload_n 0, 1) := by decide +kernel
theorem dX5_strike_21 : decode cX5_strike 21 = .ok (.getfield 31, 3) := by decide +kernel
theorem dX5_strike_24 : decode cX5_strike 24 = .ok (.iload_n 1, 1) := by decide +kernel
theorem dX5_strike_25 : decode cX5_strike 25 = .ok (.invokevirtual 112, 3) := by decide +kernel
theorem dX5_strike_28 : decode cX5_strike 28 = .ok (.aload_n 0, 1) := by decide +kernel
theorem dX5_strike_29 : decode cX5_strike 29 = .ok (.getfield 31, 3) := by decide +kernel
theorem dX5_strike_32 : decode cX5_strike 32 = .ok (.getfield 91, 3) := by decide +kernel
theorem dX5_strike_35 : decode cX5_strike 35 = .ok (.ireturn, 1) := by decide +kernel
theorem dX5_set_0 : decode cX5_set 0 = .ok (.iload_n 1, 1) := by decide +kernel
theorem dX5_set_1 : decode cX5_set 1 = .ok (.iconst 4, 1) := by decide +kernel
theorem dX5_set_2 : decode cX5_set 2 = .ok (.invokestatic 76, 3) := by decide +kernel
theorem dX5_set_5 : decode cX5_set 5 = .ok (.ifCond .eq 21, 3) := by decide +kernel
theorem dX5_set_8 : decode cX5_set 8 = .ok (.iload_n 2, 1) := by decide +kernel
theorem dX5_set_9 : decode cX5_set 9 = .ok (.getstatic 116, 3) := by decide +kernel
theorem dX5_set_12 : decode cX5_set 12 = .ok (.iload_n 1, 1) := by decide +kernel
theorem dX5_set_13 : decode cX5_set 13 = .ok (.iaload, 1) := by decide +kernel
theorem dX5_set_14 : decode cX5_set 14 = .ok (.if_icmp .lt 12, 3) := by decide +kernel
theorem dX5_set_17 : decode cX5_set 17 = .ok (.iload_n 2, 1) := by decide +kernel
theorem dX5_set_18 : decode cX5_set 18 = .ok (.getstatic 119, 3) := by decide +kernel
theorem dX5_set_21 : decode cX5_set 21 = .ok (.iload_n 1, 1) := by decide +kernel
theorem dX5_set_22 : decode cX5_set 22 = .ok (.iaload, 1) := by decide +kernel
theorem dX5_set_23 : decode cX5_set 23 = .ok (.if_icmp .le 6, 3) := by decide +kernel
theorem dX5_set_26 : decode cX5_set 26 = .ok (.bipush (-2), 2) := by decide +kernel
theorem dX5_set_28 : decode cX5_set 28 = .ok (.ireturn, 1) := by decide +kernel
theorem dX5_set_29 : decode cX5_set 29 = .ok (.aload_n 0, 1) := by decide +kernel
theorem dX5_set_30 : decode cX5_set 30 = .ok (.getfield 31, 3) := by decide +kernel
theorem dX5_set_33 : decode cX5_set 33 = .ok (.getfield 122, 3) := by decide +kernel
theorem dX5_set_36 : decode cX5_set 36 = .ok (.iload_n 1, 1) := by decide +kernel
theorem dX5_set_37 : decode cX5_set 37 = .ok (.iaload, 1) := by decide +kernel
theorem dX5_set_38 : decode cX5_set 38 = .ok (.istore_n 3, 1) := by decide +kernel
theorem dX5_set_39 : decode cX5_set 39 = .ok (.iload_n 3, 1) := by decide +kernel
theorem dX5_set_40 : decode cX5_set 40 = .ok (.iload_n 2, 1) := by decide +kernel
theorem dX5_set_41 : decode cX5_set 41 = .ok (.if_icmp .ne 6, 3) := by decide +kernel
theorem dX5_set_44 : decode cX5_set 44 = .ok (.bipush (-5), 2) := by decide +kernel
theorem dX5_set_46 : decode cX5_set 46 = .ok (.ireturn, 1) := by decide +kernel
theorem dX5_set_47 : decode cX5_set 47 = .ok (.aload_n 0, 1) := by decide +kernel
theorem dX5_set_48 : decode cX5_set 48 = .ok (.invokevirtual 46, 3) := by decide +kernel
theorem dX5_set_51 : decode cX5_set 51 = .ok (.aload_n 0, 1) := by decide +kernel
theorem dX5_set_52 : decode cX5_set 52 = .ok (.getfield 31, 3) := by decide +kernel
theorem dX5_set_55 : decode cX5_set 55 = .ok (.getfield 122, 3) := by decide +kernel
theorem dX5_set_58 : decode cX5_set 58 = .ok (.iload_n 1, 1) := by decide +kernel
theorem dX5_set_59 : decode cX5_set 59 = .ok (.iload_n 2, 1) := by decide +kernel
theorem dX5_set_60 : decode cX5_set 60 = .ok (.iastore, 1) := by decide +kernel
theorem dX5_set_61 : decode cX5_set 61 = .ok (.iload_n 3, 1) := by decide +kernel
theorem dX5_set_62 : decode cX5_set 62 = .ok (.sipush 1000, 3) := by decide +kernel
theorem dX5_set_65 : decode cX5_set 65 = .ok (.iadd, 1) := by decide +kernel
theorem dX5_set_66 : decode cX5_set 66 = .ok (.ireturn, 1) := by decide +kernel
theorem dX5_bet_0 : decode cX5_bet 0 = .ok (.iload_n 1, 1) := by decide +kernel
theorem dX5_bet_1 : decode cX5_bet 1 = .ok (.iconst 4, 1) := by decide +kernel
theorem dX5_bet_2 : decode cX5_bet 2 = .ok (.invokestatic 76, 3) := by decide +kernel
theorem dX5_bet_5 : decode cX5_bet 5 = .ok (.ifCond .ne 5, 3) := by decide +kernel
theorem dX5_bet_8 : decode cX5_bet 8 = .ok (.iconst (-1), 1) := by decide +kernel
theorem dX5_bet_9 : decode cX5_bet 9 = .ok (.ireturn, 1) := by decide +kernel
theorem dX5_bet_10 : decode cX5_bet 10 = .ok (.iload_n 3, 1) := by decide +kernel
theorem dX5_bet_11 : decode cX5_bet 11 = .ok (.iconst 1, 1) := by decide +kernel
theorem dX5_bet_12 : decode cX5_bet 12 = .ok (.if_icmp .lt 10, 3) := by decide +kernel
theorem dX5_bet_15 : decode cX5_bet 15 = .ok (.iload_n 3, 1) := by decide +kernel
theorem dX5_bet_16 : decode cX5_bet 16 = .ok (.sipush 1000, 3) := by decide +kernel
theorem dX5_bet_19 : decode cX5_bet 19 = .ok (.if_icmp .le 6, 3) := by decide +kernel
theorem dX5_bet_22 : decode cX5_bet 22 = .ok (.bipush (-2), 2) := by decide +kernel
theorem dX5_bet_24 : decode cX5_bet 24 = .ok (.ireturn, 1) := by decide +kernel
theorem dX5_bet_25 : decode cX5_bet 25 = .ok (.aload_n 0, 1) := by decide +kernel
theorem dX5_bet_26 : decode cX5_bet 26 = .ok (.getfield 31, 3) := by decide +kernel
theorem dX5_bet_29 : decode cX5_bet 29 = .ok (.getfield 125, 3) := by decide +kernel
theorem dX5_bet_32 : decode cX5_bet 32 = .ok (.iload_n 1, 1) := by decide +kernel
theorem dX5_bet_33 : decode cX5_bet 33 = .ok (.aaload, 1) := by decide +kernel
theorem dX5_bet_34 : decode cX5_bet 34 = .ok (.getfield 129, 3) := by decide +kernel
theorem dX5_bet_37 : decode cX5_bet 37 = .ok (.ifCond .gt 19, 3) := by decide +kernel
theorem dX5_bet_40 : decode cX5_bet 40 = .ok (.aload_n 0, 1) := by decide +kernel
theorem dX5_bet_41 : decode cX5_bet 41 = .ok (.getfield 31, 3) := by decide +kernel
theorem dX5_bet_44 : decode cX5_bet 44 = .ok (.getfield 125, 3) := by decide +kernel
theorem dX5_bet_47 : decode cX5_bet 47 = .ok (.iload_n 1, 1) := by decide +kernel
theorem dX5_bet_48 : decode cX5_bet 48 = .ok (.aaload, 1) := by decide +kernel
theorem dX5_bet_49 : decode cX5_bet 49 = .ok (.getfield 134, 3) := by decide +kernel
theorem dX5_bet_52 : decode cX5_bet 52 = .ok (.iload_n 3, 1) := by decide +kernel
theorem dX5_bet_53 : decode cX5_bet 53 = .ok (.if_icmp .ge 6, 3) := by decide +kernel
theorem dX5_bet_56 : decode cX5_bet 56 = .ok (.bipush (-4), 2) := by decide +kernel
theorem dX5_bet_58 : decode cX5_bet 58 = .ok (.ireturn, 1) := by decide +kernel
theorem dX5_bet_59 : decode cX5_bet 59 = .ok (.aload_n 0, 1) := by decide +kernel
theorem dX5_bet_60 : decode cX5_bet 60 = .ok (.invokevirtual 46, 3) := by decide +kernel
theorem dX5_bet_63 : decode cX5_bet 63 = .ok (.aload_n 0, 1) := by decide +kernel
theorem dX5_bet_64 : decode cX5_bet 64 = .ok (.getfield 31, 3) := by decide +kernel
theorem dX5_bet_67 : decode cX5_bet 67 = .ok (.getfield 125, 3) := by decide +kernel
theorem dX5_bet_70 : decode cX5_bet 70 = .ok (.iload_n 1, 1) := by decide +kernel
theorem dX5_bet_71 : decode cX5_bet 71 = .ok (.aaload, 1) := by decide +kernel
theorem dX5_bet_72 : decode cX5_bet 72 = .ok (.astore 4, 2) := by decide +kernel
theorem dX5_bet_74 : decode cX5_bet 74 = .ok (.aload 4, 2) := by decide +kernel
theorem dX5_bet_76 : decode cX5_bet 76 = .ok (.dup, 1) := by decide +kernel
theorem dX5_bet_77 : decode cX5_bet 77 = .ok (.getfield 134, 3) := by decide +kernel
theorem dX5_bet_80 : decode cX5_bet 80 = .ok (.iload_n 3, 1) := by decide +kernel
theorem dX5_bet_81 : decode cX5_bet 81 = .ok (.isub, 1) := by decide +kernel
theorem dX5_bet_82 : decode cX5_bet 82 = .ok (.putfield 134, 3) := by decide +kernel
theorem dX5_bet_85 : decode cX5_bet 85 = .ok (.aload 4, 2) := by decide +kernel
theorem dX5_bet_87 : decode cX5_bet 87 = .ok (.iload_n 3, 1) := by decide +kernel
theorem dX5_bet_88 : decode cX5_bet 88 = .ok (.putfield 129, 3) := by decide +kernel
theorem dX5_bet_91 : decode cX5_bet 91 = .ok (.aload 4, 2) := by decide +kernel
theorem dX5_bet_93 : decode cX5_bet 93 = .ok (.iload_n 2, 1) := by decide +kernel
theorem dX5_bet_94 : decode cX5_bet 94 = .ok (.putfield 137, 3) := by decide +kernel
theorem dX5_bet_97 : decode cX5_bet 97 = .ok (.aload 4, 2) := by decide +kernel
theorem dX5_bet_99 : decode cX5_bet 99 = .ok (.getfield 134, 3) := by decide +kernel
theorem dX5_bet_102 : decode cX5_bet 102 = .ok (.ireturn, 1) := by decide +kernel
theorem dX5_takeBack_0 : decode cX5_takeBack 0 = .ok (.iload_n 1, 1) := by decide +kernel
theorem dX5_takeBack_1 : decode cX5_takeBack 1 = .ok (.iconst 4, 1) := by decide +kernel
theorem dX5_takeBack_2 : decode cX5_takeBack 2 = .ok (.invokestatic 76, 3) := by decide +kernel
theorem dX5_takeBack_5 : decode cX5_takeBack 5 = .ok (.ifCond .ne 5, 3) := by decide +kernel
theorem dX5_takeBack_8 : decode cX5_takeBack 8 = .ok (.iconst (-1), 1) := by decide +kernel
theorem dX5_takeBack_9 : decode cX5_takeBack 9 = .ok (.ireturn, 1) := by decide +kernel
theorem dX5_takeBack_10 : decode cX5_takeBack 10 = .ok (.aload_n 0, 1) := by decide +kernel
theorem dX5_takeBack_11 : decode cX5_takeBack 11 = .ok (.getfield 31, 3) := by decide +kernel
theorem dX5_takeBack_14 : decode cX5_takeBack 14 = .ok (.getfield 125, 3) := by decide +kernel
theorem dX5_takeBack_17 : decode cX5_takeBack 17 = .ok (.iload_n 1, 1) := by decide +kernel
theorem dX5_takeBack_18 : decode cX5_takeBack 18 = .ok (.aaload, 1) := by decide +kernel
theorem dX5_takeBack_19 : decode cX5_takeBack 19 = .ok (.getfield 129, 3) := by decide +kernel
theorem dX5_takeBack_22 : decode cX5_takeBack 22 = .ok (.ifCond .ne 6, 3) := by decide +kernel
theorem dX5_takeBack_25 : decode cX5_takeBack 25 = .ok (.bipush (-5), 2) := by decide +kernel
theorem dX5_takeBack_27 : decode cX5_takeBack 27 = .ok (.ireturn, 1) := by decide +kernel
theorem dX5_takeBack_28 : decode cX5_takeBack 28 = .ok (.aload_n 0, 1) := by decide +kernel
theorem dX5_takeBack_29 : decode cX5_takeBack 29 = .ok (.invokevirtual 46, 3) := by decide +kernel
theorem dX5_takeBack_32 : decode cX5_takeBack 32 = .ok (.aload_n 0, 1) := by decide +kernel
theorem dX5_takeBack_33 : decode cX5_takeBack 33 = .ok (.getfield 31, 3) := by decide +kernel
theorem dX5_takeBack_36 : decode cX5_takeBack 36 = .ok (.getfield 125, 3) := by decide +kernel
theorem dX5_takeBack_39 : decode cX5_takeBack 39 = .ok (.iload_n 1, 1) := by decide +kernel
theorem dX5_takeBack_40 : decode cX5_takeBack 40 = .ok (.aaload, 1) := by decide +kernel
theorem dX5_takeBack_41 : decode cX5_takeBack 41 = .ok (.astore_n 2, 1) := by decide +kernel
theorem dX5_takeBack_42 : decode cX5_takeBack 42 = .ok (.aload_n 2, 1) := by decide +kernel
theorem dX5_takeBack_43 : decode cX5_takeBack 43 = .ok (.dup, 1) := by decide +kernel
theorem dX5_takeBack_44 : decode cX5_takeBack 44 = .ok (.getfield 134, 3) := by decide +kernel
theorem dX5_takeBack_47 : decode cX5_takeBack 47 = .ok (.aload_n 2, 1) := by decide +kernel
theorem dX5_takeBack_48 : decode cX5_takeBack 48 = .ok (.getfield 129, 3) := by decide +kernel
theorem dX5_takeBack_51 : decode cX5_takeBack 51 = .ok (.iadd, 1) := by decide +kernel
theorem dX5_takeBack_52 : decode cX5_takeBack 52 = .ok (.putfield 134, 3) := by decide +kernel
theorem dX5_takeBack_55 : decode cX5_takeBack 55 = .ok (.aload_n 2, 1) := by decide +kernel
theorem dX5_takeBack_56 : decode cX5_takeBack 56 = .ok (.invokevirtual 140, 3) := by decide +kernel
theorem dX5_takeBack_59 : decode cX5_takeBack 59 = .ok (.aload_n 2, 1) := by decide +kernel
theorem dX5_takeBack_60 : decode cX5_takeBack 60 = .ok (.getfield 134, 3) := by decide +kernel
theorem dX5_takeBack_63 : decode cX5_takeBack 63 = .ok (.ireturn, 1) := by decide +kernel
theorem dX5_undo_0 : decode cX5_undo 0 = .ok (.aload_n 0, 1) := by decide +kernel
theorem dX5_undo_1 : decode cX5_undo 1 = .ok (.getfield 34, 3) := by decide +kernel
theorem dX5_undo_4 : decode cX5_undo 4 = .ok (.ifCond .ne 6, 3) := by decide +kernel
theorem dX5_undo_7 : decode cX5_undo 7 = .ok (.bipush (-5), 2) := by decide +kernel
theorem dX5_undo_9 : decode cX5_undo 9 = .ok (.ireturn, 1) := by decide +kernel
theorem dX5_undo_10 : decode cX5_undo 10 = .ok (.aload_n 0, 1) := by decide +kernel
theorem dX5_undo_11 : decode cX5_undo 11 = .ok (.dup, 1) := by decide +kernel
theorem dX5_undo_12 : decode cX5_undo 12 = .ok (.getfield 34, 3) := by decide +kernel
theorem dX5_undo_15 : decode cX5_undo 15 = .ok (.iconst 1, 1) := by decide +kernel
theorem dX5_undo_16 : decode cX5_undo 16 = .ok (.isub, 1) := by decide +kernel
theorem dX5_undo_17 : decode cX5_undo 17 = .ok (.putfield 34, 3) := by decide +kernel
theorem dX5_undo_20 : decode cX5_undo 20 = .ok (.aload_n 0, 1) := by decide +kernel
theorem dX5_undo_21 : decode cX5_undo 21 = .ok (.getfield 31, 3) := by decide +kernel
theorem dX5_undo_24 : decode cX5_undo 24 = .ok (.astore_n 1, 1) := by decide +kernel
theorem dX5_undo_25 : decode cX5_undo 25 = .ok (.aload_n 0, 1) := by decide +kernel
theorem dX5_undo_26 : decode cX5_undo 26 = .ok (.aload_n 0, 1) := by decide +kernel
theorem dX5_undo_27 : decode cX5_undo 27 = .ok (.getfield 18, 3) := by decide +kernel
theorem dX5_undo_30 : decode cX5_undo 30 = .ok (.aload_n 0, 1) := by decide +kernel
theorem dX5_undo_31 : decode cX5_undo 31 = .ok (.getfield 34, 3) := by decide +kernel
theorem dX5_undo_34 : decode cX5_undo 34 = .ok (.aaload, 1) := by decide +kernel
theorem dX5_undo_35 : decode cX5_undo 35 = .ok (.putfield 31, 3) := by decide +kernel
theorem dX5_undo_38 : decode cX5_undo 38 = .ok (.aload_n 0, 1) := by decide +kernel
theorem dX5_undo_39 : decode cX5_undo 39 = .ok (.getfield 18, 3) := by decide +kernel
theorem dX5_undo_42 : decode cX5_undo 42 = .ok (.aload_n 0, 1) := by decide +kernel
theorem dX5_undo_43 : decode cX5_undo 43 = .ok (.getfield 34, 3) := by decide +kernel
theorem dX5_undo_46 : decode cX5_undo 46 = .ok (.aload_n 1, 1) := by decide +kernel
theorem dX5_undo_47 : decode cX5_undo 47 = .ok (.aastore, 1) := by decide +kernel
theorem dX5_undo_48 : decode cX5_undo 48 = .ok (.aload_n 0, 1) := by decide +kernel
theorem dX5_undo_49 : decode cX5_undo 49 = .ok (.getfield 34, 3) := by decide +kernel
theorem dX5_undo_52 : decode cX5_undo 52 = .ok (.ireturn, 1) := by decide +kernel
theorem dX5_keep_0 : decode cX5_keep 0 = .ok (.aload_n 0, 1) := by decide +kernel
theorem dX5_keep_1 : decode cX5_keep 1 = .ok (.getfield 23, 3) := by decide +kernel
theorem dX5_keep_4 : decode cX5_keep 4 = .ok (.aload_n 0, 1) := by decide +kernel
theorem dX5_keep_5 : decode cX5_keep 5 = .ok (.getfield 31, 3) := by decide +kernel
theorem dX5_keep_8 : decode cX5_keep 8 = .ok (.invokevirtual 148, 3) := by decide +kernel
theorem dX5_keep_11 : decode cX5_keep 11 = .ok (.aload_n 0, 1) := by decide +kernel
theorem dX5_keep_12 : decode cX5_keep 12 = .ok (.iconst 1, 1) := by decide +kernel
theorem dX5_keep_13 : decode cX5_keep 13 = .ok (.putfield 38, 3) := by decide +kernel
theorem dX5_keep_16 : decode cX5_keep 16 = .ok (.aload_n 0, 1) := by decide +kernel
theorem dX5_keep_17 : decode cX5_keep 17 = .ok (.getfield 31, 3) := by decide +kernel
theorem dX5_keep_20 : decode cX5_keep 20 = .ok (.getfield 57, 3) := by decide +kernel
theorem dX5_keep_23 : decode cX5_keep 23 = .ok (.ireturn, 1) := by decide +kernel
theorem dX5_restore_0 : decode cX5_restore 0 = .ok (.aload_n 0, 1) := by decide +kernel
theorem dX5_restore_1 : decode cX5_restore 1 = .ok (.getfield 38, 3) := by decide +kernel
theorem dX5_restore_4 : decode cX5_restore 4 = .ok (.ifCond .ne 6, 3) := by decide +kernel
theorem dX5_restore_7 : decode cX5_restore 7 = .ok (.bipush (-5), 2) := by decide +kernel
theorem dX5_restore_9 : decode cX5_restore 9 = .ok (.ireturn, 1) := by decide +kernel
theorem dX5_restore_10 : decode cX5_restore 10 = .ok (.aload_n 0, 1) := by decide +kernel
theorem dX5_restore_11 : decode cX5_restore 11 = .ok (.invokevirtual 46, 3) := by decide +kernel
theorem dX5_restore_14 : decode cX5_restore 14 = .ok (.aload_n 0, 1) := by decide +kernel
theorem dX5_restore_15 : decode cX5_restore 15 = .ok (.getfield 31, 3) := by decide +kernel
theorem dX5_restore_18 : decode cX5_restore 18 = .ok (.aload_n 0, 1) := by decide +kernel
theorem dX5_restore_19 : decode cX5_restore 19 = .ok (.getfield 23, 3) := by decide +kernel
theorem dX5_restore_22 : decode cX5_restore 22 = .ok (.invokevirtual 148, 3) := by decide +kernel
theorem dX5_restore_25 : decode cX5_restore 25 = .ok (.aload_n 0, 1) := by decide +kernel
theorem dX5_restore_26 : decode cX5_restore 26 = .ok (.getfield 31, 3) := by decide +kernel
theorem dX5_restore_29 : decode cX5_restore 29 = .ok (.getfield 57, 3) := by decide +kernel
theorem dX5_restore_32 : decode cX5_restore 32 = .ok (.ireturn, 1) := by decide +kernel
theorem dX5_dayOf_0 : decode cX5_dayOf 0 = .ok (.iload_n 1, 1) := by decide +kernel
theorem dX5_dayOf_1 : decode cX5_dayOf 1 = .ok (.bipush 20, 2) := by decide +kernel
theorem dX5_dayOf_3 : decode cX5_dayOf 3 = .ok (.invokestatic 76, 3) := by decide +kernel
theorem dX5_dayOf_6 : decode cX5_dayOf 6 = .ok (.ifCond .ne 5, 3) := by decide +kernel
theorem dX5_dayOf_9 : decode cX5_dayOf 9 = .ok (.iconst (-1), 1) := by decide +kernel
theorem dX5_dayOf_10 : decode cX5_dayOf 10 = .ok (.ireturn, 1) := by decide +kernel
theorem dX5_dayOf_11 : decode cX5_dayOf 11 = .ok (.aload_n 0, 1) := by decide +kernel
theorem dX5_dayOf_12 : decode cX5_dayOf 12 = .ok (.getfield 31, 3) := by decide +kernel
theorem dX5_dayOf_15 : decode cX5_dayOf 15 = .ok (.invokevirtual 82, 3) := by decide +kernel
theorem dX5_dayOf_18 : decode cX5_dayOf 18 = .ok (.astore_n 3, 1) := by decide +kernel
theorem dX5_dayOf_19 : decode cX5_dayOf 19 = .ok (.iload_n 1, 1) := by decide +kernel
theorem dX5_dayOf_20 : decode cX5_dayOf 20 = .ok (.aload_n 0, 1) := by decide +kernel
theorem dX5_dayOf_21 : decode cX5_dayOf 21 = .ok (.getfield 31, 3) := by decide +kernel
theorem dX5_dayOf_24 : decode cX5_dayOf 24 = .ok (.getfield 79, 3) := by decide +kernel
theorem dX5_dayOf_27 : decode cX5_dayOf 27 = .ok (.if_icmp .ge 7, 3) := by decide +kernel
theorem dX5_dayOf_30 : decode cX5_dayOf 30 = .ok (.iconst 1, 1) := by decide +kernel
theorem dX5_dayOf_31 : decode cX5_dayOf 31 = .ok (.goto 4, 3) := by decide +kernel
theorem dX5_dayOf_34 : decode cX5_dayOf 34 = .ok (.iconst 0, 1) := by decide +kernel
theorem dX5_dayOf_35 : decode cX5_dayOf 35 = .ok (.istore 4, 2) := by decide +kernel
theorem dX5_dayOf_37 : decode cX5_dayOf 37 = .ok (.iload_n 2, 1) := by decide +kernel
theorem dX5_dayOf_38 : decode cX5_dayOf 38 = .ok (.tableswitch 119 0 4 #[34, 45, 58, 79, 100], 34) := by decide +kernel
theorem dX5_dayOf_72 : decode cX5_dayOf 72 = .ok (.aload_n 3, 1) := by decide +kernel
theorem dX5_dayOf_73 : decode cX5_dayOf 73 = .ok (.getfield 86, 3) := by decide +kernel
theorem dX5_dayOf_76 : decode cX5_dayOf 76 = .ok (.iload_n 1, 1) := by decide +kernel
theorem dX5_dayOf_77 : decode cX5_dayOf 77 = .ok (.iaload, 1) := by decide +kernel
theorem dX5_dayOf_78 : decode cX5_dayOf 78 = .ok (.sipush 1000, 3) := by decide +kernel
theorem dX5_dayOf_81 : decode cX5_dayOf 81 = .ok (.iadd, 1) := by decide +kernel
theorem dX5_dayOf_82 : decode cX5_dayOf 82 = .ok (.ireturn, 1) := by decide +kernel
theorem dX5_dayOf_83 : decode cX5_dayOf 83 = .ok (.aload_n 0, 1) := by decide +kernel
theorem dX5_dayOf_84 : decode cX5_dayOf 84 = .ok (.getfield 31, 3) := by decide +kernel
theorem dX5_dayOf_87 : decode cX5_dayOf 87 = .ok (.iload_n 1, 1) := by decide +kernel
theorem dX5_dayOf_88 : decode cX5_dayOf 88 = .ok (.invokevirtual 152, 3) := by decide +kernel
theorem dX5_dayOf_91 : decode cX5_dayOf 91 = .ok (.sipush 1000, 3) := by decide +kernel
theorem dX5_dayOf_94 : decode cX5_dayOf 94 = .ok (.iadd, 1) := by decide +kernel
theorem dX5_dayOf_95 : decode cX5_dayOf 95 = .ok (.ireturn, 1) := by decide +kernel
theorem dX5_dayOf_96 : decode cX5_dayOf 96 = .ok (.iload 4, 2) := by decide +kernel
theorem dX5_dayOf_98 : decode cX5_dayOf 98 = .ok (.ifCond .eq 16, 3) := by decide +kernel
theorem dX5_dayOf_101 : decode cX5_dayOf 101 = .ok (.aload_n 3, 1) := by decide +kernel
theorem dX5_dayOf_102 : decode cX5_dayOf 102 = .ok (.getfield 155, 3) := by decide +kernel
theorem dX5_dayOf_105 : decode cX5_dayOf 105 = .ok (.iload_n 1, 1) := by decide +kernel
theorem dX5_dayOf_106 : decode cX5_dayOf 106 = .ok (.iaload, 1) := by decide +kernel
theorem dX5_dayOf_107 : decode cX5_dayOf 107 = .ok (.sipush 1000, 3) := by decide +kernel
theorem dX5_dayOf_110 : decode cX5_dayOf 110 = .ok (.iadd, 1) := by decide +kernel
theorem dX5_dayOf_111 : decode cX5_dayOf 111 = .ok (.goto 5, 3) := by decide +kernel
theorem dX5_dayOf_114 : decode cX5_dayOf 114 = .ok (.bipush (-5), 2) := by decide +kernel
theorem dX5_dayOf_116 : decode cX5_dayOf 116 = .ok (.ireturn, 1) := by decide +kernel
theorem dX5_dayOf_117 : decode cX5_dayOf 117 = .ok (.iload 4, 2) := by decide +kernel
theorem dX5_dayOf_119 : decode cX5_dayOf 119 = .ok (.ifCond .eq 16, 3) := by decide +kernel
theorem dX5_dayOf_122 : decode cX5_dayOf 122 = .ok (.aload_n 3, 1) := by decide +kernel
theorem dX5_dayOf_123 : decode cX5_dayOf 123 = .ok (.getfield 158, 3) := by decide +kernel
theorem dX5_dayOf_126 : decode cX5_dayOf 126 = .ok (.iload_n 1, 1) := by decide +kernel
theorem dX5_dayOf_127 : decode cX5_dayOf 127 = .ok (.iaload, 1) := by decide +kernel
theorem dX5_dayOf_128 : decode cX5_dayOf 128 = .ok (.sipush 1000, 3) := by decide +kernel
theorem dX5_dayOf_131 : decode cX5_dayOf 131 = .ok (.iadd, 1) := by decide +kernel
theorem dX5_dayOf_132 : decode cX5_dayOf 132 = .ok (.goto 5, 3) := by decide +kernel
theorem dX5_dayOf_135 : decode cX5_dayOf 135 = .ok (.bipush (-5), 2) := by decide +kernel
theorem dX5_dayOf_137 : decode cX5_dayOf 137 = .ok (.ireturn, 1) := by decide +kernel
theorem dX5_dayOf_138 : decode cX5_dayOf 138 = .ok (.aload_n 0, 1) := by decide +kernel
theorem dX5_dayOf_139 : decode cX5_dayOf 139 = .ok (.getfield 31, 3) := by decide +kernel
theorem dX5_dayOf_142 : decode cX5_dayOf 142 = .ok (.aload_n 0, 1) := by decide +kernel
theorem dX5_dayOf_143 : decode cX5_dayOf 143 = .ok (.getfield 31, 3) := by decide +kernel
theorem dX5_dayOf_146 : decode cX5_dayOf 146 = .ok (.iload_n 1, 1) := by decide +kernel
theorem dX5_dayOf_147 : decode cX5_dayOf 147 = .ok (.invokevirtual 152, 3) := by decide +kernel
theorem dX5_dayOf_150 : decode cX5_dayOf 150 = .ok (.invokevirtual 161, 3) := by decide +kernel
theorem dX5_dayOf_153 : decode cX5_dayOf 153 = .ok (.invokestatic 165, 3) := by decide +kernel
theorem dX5_dayOf_156 : decode cX5_dayOf 156 = .ok (.ireturn, 1) := by decide +kernel
theorem dX5_dayOf_157 : decode cX5_dayOf 157 = .ok (.bipush (-2), 2) := by decide +kernel
theorem dX5_dayOf_159 : decode cX5_dayOf 159 = .ok (.ireturn, 1) := by decide +kernel
theorem dX5_past_0 : decode cX5_past 0 = .ok (.iload_n 1, 1) := by decide +kernel
theorem dX5_past_1 : decode cX5_past 1 = .ok (.aload_n 0, 1) := by decide +kernel
theorem dX5_past_2 : decode cX5_past 2 = .ok (.getfield 31, 3) := by decide +kernel
theorem dX5_past_5 : decode cX5_past 5 = .ok (.invokevirtual 169, 3) := by decide +kernel
theorem dX5_past_8 : decode cX5_past 8 = .ok (.invokestatic 76, 3) := by decide +kernel
theorem dX5_past_11 : decode cX5_past 11 = .ok (.ifCond .eq 12, 3) := by decide +kernel
theorem dX5_past_14 : decode cX5_past 14 = .ok (.iload_n 2, 1) := by decide +kernel
theorem dX5_past_15 : decode cX5_past 15 = .ok (.bipush 20, 2) := by decide +kernel
theorem dX5_past_17 : decode cX5_past 17 = .ok (.invokestatic 76, 3) := by decide +kernel
theorem dX5_past_20 : decode cX5_past 20 = .ok (.ifCond .ne 5, 3) := by decide +kernel
theorem dX5_past_23 : decode cX5_past 23 = .ok (.iconst (-1), 1) := by decide +kernel
theorem dX5_past_24 : decode cX5_past 24 = .ok (.ireturn, 1) := by decide +kernel
theorem dX5_past_25 : decode cX5_past 25 = .ok (.aload_n 0, 1) := by decide +kernel
theorem dX5_past_26 : decode cX5_past 26 = .ok (.getfield 31, 3) := by decide +kernel
theorem dX5_past_29 : decode cX5_past 29 = .ok (.iload_n 1, 1) := by decide +kernel
theorem dX5_past_30 : decode cX5_past 30 = .ok (.invokevirtual 172, 3) := by decide +kernel
theorem dX5_past_33 : decode cX5_past 33 = .ok (.astore 4, 2) := by decide +kernel
theorem dX5_past_35 : decode cX5_past 35 = .ok (.iload_n 3, 1) := by decide +kernel
theorem dX5_past_36 : decode cX5_past 36 = .ok (.lookupswitch 52 #[(0, 28), (1, 40)], 28) := by decide +kernel
theorem dX5_past_64 : decode cX5_past 64 = .ok (.aload 4, 2) := by decide +kernel
theorem dX5_past_66 : decode cX5_past 66 = .ok (.getfield 155, 3) := by decide +kernel
theorem dX5_past_69 : decode cX5_past 69 = .ok (.iload_n 2, 1) := by decide +kernel
theorem dX5_past_70 : decode cX5_past 70 = .ok (.iaload, 1) := by decide +kernel
theorem dX5_past_71 : decode cX5_past 71 = .ok (.sipush 1000, 3) := by decide +kernel
theorem dX5_past_74 : decode cX5_past 74 = .ok (.iadd, 1) := by decide +kernel
theorem dX5_past_75 : decode cX5_past 75 = .ok (.ireturn, 1) := by decide +kernel
theorem dX5_past_76 : decode cX5_past 76 = .ok (.aload 4, 2) := by decide +kernel
theorem dX5_past_78 : decode cX5_past 78 = .ok (.getfield 158, 3) := by decide +kernel
theorem dX5_past_81 : decode cX5_past 81 = .ok (.iload_n 2, 1) := by decide +kernel
theorem dX5_past_82 : decode cX5_past 82 = .ok (.iaload, 1) := by decide +kernel
theorem dX5_past_83 : decode cX5_past 83 = .ok (.sipush 1000, 3) := by decide +kernel
theorem dX5_past_86 : decode cX5_past 86 = .ok (.iadd, 1) := by decide +kernel
theorem dX5_past_87 : decode cX5_past 87 = .ok (.ireturn, 1) := by decide +kernel
theorem dX5_past_88 : decode cX5_past 88 = .ok (.bipush (-2), 2) := by decide +kernel
theorem dX5_past_90 : decode cX5_past 90 = .ok (.ireturn, 1) := by decide +kernel
theorem dX5_mean_0 : decode cX5_mean 0 = .ok (.iload_n 1, 1) := by decide +kernel
theorem dX5_mean_1 : decode cX5_mean 1 = .ok (.aload_n 0, 1) := by decide +kernel
theorem dX5_mean_2 : decode cX5_mean 2 = .ok (.getfield 31, 3) := by decide +kernel
theorem dX5_mean_5 : decode cX5_mean 5 = .ok (.invokevirtual 169, 3) := by decide +kernel
theorem dX5_mean_8 : decode cX5_mean 8 = .ok (.invokestatic 76, 3) := by decide +kernel
theorem dX5_mean_11 : decode cX5_mean 11 = .ok (.ifCond .eq 12, 3) := by decide +kernel
theorem dX5_mean_14 : decode cX5_mean 14 = .ok (.iload_n 2, 1) := by decide +kernel
theorem dX5_mean_15 : decode cX5_mean 15 = .ok (.bipush 20, 2) := by decide +kernel
theorem dX5_mean_17 : decode cX5_mean 17 = .ok (.invokestatic 76, 3) := by decide +kernel
theorem dX5_mean_20 : decode cX5_mean 20 = .ok (.ifCond .ne 5, 3) := by decide +kernel
theorem dX5_mean_23 : decode cX5_mean 23 = .ok (.iconst (-1), 1) := by decide +kernel
theorem dX5_mean_24 : decode cX5_mean 24 = .ok (.ireturn, 1) := by decide +kernel
theorem dX5_mean_25 : decode cX5_mean 25 = .ok (.aload_n 0, 1) := by decide +kernel
theorem dX5_mean_26 : decode cX5_mean 26 = .ok (.getfield 31, 3) := by decide +kernel
theorem dX5_mean_29 : decode cX5_mean 29 = .ok (.iload_n 1, 1) := by decide +kernel
theorem dX5_mean_30 : decode cX5_mean 30 = .ok (.invokevirtual 172, 3) := by decide +kernel
theorem dX5_mean_33 : decode cX5_mean 33 = .ok (.astore 4, 2) := by decide +kernel
theorem dX5_mean_35 : decode cX5_mean 35 = .ok (.iload_n 3, 1) := by decide +kernel
theorem dX5_mean_36 : decode cX5_mean 36 = .ok (.lookupswitch 68 #[(0, 28), (1, 48)], 28) := by decide +kernel
theorem dX5_mean_64 : decode cX5_mean 64 = .ok (.aload 4, 2) := by decide +kernel
theorem dX5_mean_66 : decode cX5_mean 66 = .ok (.iload_n 2, 1) := by decide +kernel
theorem dX5_mean_67 : decode cX5_mean 67 = .ok (.aload_n 0, 1) := by decide +kernel
theorem dX5_mean_68 : decode cX5_mean 68 = .ok (.getfield 31, 3) := by decide +kernel
theorem dX5_mean_71 : decode cX5_mean 71 = .ok (.getfield 122, 3) := by decide +kernel
theorem dX5_mean_74 : decode cX5_mean 74 = .ok (.iconst 0, 1) := by decide +kernel
theorem dX5_mean_75 : decode cX5_mean 75 = .ok (.iaload, 1) := by decide +kernel
theorem dX5_mean_76 : decode cX5_mean 76 = .ok (.invokevirtual 176, 3) := by decide +kernel
theorem dX5_mean_79 : decode cX5_mean 79 = .ok (.sipush 1000, 3) := by decide +kernel
theorem dX5_mean_82 : decode cX5_mean 82 = .ok (.iadd, 1) := by decide +kernel
theorem dX5_mean_83 : decode cX5_mean 83 = .ok (.ireturn, 1) := by decide +kernel
theorem dX5_mean_84 : decode cX5_mean 84 = .ok (.aload 4, 2) := by decide +kernel
theorem dX5_mean_86 : decode cX5_mean 86 = .ok (.iload_n 2, 1) := by decide +kernel
theorem dX5_mean_87 : decode cX5_mean 87 = .ok (.aload_n 0, 1) := by decide +kernel
theorem dX5_mean_88 : decode cX5_mean 88 = .ok (.getfield 31, 3) := by decide +kernel
theorem dX5_mean_91 : decode cX5_mean 91 = .ok (.getfield 122, 3) := by decide +kernel
theorem dX5_mean_94 : decode cX5_mean 94 = .ok (.iconst 0, 1) := by decide +kernel
theorem dX5_mean_95 : decode cX5_mean 95 = .ok (.iaload, 1) := by decide +kernel
theorem dX5_mean_96 : decode cX5_mean 96 = .ok (.invokevirtual 180, 3) := by decide +kernel
theorem dX5_mean_99 : decode cX5_mean 99 = .ok (.sipush 1000, 3) := by decide +kernel
theorem dX5_mean_102 : decode cX5_mean 102 = .ok (.iadd, 1) := by decide +kernel
theorem dX5_mean_103 : decode cX5_mean 103 = .ok (.ireturn, 1) := by decide +kernel
theorem dX5_mean_104 : decode cX5_mean 104 = .ok (.bipush (-2), 2) := by decide +kernel
theorem dX5_mean_106 : decode cX5_mean 106 = .ok (.ireturn, 1) := by decide +kernel
theorem dX5_saintOf_0 : decode cX5_saintOf 0 = .ok (.iload_n 1, 1) := by decide +kernel
theorem dX5_saintOf_1 : decode cX5_saintOf 1 = .ok (.aload_n 0, 1) := by decide +kernel
theorem dX5_saintOf_2 : decode cX5_saintOf 2 = .ok (.getfield 31, 3) := by decide +kernel
theorem dX5_saintOf_5 : decode cX5_saintOf 5 = .ok (.getfield 91, 3) := by decide +kernel
theorem dX5_saintOf_8 : decode cX5_saintOf 8 = .ok (.invokestatic 76, 3) := by decide +kernel
theorem dX5_saintOf_11 : decode cX5_saintOf 11 = .ok (.ifCond .ne 5, 3) := by decide +kernel
theorem dX5_saintOf_14 : decode cX5_saintOf 14 = .ok (.iconst (-1), 1) := by decide +kernel
theorem dX5_saintOf_15 : decode cX5_saintOf 15 = .ok (.ireturn, 1) := by decide +kernel
theorem dX5_saintOf_16 : decode cX5_saintOf 16 = .ok (.aload_n 0, 1) := by decide +kernel
theorem dX5_saintOf_17 : decode cX5_saintOf 17 = .ok (.getfield 31, 3) := by decide +kernel
theorem dX5_saintOf_20 : decode cX5_saintOf 20 = .ok (.getfield 94, 3) := by decide +kernel
theorem dX5_saintOf_23 : decode cX5_saintOf 23 = .ok (.iload_n 1, 1) := by decide +kernel
theorem dX5_saintOf_24 : decode cX5_saintOf 24 = .ok (.aaload, 1) := by decide +kernel
theorem dX5_saintOf_25 : decode cX5_saintOf 25 = .ok (.astore_n 3, 1) := by decide +kernel
theorem dX5_saintOf_26 : decode cX5_saintOf 26 = .ok (.iload_n 2, 1) := by decide +kernel
theorem dX5_saintOf_27 : decode cX5_saintOf 27 = .ok (.tableswitch 73 0 4 #[33, 38, 47, 56, 61], 33) := by decide +kernel
theorem dX5_saintOf_60 : decode cX5_saintOf 60 = .ok (.aload_n 3, 1) := by decide +kernel
theorem dX5_saintOf_61 : decode cX5_saintOf 61 = .ok (.getfield 98, 3) := by decide +kernel
theorem dX5_saintOf_64 : decode cX5_saintOf 64 = .ok (.ireturn, 1) := by decide +kernel
theorem dX5_saintOf_65 : decode cX5_saintOf 65 = .ok (.aload_n 3, 1) := by decide +kernel
theorem dX5_saintOf_66 : decode cX5_saintOf 66 = .ok (.getfield 103, 3) := by decide +kernel
theorem dX5_saintOf_69 : decode cX5_saintOf 69 = .ok (.sipush 1000, 3) := by decide +kernel
theorem dX5_saintOf_72 : decode cX5_saintOf 72 = .ok (.iadd, 1) := by decide +kernel
theorem dX5_saintOf_73 : decode cX5_saintOf 73 = .ok (.ireturn, 1) := by decide +kernel
theorem dX5_saintOf_74 : decode cX5_saintOf 74 = .ok (.aload_n 3, 1) := by decide +kernel
theorem dX5_saintOf_75 : decode cX5_saintOf 75 = .ok (.getfield 106, 3) := by decide +kernel
theorem dX5_saintOf_78 : decode cX5_saintOf 78 = .ok (.sipush 1000, 3) := by decide +kernel
theorem dX5_saintOf_81 : decode cX5_saintOf 81 = .ok (.iadd, 1) := by decide +kernel
theorem dX5_saintOf_82 : decode cX5_saintOf 82 = .ok (.ireturn, 1) := by decide +kernel
theorem dX5_saintOf_83 : decode cX5_saintOf 83 = .ok (.aload_n 3, 1) := by decide +kernel
theorem dX5_saintOf_84 : decode cX5_saintOf 84 = .ok (.getfield 109, 3) := by decide +kernel
theorem dX5_saintOf_87 : decode cX5_saintOf 87 = .ok (.ireturn, 1) := by decide +kernel
theorem dX5_saintOf_88 : decode cX5_saintOf 88 = .ok (.aload_n 0, 1) := by decide +kernel
theorem dX5_saintOf_89 : decode cX5_saintOf 89 = .ok (.getfield 31, 3) := by decide +kernel
theorem dX5_saintOf_92 : decode cX5_saintOf 92 = .ok (.aload_n 3, 1) := by decide +kernel
theorem dX5_saintOf_93 : decode cX5_saintOf 93 = .ok (.invokevirtual 183, 3) := by decide +kernel
theorem dX5_saintOf_96 : decode cX5_saintOf 96 = .ok (.invokestatic 165, 3) := by decide +kernel
theorem dX5_saintOf_99 : decode cX5_saintOf 99 = .ok (.ireturn, 1) := by decide +kernel
theorem dX5_saintOf_100 : decode cX5_saintOf 100 = .ok (.bipush (-2), 2) := by decide +kernel
theorem dX5_saintOf_102 : decode cX5_saintOf 102 = .ok (.ireturn, 1) := by decide +kernel
theorem dX5_readerOf_0 : decode cX5_readerOf 0 = .ok (.iload_n 1, 1) := by decide +kernel
theorem dX5_readerOf_1 : decode cX5_readerOf 1 = .ok (.iconst 4, 1) := by decide +kernel
theorem dX5_readerOf_2 : decode cX5_readerOf 2 = .ok (.invokestatic 76, 3) := by decide +kernel
theorem dX5_readerOf_5 : decode cX5_readerOf 5 = .ok (.ifCond .ne 5, 3) := by decide +kernel
theorem dX5_readerOf_8 : decode cX5_readerOf 8 = .ok (.iconst (-1), 1) := by decide +kernel
theorem dX5_readerOf_9 : decode cX5_readerOf 9 = .ok (.ireturn, 1) := by decide +kernel
theorem dX5_readerOf_10 : decode cX5_readerOf 10 = .ok (.aload_n 0, 1) := by decide +kernel
theorem dX5_readerOf_11 : decode cX5_readerOf 11 = .ok (.getfield 31, 3) := by decide +kernel
theorem dX5_readerOf_14 : decode cX5_readerOf 14 = .ok (.getfield 125, 3) := by decide +kernel
theorem dX5_readerOf_17 : decode cX5_readerOf 17 = .ok (.iload_n 1, 1) := by decide +kernel
theorem dX5_readerOf_18 : decode cX5_readerOf 18 = .ok (.aaload, 1) := by decide +kernel
theorem dX5_readerOf_19 : decode cX5_readerOf 19 = .ok (.astore_n 3, 1) := by decide +kernel
theorem dX5_readerOf_20 : decode cX5_readerOf 20 = .ok (.iload_n 2, 1) := by decide +kernel
theorem dX5_readerOf_21 : decode cX5_readerOf 21 = .ok (.tableswitch 63 0 4 #[35, 40, 45, 53, 58], 35) := by decide +kernel
theorem dX5_readerOf_56 : decode cX5_readerOf 56 = .ok (.aload_n 3, 1) := by decide +kernel
theorem dX5_readerOf_57 : decode cX5_readerOf 57 = .ok (.getfield 134, 3) := by decide +kernel
theorem dX5_readerOf_60 : decode cX5_readerOf 60 = .ok (.ireturn, 1) := by decide +kernel
theorem dX5_readerOf_61 : decode cX5_readerOf 61 = .ok (.aload_n 3, 1) := by decide +kernel
theorem dX5_readerOf_62 : decode cX5_readerOf 62 = .ok (.getfield 129, 3) := by decide +kernel
theorem dX5_readerOf_65 : decode cX5_readerOf 65 = .ok (.ireturn, 1) := by decide +kernel
theorem dX5_readerOf_66 : decode cX5_readerOf 66 = .ok (.aload_n 3, 1) := by decide +kernel
theorem dX5_readerOf_67 : decode cX5_readerOf 67 = .ok (.getfield 137, 3) := by decide +kernel
theorem dX5_readerOf_70 : decode cX5_readerOf 70 = .ok (.invokestatic 165, 3) := by decide +kernel
theorem dX5_readerOf_73 : decode cX5_readerOf 73 = .ok (.ireturn, 1) := by decide +kernel
theorem dX5_readerOf_74 : decode cX5_readerOf 74 = .ok (.aload_n 3, 1) := by decide +kernel
theorem dX5_readerOf_75 : decode cX5_readerOf 75 = .ok (.getfield 187, 3) := by decide +kernel
theorem dX5_readerOf_78 : decode cX5_readerOf 78 = .ok (.ireturn, 1) := by decide +kernel
theorem dX5_readerOf_79 : decode cX5_readerOf 79 = .ok (.aload_n 3, 1) := by decide +kernel
theorem dX5_readerOf_80 : decode cX5_readerOf 80 = .ok (.getfield 190, 3) := by decide +kernel
theorem dX5_readerOf_83 : decode cX5_readerOf 83 = .ok (.ireturn, 1) := by decide +kernel
theorem dX5_readerOf_84 : decode cX5_readerOf 84 = .ok (.bipush (-2), 2) := by decide +kernel
theorem dX5_readerOf_86 : decode cX5_readerOf 86 = .ok (.ireturn, 1) := by decide +kernel
theorem dX5_count_0 : decode cX5_count 0 = .ok (.iload_n 1, 1) := by decide +kernel
theorem dX5_count_1 : decode cX5_count 1 = .ok (.tableswitch 253 0 15 #[79, 87, 95, 103, 111, 119, 127, 135, 146, 173, 184, 189, 197, 211, 225, 239], 79) := by decide +kernel
theorem dX5_count_80 : decode cX5_count 80 = .ok (.aload_n 0, 1) := by decide +kernel
theorem dX5_count_81 : decode cX5_count 81 = .ok (.getfield 31, 3) := by decide +kernel
theorem dX5_count_84 : decode cX5_count 84 = .ok (.getfield 193, 3) := by decide +kernel
theorem dX5_count_87 : decode cX5_count 87 = .ok (.ireturn, 1) := by decide +kernel
theorem dX5_count_88 : decode cX5_count 88 = .ok (.aload_n 0, 1) := by decide +kernel
theorem dX5_count_89 : decode cX5_count 89 = .ok (.getfield 31, 3) := by decide +kernel
theorem dX5_count_92 : decode cX5_count 92 = .ok (.getfield 79, 3) := by decide +kernel
theorem dX5_count_95 : decode cX5_count 95 = .ok (.ireturn, 1) := by decide +kernel
theorem dX5_count_96 : decode cX5_count 96 = .ok (.aload_n 0, 1) := by decide +kernel
theorem dX5_count_97 : decode cX5_count 97 = .ok (.getfield 31, 3) := by decide +kernel
theorem dX5_count_100 : decode cX5_count 100 = .ok (.invokevirtual 169, 3) := by decide +kernel
theorem dX5_count_103 : decode cX5_count 103 = .ok (.ireturn, 1) := by decide +kernel
theorem dX5_count_104 : decode cX5_count 104 = .ok (.aload_n 0, 1) := by decide +kernel
theorem dX5_count_105 : decode cX5_count 105 = .ok (.getfield 31, 3) := by decide +kernel
theorem dX5_count_108 : decode cX5_count 108 = .ok (.getfield 91, 3) := by decide +kernel
theorem dX5_count_111 : decode cX5_count 111 = .ok (.ireturn, 1) := by decide +kernel
theorem dX5_count_112 : decode cX5_count 112 = .ok (.aload_n 0, 1) := by decide +kernel
theorem dX5_count_113 : decode cX5_count 113 = .ok (.getfield 31, 3) := by decide +kernel
theorem dX5_count_116 : decode cX5_count 116 = .ok (.getfield 196, 3) := by decide +kernel
theorem dX5_count_119 : decode cX5_count 119 = .ok (.ireturn, 1) := by decide +kernel
theorem dX5_count_120 : decode cX5_count 120 = .ok (.aload_n 0, 1) := by decide +kernel
theorem dX5_count_121 : decode cX5_count 121 = .ok (.getfield 31, 3) := by decide +kernel
theorem dX5_count_124 : decode cX5_count 124 = .ok (.getfield 199, 3) := by decide +kernel
theorem dX5_count_127 : decode cX5_count 127 = .ok (.ireturn, 1) := by decide +kernel
theorem dX5_count_128 : decode cX5_count 128 = .ok (.aload_n 0, 1) := by decide +kernel
theorem dX5_count_129 : decode cX5_count 129 = .ok (.getfield 31, 3) := by decide +kernel
theorem dX5_count_132 : decode cX5_count 132 = .ok (.getfield 202, 3) := by decide +kernel
theorem dX5_count_135 : decode cX5_count 135 = .ok (.ireturn, 1) := by decide +kernel
theorem dX5_count_136 : decode cX5_count 136 = .ok (.aload_n 0, 1) := by decide +kernel
theorem dX5_count_137 : decode cX5_count 137 = .ok (.getfield 31, 3) := by decide +kernel
theorem dX5_count_140 : decode cX5_count 140 = .ok (.invokevirtual 82, 3) := by decide +kernel
theorem dX5_count_143 : decode cX5_count 143 = .ok (.getfield 205, 3) := by decide +kernel
theorem dX5_count_146 : decode cX5_count 146 = .ok (.ireturn, 1) := by decide +kernel
theorem dX5_count_147 : decode cX5_count 147 = .ok (.aload_n 0, 1) := by decide +kernel
theorem dX5_count_148 : decode cX5_count 148 = .ok (.getfield 31, 3) := by decide +kernel
theorem dX5_count_151 : decode cX5_count 151 = .ok (.invokevirtual 169, 3) := by decide +kernel
theorem dX5_count_154 : decode cX5_count 154 = .ok (.ifCond .le 17, 3) := by decide +kernel
theorem dX5_count_157 : decode cX5_count 157 = .ok (.aload_n 0, 1) := by decide +kernel
theorem dX5_count_158 : decode cX5_count 158 = .ok (.getfield 31, 3) := by decide +kernel
theorem dX5_count_161 : decode cX5_count 161 = .ok (.iconst 0, 1) := by decide +kernel
theorem dX5_count_162 : decode cX5_count 162 = .ok (.invokevirtual 172, 3) := by decide +kernel
theorem dX5_count_165 : decode cX5_count 165 = .ok (.getfield 205, 3) := by decide +kernel
theorem dX5_count_168 : decode cX5_count 168 = .ok (.goto 5, 3) := by decide +kernel
theorem dX5_count_171 : decode cX5_count 171 = .ok (.bipush (-5), 2) := by decide +kernel
theorem dX5_count_173 : decode cX5_count 173 = .ok (.ireturn, 1) := by decide +kernel
theorem dX5_count_174 : decode cX5_count 174 = .ok (.aload_n 0, 1) := by decide +kernel
theorem dX5_count_175 : decode cX5_count 175 = .ok (.getfield 31, 3) := by decide +kernel
theorem dX5_count_178 : decode cX5_count 178 = .ok (.getfield 208, 3) := by decide +kernel
theorem dX5_count_181 : decode cX5_count 181 = .ok (.ldc 209, 2) := by decide +kernel
theorem dX5_count_183 : decode cX5_count 183 = .ok (.iadd, 1) := by decide +kernel
theorem dX5_count_184 : decode cX5_count 184 = .ok (.ireturn, 1) := by decide +kernel
theorem dX5_count_185 : decode cX5_count 185 = .ok (.aload_n 0, 1) := by decide +kernel
theorem dX5_count_186 : decode cX5_count 186 = .ok (.getfield 34, 3) := by decide +kernel
theorem dX5_count_189 : decode cX5_count 189 = .ok (.ireturn, 1) := by decide +kernel
theorem dX5_count_190 : decode cX5_count 190 = .ok (.aload_n 0, 1) := by decide +kernel
theorem dX5_count_191 : decode cX5_count 191 = .ok (.getfield 12, 3) := by decide +kernel
theorem dX5_count_194 : decode cX5_count 194 = .ok (.getfield 143, 3) := by decide +kernel
theorem dX5_count_197 : decode cX5_count 197 = .ok (.ireturn, 1) := by decide +kernel
theorem dX5_count_198 : decode cX5_count 198 = .ok (.aload_n 0, 1) := by decide +kernel
theorem dX5_count_199 : decode cX5_count 199 = .ok (.getfield 31, 3) := by decide +kernel
theorem dX5_count_202 : decode cX5_count 202 = .ok (.getfield 122, 3) := by decide +kernel
theorem dX5_count_205 : decode cX5_count 205 = .ok (.iconst 0, 1) := by decide +kernel
theorem dX5_count_206 : decode cX5_count 206 = .ok (.iaload, 1) := by decide +kernel
theorem dX5_count_207 : decode cX5_count 207 = .ok (.sipush 1000, 3) := by decide +kernel
theorem dX5_count_210 : decode cX5_count 210 = .ok (.iadd, 1) := by decide +kernel
theorem dX5_count_211 : decode cX5_count 211 = .ok (.ireturn, 1) := by decide +kernel
theorem dX5_count_212 : decode cX5_count 212 = .ok (.aload_n 0, 1) := by decide +kernel
theorem dX5_count_213 : decode cX5_count 213 = .ok (.getfield 31, 3) := by decide +kernel
theorem dX5_count_216 : decode cX5_count 216 = .ok (.getfield 122, 3) := by decide +kernel
theorem dX5_count_219 : decode cX5_count 219 = .ok (.iconst 1, 1) := by decide +kernel
theorem dX5_count_220 : decode cX5_count 220 = .ok (.iaload, 1) := by decide +kernel
theorem dX5_count_221 : decode cX5_count 221 = .ok (.sipush 1000, 3) := by decide +kernel
theorem dX5_count_224 : decode cX5_count 224 = .ok (.iadd, 1) := by decide +kernel
theorem dX5_count_225 : decode cX5_count 225 = .ok (.ireturn, 1) := by decide +kernel
theorem dX5_count_226 : decode cX5_count 226 = .ok (.aload_n 0, 1) := by decide +kernel
theorem dX5_count_227 : decode cX5_count 227 = .ok (.getfield 31, 3) := by decide +kernel
theorem dX5_count_230 : decode cX5_count 230 = .ok (.getfield 122, 3) := by decide +kernel
theorem dX5_count_233 : decode cX5_count 233 = .ok (.iconst 2, 1) := by decide +kernel
theorem dX5_count_234 : decode cX5_count 234 = .ok (.iaload, 1) := by decide +kernel
theorem dX5_count_235 : decode cX5_count 235 = .ok (.sipush 1000, 3) := by decide +kernel
theorem dX5_count_238 : decode cX5_count 238 = .ok (.iadd, 1) := by decide +kernel
theorem dX5_count_239 : decode cX5_count 239 = .ok (.ireturn, 1) := by decide +kernel
theorem dX5_count_240 : decode cX5_count 240 = .ok (.aload_n 0, 1) := by decide +kernel
theorem dX5_count_241 : decode cX5_count 241 = .ok (.getfield 31, 3) := by decide +kernel
theorem dX5_count_244 : decode cX5_count 244 = .ok (.getfield 122, 3) := by decide +kernel
theorem dX5_count_247 : decode cX5_count 247 = .ok (.iconst 3, 1) := by decide +kernel
theorem dX5_count_248 : decode cX5_count 248 = .ok (.iaload, 1) := by decide +kernel
theorem dX5_count_249 : decode cX5_count 249 = .ok (.sipush 1000, 3) := by decide +kernel
theorem dX5_count_252 : decode cX5_count 252 = .ok (.iadd, 1) := by decide +kernel
theorem dX5_count_253 : decode cX5_count 253 = .ok (.ireturn, 1) := by decide +kernel
theorem dX5_count_254 : decode cX5_count 254 = .ok (.bipush (-2), 2) := by decide +kernel
theorem dX5_count_256 : decode cX5_count 256 = .ok (.ireturn, 1) := by decide +kernel
theorem dX5_meanMistake_0 : decode cX5_meanMistake 0 = .ok (.aload_n 0, 1) := by decide +kernel
theorem dX5_meanMistake_1 : decode cX5_meanMistake 1 = .ok (.getfield 31, 3) := by decide +kernel
theorem dX5_meanMistake_4 : decode cX5_meanMistake 4 = .ok (.getfield 57, 3) := by decide +kernel
theorem dX5_meanMistake_7 : decode cX5_meanMistake 7 = .ok (.ifCond .ne 5, 3) := by decide +kernel
theorem dX5_meanMistake_10 : decode cX5_meanMistake 10 = .ok (.fconst 0, 1) := by decide +kernel
theorem dX5_meanMistake_11 : decode cX5_meanMistake 11 = .ok (.freturn, 1) := by decide +kernel
theorem dX5_meanMistake_12 : decode cX5_meanMistake 12 = .ok (.aload_n 0, 1) := by decide +kernel
theorem dX5_meanMistake_13 : decode cX5_meanMistake 13 = .ok (.getfield 31, 3) := by decide +kernel
theorem dX5_meanMistake_16 : decode cX5_meanMistake 16 = .ok (.getfield 210, 3) := by decide +kernel
theorem dX5_meanMistake_19 : decode cX5_meanMistake 19 = .ok (.i2f, 1) := by decide +kernel
theorem dX5_meanMistake_20 : decode cX5_meanMistake 20 = .ok (.aload_n 0, 1) := by decide +kernel
theorem dX5_meanMistake_21 : decode cX5_meanMistake 21 = .ok (.getfield 31, 3) := by decide +kernel
theorem dX5_meanMistake_24 : decode cX5_meanMistake 24 = .ok (.getfield 57, 3) := by decide +kernel
theorem dX5_meanMistake_27 : decode cX5_meanMistake 27 = .ok (.i2f, 1) := by decide +kernel
theorem dX5_meanMistake_28 : decode cX5_meanMistake 28 = .ok (.fdiv, 1) := by decide +kernel
theorem dX5_meanMistake_29 : decode cX5_meanMistake 29 = .ok (.freturn, 1) := by decide +kernel
theorem dX5_nextBase_0 : decode cX5_nextBase 0 = .ok (.iload_n 1, 1) := by decide +kernel
theorem dX5_nextBase_1 : decode cX5_nextBase 1 = .ok (.bipush 20, 2) := by decide +kernel
theorem dX5_nextBase_3 : decode cX5_nextBase 3 = .ok (.invokestatic 76, 3) := by decide +kernel
theorem dX5_nextBase_6 : decode cX5_nextBase 6 = .ok (.ifCond .ne 5, 3) := by decide +kernel
theorem dX5_nextBase_9 : decode cX5_nextBase 9 = .ok (.iconst (-1), 1) := by decide +kernel
theorem dX5_nextBase_10 : decode cX5_nextBase 10 = .ok (.ireturn, 1) := by decide +kernel
theorem dX5_nextBase_11 : decode cX5_nextBase 11 = .ok (.aload_n 0, 1) := by decide +kernel
theorem dX5_nextBase_12 : decode cX5_nextBase 12 = .ok (.getfield 31, 3) := by decide +kernel
theorem dX5_nextBase_15 : decode cX5_nextBase 15 = .ok (.invokevirtual 82, 3) := by decide +kernel
theorem dX5_nextBase_18 : decode cX5_nextBase 18 = .ok (.astore_n 2, 1) := by decide +kernel
theorem dX5_nextBase_19 : decode cX5_nextBase 19 = .ok (.aload_n 2, 1) := by decide +kernel
theorem dX5_nextBase_20 : decode cX5_nextBase 20 = .ok (.iload_n 1, 1) := by decide +kernel
theorem dX5_nextBase_21 : decode cX5_nextBase 21 = .ok (.aload_n 0, 1) := by decide +kernel
theorem dX5_nextBase_22 : decode cX5_nextBase 22 = .ok (.getfield 31, 3) := by decide +kernel
theorem dX5_nextBase_25 : decode cX5_nextBase 25 = .ok (.getfield 122, 3) := by decide +kernel
theorem dX5_nextBase_28 : decode cX5_nextBase 28 = .ok (.iconst 0, 1) := by decide +kernel
theorem dX5_nextBase_29 : decode cX5_nextBase 29 = .ok (.iaload, 1) := by decide +kernel
theorem dX5_nextBase_30 : decode cX5_nextBase 30 = .ok (.invokevirtual 176, 3) := by decide +kernel
theorem dX5_nextBase_33 : decode cX5_nextBase 33 = .ok (.istore_n 3, 1) := by decide +kernel
theorem dX5_nextBase_34 : decode cX5_nextBase 34 = .ok (.aload_n 2, 1) := by decide +kernel
theorem dX5_nextBase_35 : decode cX5_nextBase 35 = .ok (.getfield 86, 3) := by decide +kernel
theorem dX5_nextBase_38 : decode cX5_nextBase 38 = .ok (.iload_n 1, 1) := by decide +kernel
theorem dX5_nextBase_39 : decode cX5_nextBase 39 = .ok (.iaload, 1) := by decide +kernel
theorem dX5_nextBase_40 : decode cX5_nextBase 40 = .ok (.iload_n 3, 1) := by decide +kernel
theorem dX5_nextBase_41 : decode cX5_nextBase 41 = .ok (.aload_n 0, 1) := by decide +kernel
theorem dX5_nextBase_42 : decode cX5_nextBase 42 = .ok (.getfield 31, 3) := by decide +kernel
theorem dX5_nextBase_45 : decode cX5_nextBase 45 = .ok (.getfield 122, 3) := by decide +kernel
theorem dX5_nextBase_48 : decode cX5_nextBase 48 = .ok (.iconst 1, 1) := by decide +kernel
theorem dX5_nextBase_49 : decode cX5_nextBase 49 = .ok (.iaload, 1) := by decide +kernel
theorem dX5_nextBase_50 : decode cX5_nextBase 50 = .ok (.invokestatic 211, 3) := by decide +kernel
theorem dX5_nextBase_53 : decode cX5_nextBase 53 = .ok (.sipush 1000, 3) := by decide +kernel
theorem dX5_nextBase_56 : decode cX5_nextBase 56 = .ok (.iadd, 1) := by decide +kernel
theorem dX5_nextBase_57 : decode cX5_nextBase 57 = .ok (.ireturn, 1) := by decide +kernel
theorem dX5_bestBound_0 : decode cX5_bestBound 0 = .ok (.iload_n 1, 1) := by decide +kernel
theorem dX5_bestBound_1 : decode cX5_bestBound 1 = .ok (.ifCond .eq 11, 3) := by decide +kernel
theorem dX5_bestBound_4 : decode cX5_bestBound 4 = .ok (.iload_n 1, 1) := by decide +kernel
theorem dX5_bestBound_5 : decode cX5_bestBound 5 = .ok (.iconst 1, 1) := by decide +kernel
theorem dX5_bestBound_6 : decode cX5_bestBound 6 = .ok (.if_icmp .eq 6, 3) := by decide +kernel
theorem dX5_bestBound_9 : decode cX5_bestBound 9 = .ok (.bipush (-2), 2) := by decide +kernel
theorem dX5_bestBound_11 : decode cX5_bestBound 11 = .ok (.ireturn, 1) := by decide +kernel
theorem dX5_bestBound_12 : decode cX5_bestBound 12 = .ok (.aload_n 0, 1) := by decide +kernel
theorem dX5_bestBound_13 : decode cX5_bestBound 13 = .ok (.getfield 31, 3) := by decide +kernel
theorem dX5_bestBound_16 : decode cX5_bestBound 16 = .ok (.invokevirtual 169, 3) := by decide +kernel
theorem dX5_bestBound_19 : decode cX5_bestBound 19 = .ok (.ifCond .ne 6, 3) := by decide +kernel
theorem dX5_bestBound_22 : decode cX5_bestBound 22 = .ok (.bipush (-5), 2) := by decide +kernel
theorem dX5_bestBound_24 : decode cX5_bestBound 24 = .ok (.ireturn, 1) := by decide +kernel
theorem dX5_bestBound_25 : decode cX5_bestBound 25 = .ok (.aload_n 0, 1) := by decide +kernel
theorem dX5_bestBound_26 : decode cX5_bestBound 26 = .ok (.getfield 31, 3) := by decide +kernel
theorem dX5_bestBound_29 : decode cX5_bestBound 29 = .ok (.iconst 0, 1) := by decide +kernel
theorem dX5_bestBound_30 : decode cX5_bestBound 30 = .ok (.invokevirtual 172, 3) := by decide +kernel
theorem dX5_bestBound_33 : decode cX5_bestBound 33 = .ok (.astore_n 2, 1) := by decide +kernel
theorem dX5_bestBound_34 : decode cX5_bestBound 34 = .ok (.iconst 0, 1) := by decide +kernel
theorem dX5_bestBound_35 : decode cX5_bestBound 35 = .ok (.istore_n 3, 1) := by decide +kernel
theorem dX5_bestBound_36 : decode cX5_bestBound 36 = .ok (.aload_n 2, 1) := by decide +kernel
theorem dX5_bestBound_37 : decode cX5_bestBound 37 = .ok (.iconst 0, 1) := by decide +kernel
theorem dX5_bestBound_38 : decode cX5_bestBound 38 = .ok (.invokevirtual 215, 3) := by decide +kernel
theorem dX5_bestBound_41 : decode cX5_bestBound 41 = .ok (.istore 4, 2) := by decide +kernel
theorem dX5_bestBound_43 : decode cX5_bestBound 43 = .ok (.iconst 1, 1) := by decide +kernel
theorem dX5_bestBound_44 : decode cX5_bestBound 44 = .ok (.istore 5, 2) := by decide +kernel
theorem dX5_bestBound_46 : decode cX5_bestBound 46 = .ok (.iload 5, 2) := by decide +kernel
theorem dX5_bestBound_48 : decode cX5_bestBound 48 = .ok (.bipush 20, 2) := by decide +kernel
theorem dX5_bestBound_50 : decode cX5_bestBound 50 = .ok (.if_icmp .gt 55, 3) := by decide +kernel
theorem dX5_bestBound_53 : decode cX5_bestBound 53 = .ok (.aload_n 2, 1) := by decide +kernel
theorem dX5_bestBound_54 : decode cX5_bestBound 54 = .ok (.iload 5, 2) := by decide +kernel
theorem dX5_bestBound_56 : decode cX5_bestBound 56 = .ok (.ineg, 1) := by decide +kernel
theorem dX5_bestBound_57 : decode cX5_bestBound 57 = .ok (.invokevirtual 215, 3) := by decide +kernel
theorem dX5_bestBound_60 : decode cX5_bestBound 60 = .ok (.istore 6, 2) := by decide +kernel
theorem dX5_bestBound_62 : decode cX5_bestBound 62 = .ok (.iload 6, 2) := by decide +kernel
theorem dX5_bestBound_64 : decode cX5_bestBound 64 = .ok (.iload 4, 2) := by decide +kernel
theorem dX5_bestBound_66 : decode cX5_bestBound 66 = .ok (.if_icmp .ge 11, 3) := by decide +kernel
theorem dX5_bestBound_69 : decode cX5_bestBound 69 = .ok (.iload 6, 2) := by decide +kernel
theorem dX5_bestBound_71 : decode cX5_bestBound 71 = .ok (.istore 4, 2) := by decide +kernel
theorem dX5_bestBound_73 : decode cX5_bestBound 73 = .ok (.iload 5, 2) := by decide +kernel
theorem dX5_bestBound_75 : decode cX5_bestBound 75 = .ok (.ineg, 1) := by decide +kernel
theorem dX5_bestBound_76 : decode cX5_bestBound 76 = .ok (.istore_n 3, 1) := by decide +kernel
theorem dX5_bestBound_77 : decode cX5_bestBound 77 = .ok (.aload_n 2, 1) := by decide +kernel
theorem dX5_bestBound_78 : decode cX5_bestBound 78 = .ok (.iload 5, 2) := by decide +kernel
theorem dX5_bestBound_80 : decode cX5_bestBound 80 = .ok (.invokevirtual 215, 3) := by decide +kernel
theorem dX5_bestBound_83 : decode cX5_bestBound 83 = .ok (.istore 7, 2) := by decide +kernel
theorem dX5_bestBound_85 : decode cX5_bestBound 85 = .ok (.iload 7, 2) := by decide +kernel
theorem dX5_bestBound_87 : decode cX5_bestBound 87 = .ok (.iload 4, 2) := by decide +kernel
theorem dX5_bestBound_89 : decode cX5_bestBound 89 = .ok (.if_icmp .ge 10, 3) := by decide +kernel
theorem dX5_bestBound_92 : decode cX5_bestBound 92 = .ok (.iload 7, 2) := by decide +kernel
theorem dX5_bestBound_94 : decode cX5_bestBound 94 = .ok (.istore 4, 2) := by decide +kernel
theorem dX5_bestBound_96 : decode cX5_bestBound 96 = .ok (.iload 5, 2) := by decide +kernel
theorem dX5_bestBound_98 : decode cX5_bestBound 98 = .ok (.istore_n 3, 1) := by decide +kernel
theorem dX5_bestBound_99 : decode cX5_bestBound 99 = .ok (.iinc 5 1, 3) := by decide +kernel
theorem dX5_bestBound_102 : decode cX5_bestBound 102 = .ok (.goto (-56), 3) := by decide +kernel
theorem dX5_bestBound_105 : decode cX5_bestBound 105 = .ok (.iload_n 1, 1) := by decide +kernel
theorem dX5_bestBound_106 : decode cX5_bestBound 106 = .ok (.ifCond .ne 11, 3) := by decide +kernel
theorem dX5_bestBound_109 : decode cX5_bestBound 109 = .ok (.iload_n 3, 1) := by decide +kernel
theorem dX5_bestBound_110 : decode cX5_bestBound 110 = .ok (.sipush 1000, 3) := by decide +kernel
theorem dX5_bestBound_113 : decode cX5_bestBound 113 = .ok (.iadd, 1) := by decide +kernel
theorem dX5_bestBound_114 : decode cX5_bestBound 114 = .ok (.goto 5, 3) := by decide +kernel
theorem dX5_bestBound_117 : decode cX5_bestBound 117 = .ok (.iload 4, 2) := by decide +kernel
theorem dX5_bestBound_119 : decode cX5_bestBound 119 = .ok (.ireturn, 1) := by decide +kernel
theorem dX5_bestRate_0 : decode cX5_bestRate 0 = .ok (.iload_n 1, 1) := by decide +kernel
theorem dX5_bestRate_1 : decode cX5_bestRate 1 = .ok (.ifCond .eq 11, 3) := by decide +kernel
theorem dX5_bestRate_4 : decode cX5_bestRate 4 = .ok (.iload_n 1, 1) := by decide +kernel
theorem dX5_bestRate_5 : decode cX5_bestRate 5 = .ok (.iconst 1, 1) := by decide +kernel
theorem dX5_bestRate_6 : decode cX5_bestRate 6 = .ok (.if_icmp .eq 6, 3) := by decide +kernel
theorem dX5_bestRate_9 : decode cX5_bestRate 9 = .ok (.bipush (-2), 2) := by decide +kernel
theorem dX5_bestRate_11 : decode cX5_bestRate 11 = .ok (.ireturn, 1) := by decide +kernel
theorem dX5_bestRate_12 : decode cX5_bestRate 12 = .ok (.aload_n 0, 1) := by decide +kernel
theorem dX5_bestRate_13 : decode cX5_bestRate 13 = .ok (.getfield 31, 3) := by decide +kernel
theorem dX5_bestRate_16 : decode cX5_bestRate 16 = .ok (.invokevirtual 169, 3) := by decide +kernel
theorem dX5_bestRate_19 : decode cX5_bestRate 19 = .ok (.iconst 2, 1) := by decide +kernel
theorem dX5_bestRate_20 : decode cX5_bestRate 20 = .ok (.if_icmp .ge 6, 3) := by decide +kernel
theorem dX5_bestRate_23 : decode cX5_bestRate 23 = .ok (.bipush (-5), 2) := by decide +kernel
theorem dX5_bestRate_25 : decode cX5_bestRate 25 = .ok (.ireturn, 1) := by decide +kernel
theorem dX5_bestRate_26 : decode cX5_bestRate 26 = .ok (.aload_n 0, 1) := by decide +kernel
theorem dX5_bestRate_27 : decode cX5_bestRate 27 = .ok (.getfield 31, 3) := by decide +kernel
theorem dX5_bestRate_30 : decode cX5_bestRate 30 = .ok (.iconst 1, 1) := by decide +kernel
theorem dX5_bestRate_31 : decode cX5_bestRate 31 = .ok (.invokevirtual 172, 3) := by decide +kernel
theorem dX5_bestRate_34 : decode cX5_bestRate 34 = .ok (.astore_n 2, 1) := by decide +kernel
theorem dX5_bestRate_35 : decode cX5_bestRate 35 = .ok (.aload_n 0, 1) := by decide +kernel
theorem dX5_bestRate_36 : decode cX5_bestRate 36 = .ok (.getfield 31, 3) := by decide +kernel
theorem dX5_bestRate_39 : decode cX5_bestRate 39 = .ok (.iconst 0, 1) := by decide +kernel
theorem dX5_bestRate_40 : decode cX5_bestRate 40 = .ok (.invokevirtual 172, 3) := by decide +kernel
theorem dX5_bestRate_43 : decode cX5_bestRate 43 = .ok (.astore_n 3, 1) := by decide +kernel
theorem dX5_bestRate_44 : decode cX5_bestRate 44 = .ok (.iconst 0, 1) := by decide +kernel
theorem dX5_bestRate_45 : decode cX5_bestRate 45 = .ok (.istore 4, 2) := by decide +kernel
theorem dX5_bestRate_47 : decode cX5_bestRate 47 = .ok (.iload 4, 2) := by decide +kernel
theorem dX5_bestRate_49 : decode cX5_bestRate 49 = .ok (.bipush 20, 2) := by decide +kernel
theorem dX5_bestRate_51 : decode cX5_bestRate 51 = .ok (.if_icmp .ge 31, 3) := by decide +kernel
theorem dX5_bestRate_54 : decode cX5_bestRate 54 = .ok (.aload_n 0, 1) := by decide +kernel
theorem dX5_bestRate_55 : decode cX5_bestRate 55 = .ok (.getfield 27, 3) := by decide +kernel
theorem dX5_bestRate_58 : decode cX5_bestRate 58 = .ok (.iload 4, 2) := by decide +kernel
theorem dX5_bestRate_60 : decode cX5_bestRate 60 = .ok (.aload_n 2, 1) := by decide +kernel
theorem dX5_bestRate_61 : decode cX5_bestRate 61 = .ok (.iload 4, 2) := by decide +kernel
theorem dX5_bestRate_63 : decode cX5_bestRate 63 = .ok (.aload_n 0, 1) := by decide +kernel
theorem dX5_bestRate_64 : decode cX5_bestRate 64 = .ok (.getfield 31, 3) := by decide +kernel
theorem dX5_bestRate_67 : decode cX5_bestRate 67 = .ok (.getfield 122, 3) := by decide +kernel
theorem dX5_bestRate_70 : decode cX5_bestRate 70 = .ok (.iconst 0, 1) := by decide +kernel
theorem dX5_bestRate_71 : decode cX5_bestRate 71 = .ok (.iaload, 1) := by decide +kernel
theorem dX5_bestRate_72 : decode cX5_bestRate 72 = .ok (.invokevirtual 176, 3) := by decide +kernel
theorem dX5_bestRate_75 : decode cX5_bestRate 75 = .ok (.iastore, 1) := by decide +kernel
theorem dX5_bestRate_76 : decode cX5_bestRate 76 = .ok (.iinc 4 1, 3) := by decide +kernel
theorem dX5_bestRate_79 : decode cX5_bestRate 79 = .ok (.goto (-32), 3) := by decide +kernel
theorem dX5_bestRate_82 : decode cX5_bestRate 82 = .ok (.iconst 0, 1) := by decide +kernel
theorem dX5_bestRate_83 : decode cX5_bestRate 83 = .ok (.istore 4, 2) := by decide +kernel
theorem dX5_bestRate_85 : decode cX5_bestRate 85 = .ok (.aload_n 0, 1) := by decide +kernel
theorem dX5_bestRate_86 : decode cX5_bestRate 86 = .ok (.aload_n 2, 1) := by decide +kernel
theorem dX5_bestRate_87 : decode cX5_bestRate 87 = .ok (.aload_n 3, 1) := by decide +kernel
theorem dX5_bestRate_88 : decode cX5_bestRate 88 = .ok (.iconst 0, 1) := by decide +kernel
theorem dX5_bestRate_89 : decode cX5_bestRate 89 = .ok (.invokevirtual 218, 3) := by decide +kernel
theorem dX5_bestRate_92 : decode cX5_bestRate 92 = .ok (.istore 5, 2) := by decide +kernel
theorem dX5_bestRate_94 : decode cX5_bestRate 94 = .ok (.iconst 1, 1) := by decide +kernel
theorem dX5_bestRate_95 : decode cX5_bestRate 95 = .ok (.istore 6, 2) := by decide +kernel
theorem dX5_bestRate_97 : decode cX5_bestRate 97 = .ok (.iload 6, 2) := by decide +kernel
theorem dX5_bestRate_99 : decode cX5_bestRate 99 = .ok (.bipush 100, 2) := by decide +kernel
theorem dX5_bestRate_101 : decode cX5_bestRate 101 = .ok (.if_icmp .gt 34, 3) := by decide +kernel
theorem dX5_bestRate_104 : decode cX5_bestRate 104 = .ok (.aload_n 0, 1) := by decide +kernel
theorem dX5_bestRate_105 : decode cX5_bestRate 105 = .ok (.aload_n 2, 1) := by decide +kernel
theorem dX5_bestRate_106 : decode cX5_bestRate 106 = .ok (.aload_n 3, 1) := by decide +kernel
theorem dX5_bestRate_107 : decode cX5_bestRate 107 = .ok (.iload 6, 2) := by decide +kernel
theorem dX5_bestRate_109 : decode cX5_bestRate 109 = .ok (.invokevirtual 218, 3) := by decide +kernel
theorem dX5_bestRate_112 : decode cX5_bestRate 112 = .ok (.istore 7, 2) := by decide +kernel
theorem dX5_bestRate_114 : decode cX5_bestRate 114 = .ok (.iload 7, 2) := by decide +kernel
theorem dX5_bestRate_116 : decode cX5_bestRate 116 = .ok (.iload 5, 2) := by decide +kernel
theorem dX5_bestRate_118 : decode cX5_bestRate 118 = .ok (.if_icmp .ge 11, 3) := by decide +kernel
theorem dX5_bestRate_121 : decode cX5_bestRate 121 = .ok (.iload 7, 2) := by decide +kernel
theorem dX5_bestRate_123 : decode cX5_bestRate 123 = .ok (.istore 5, 2) := by decide +kernel
theorem dX5_bestRate_125 : decode cX5_bestRate 125 = .ok (.iload 6, 2) := by decide +kernel
theorem dX5_bestRate_127 : decode cX5_bestRate 127 = .ok (.istore 4, 2) := by decide +kernel
theorem dX5_bestRate_129 : decode cX5_bestRate 129 = .ok (.iinc 6 1, 3) := by decide +kernel
theorem dX5_bestRate_132 : decode cX5_bestRate 132 = .ok (.goto (-35), 3) := by decide +kernel
theorem dX5_bestRate_135 : decode cX5_bestRate 135 = .ok (.iload_n 1, 1) := by decide +kernel
theorem dX5_bestRate_136 : decode cX5_bestRate 136 = .ok (.ifCond .ne 8, 3) := by decide +kernel
theorem dX5_bestRate_139 : decode cX5_bestRate 139 = .ok (.iload 4, 2) := by decide +kernel
theorem dX5_bestRate_141 : decode cX5_bestRate 141 = .ok (.goto 5, 3) := by decide +kernel
theorem dX5_bestRate_144 : decode cX5_bestRate 144 = .ok (.iload 5, 2) := by decide +kernel
theorem dX5_bestRate_146 : decode cX5_bestRate 146 = .ok (.ireturn, 1) := by decide +kernel
theorem dX5_ifMeasured_0 : decode cX5_ifMeasured 0 = .ok (.iload_n 1, 1) := by decide +kernel
theorem dX5_ifMeasured_1 : decode cX5_ifMeasured 1 = .ok (.iconst 4, 1) := by decide +kernel
theorem dX5_ifMeasured_2 : decode cX5_ifMeasured 2 = .ok (.invokestatic 76, 3) := by decide +kernel
theorem dX5_ifMeasured_5 : decode cX5_ifMeasured 5 = .ok (.ifCond .ne 5, 3) := by decide +kernel
theorem dX5_ifMeasured_8 : decode cX5_ifMeasured 8 = .ok (.iconst (-1), 1) := by decide +kernel
theorem dX5_ifMeasured_9 : decode cX5_ifMeasured 9 = .ok (.ireturn, 1) := by decide +kernel
theorem dX5_ifMeasured_10 : decode cX5_ifMeasured 10 = .ok (.iload_n 2, 1) := by decide +kernel
theorem dX5_ifMeasured_11 : decode cX5_ifMeasured 11 = .ok (.bipush 40, 2) := by decide +kernel
theorem dX5_ifMeasured_13 : decode cX5_ifMeasured 13 = .ok (.invokestatic 42, 3) := by decide +kernel
theorem dX5_ifMeasured_16 : decode cX5_ifMeasured 16 = .ok (.ifCond .ne 6, 3) := by decide +kernel
theorem dX5_ifMeasured_19 : decode cX5_ifMeasured 19 = .ok (.bipush (-2), 2) := by decide +kernel
theorem dX5_ifMeasured_21 : decode cX5_ifMeasured 21 = .ok (.ireturn, 1) := by decide +kernel
theorem dX5_ifMeasured_22 : decode cX5_ifMeasured 22 = .ok (.aload_n 0, 1) := by decide +kernel
theorem dX5_ifMeasured_23 : decode cX5_ifMeasured 23 = .ok (.getfield 31, 3) := by decide +kernel
theorem dX5_ifMeasured_26 : decode cX5_ifMeasured 26 = .ok (.getfield 125, 3) := by decide +kernel
theorem dX5_ifMeasured_29 : decode cX5_ifMeasured 29 = .ok (.iload_n 1, 1) := by decide +kernel
theorem dX5_ifMeasured_30 : decode cX5_ifMeasured 30 = .ok (.aaload, 1) := by decide +kernel
theorem dX5_ifMeasured_31 : decode cX5_ifMeasured 31 = .ok (.astore_n 3, 1) := by decide +kernel
theorem dX5_ifMeasured_32 : decode cX5_ifMeasured 32 = .ok (.aload_n 0, 1) := by decide +kernel
theorem dX5_ifMeasured_33 : decode cX5_ifMeasured 33 = .ok (.getfield 31, 3) := by decide +kernel
theorem dX5_ifMeasured_36 : decode cX5_ifMeasured 36 = .ok (.aload_n 0, 1) := by decide +kernel
theorem dX5_ifMeasured_37 : decode cX5_ifMeasured 37 = .ok (.getfield 31, 3) := by decide +kernel
theorem dX5_ifMeasured_40 : decode cX5_ifMeasured 40 = .ok (.aload_n 0, 1) := by decide +kernel
theorem dX5_ifMeasured_41 : decode cX5_ifMeasured 41 = .ok (.getfield 31, 3) := by decide +kernel
theorem dX5_ifMeasured_44 : decode cX5_ifMeasured 44 = .ok (.getfield 79, 3) := by decide +kernel
theorem dX5_ifMeasured_47 : decode cX5_ifMeasured 47 = .ok (.invokevirtual 152, 3) := by decide +kernel
theorem dX5_ifMeasured_50 : decode cX5_ifMeasured 50 = .ok (.invokevirtual 161, 3) := by decide +kernel
theorem dX5_ifMeasured_53 : decode cX5_ifMeasured 53 = .ok (.istore 4, 2) := by decide +kernel
theorem dX5_ifMeasured_55 : decode cX5_ifMeasured 55 = .ok (.aload_n 3, 1) := by decide +kernel
theorem dX5_ifMeasured_56 : decode cX5_ifMeasured 56 = .ok (.getfield 134, 3) := by decide +kernel
theorem dX5_ifMeasured_59 : decode cX5_ifMeasured 59 = .ok (.aload_n 3, 1) := by decide +kernel
theorem dX5_ifMeasured_60 : decode cX5_ifMeasured 60 = .ok (.getfield 129, 3) := by decide +kernel
theorem dX5_ifMeasured_63 : decode cX5_ifMeasured 63 = .ok (.iadd, 1) := by decide +kernel
theorem dX5_ifMeasured_64 : decode cX5_ifMeasured 64 = .ok (.aload_n 3, 1) := by decide +kernel
theorem dX5_ifMeasured_65 : decode cX5_ifMeasured 65 = .ok (.iload_n 2, 1) := by decide +kernel
theorem dX5_ifMeasured_66 : decode cX5_ifMeasured 66 = .ok (.invokestatic 222, 3) := by decide +kernel
theorem dX5_ifMeasured_69 : decode cX5_ifMeasured 69 = .ok (.iload 4, 2) := by decide +kernel
theorem dX5_ifMeasured_71 : decode cX5_ifMeasured 71 = .ok (.aload_n 0, 1) := by decide +kernel
theorem dX5_ifMeasured_72 : decode cX5_ifMeasured 72 = .ok (.getfield 31, 3) := by decide +kernel
theorem dX5_ifMeasured_75 : decode cX5_ifMeasured 75 = .ok (.getfield 122, 3) := by decide +kernel
theorem dX5_ifMeasured_78 : decode cX5_ifMeasured 78 = .ok (.iconst 3, 1) := by decide +kernel
theorem dX5_ifMeasured_79 : decode cX5_ifMeasured 79 = .ok (.iaload, 1) := by decide +kernel
theorem dX5_ifMeasured_80 : decode cX5_ifMeasured 80 = .ok (.invokevirtual 225, 3) := by decide +kernel
theorem dX5_ifMeasured_83 : decode cX5_ifMeasured 83 = .ok (.iadd, 1) := by decide +kernel
theorem dX5_ifMeasured_84 : decode cX5_ifMeasured 84 = .ok (.ireturn, 1) := by decide +kernel
theorem dX5_remember_0 : decode cX5_remember 0 = .ok (.aload_n 0, 1) := by decide +kernel
theorem dX5_remember_1 : decode cX5_remember 1 = .ok (.getfield 34, 3) := by decide +kernel
theorem dX5_remember_4 : decode cX5_remember 4 = .ok (.iconst 4, 1) := by decide +kernel
theorem dX5_remember_5 : decode cX5_remember 5 = .ok (.if_icmp .ne 54, 3) := by decide +kernel
theorem dX5_remember_8 : decode cX5_remember 8 = .ok (.aload_n 0, 1) := by decide +kernel
theorem dX5_remember_9 : decode cX5_remember 9 = .ok (.getfield 18, 3) := by decide +kernel
theorem dX5_remember_12 : decode cX5_remember 12 = .ok (.iconst 0, 1) := by decide +kernel
theorem dX5_remember_13 : decode cX5_remember 13 = .ok (.aaload, 1) := by decide +kernel
theorem dX5_remember_14 : decode cX5_remember 14 = .ok (.astore_n 1, 1) := by decide +kernel
theorem dX5_remember_15 : decode cX5_remember 15 = .ok (.iconst 1, 1) := by decide +kernel
theorem dX5_remember_16 : decode cX5_remember 16 = .ok (.istore_n 2, 1) := by decide +kernel
theorem dX5_remember_17 : decode cX5_remember 17 = .ok (.iload_n 2, 1) := by decide +kernel
theorem dX5_remember_18 : decode cX5_remember 18 = .ok (.iconst 4, 1) := by decide +kernel
theorem dX5_remember_19 : decode cX5_remember 19 = .ok (.if_icmp .ge 23, 3) := by decide +kernel
theorem dX5_remember_22 : decode cX5_remember 22 = .ok (.aload_n 0, 1) := by decide +kernel
theorem dX5_remember_23 : decode cX5_remember 23 = .ok (.getfield 18, 3) := by decide +kernel
theorem dX5_remember_26 : decode cX5_remember 26 = .ok (.iload_n 2, 1) := by decide +kernel
theorem dX5_remember_27 : decode cX5_remember 27 = .ok (.iconst 1, 1) := by decide +kernel
theorem dX5_remember_28 : decode cX5_remember 28 = .ok (.isub, 1) := by decide +kernel
theorem dX5_remember_29 : decode cX5_remember 29 = .ok (.aload_n 0, 1) := by decide +kernel
theorem dX5_remember_30 : decode cX5_remember 30 = .ok (.getfield 18, 3) := by decide +kernel
theorem dX5_remember_33 : decode cX5_remember 33 = .ok (.iload_n 2, 1) := by decide +kernel
theorem dX5_remember_34 : decode cX5_remember 34 = .ok (.aaload, 1) := by decide +kernel
theorem dX5_remember_35 : decode cX5_remember 35 = .ok (.aastore, 1) := by decide +kernel
theorem dX5_remember_36 : decode cX5_remember 36 = .ok (.iinc 2 1, 3) := by decide +kernel
theorem dX5_remember_39 : decode cX5_remember 39 = .ok (.goto (-22), 3) := by decide +kernel
theorem dX5_remember_42 : decode cX5_remember 42 = .ok (.aload_n 0, 1) := by decide +kernel
theorem dX5_remember_43 : decode cX5_remember 43 = .ok (.getfield 18, 3) := by decide +kernel
theorem dX5_remember_46 : decode cX5_remember 46 = .ok (.iconst 3, 1) := by decide +kernel
theorem dX5_remember_47 : decode cX5_remember 47 = .ok (.aload_n 1, 1) := by decide +kernel
theorem dX5_remember_48 : decode cX5_remember 48 = .ok (.aastore, 1) := by decide +kernel
theorem dX5_remember_49 : decode cX5_remember 49 = .ok (.aload_n 0, 1) := by decide +kernel
theorem dX5_remember_50 : decode cX5_remember 50 = .ok (.dup, 1) := by decide +kernel
theorem dX5_remember_51 : decode cX5_remember 51 = .ok (.getfield 34, 3) := by decide +kernel
theorem dX5_remember_54 : decode cX5_remember 54 = .ok (.iconst 1, 1) := by decide +kernel
theorem dX5_remember_55 : decode cX5_remember 55 = .ok (.isub, 1) := by decide +kernel
theorem dX5_remember_56 : decode cX5_remember 56 = .ok (.putfield 34, 3) := by decide +kernel
theorem dX5_remember_59 : decode cX5_remember 59 = .ok (.aload_n 0, 1) := by decide +kernel
theorem dX5_remember_60 : decode cX5_remember 60 = .ok (.getfield 18, 3) := by decide +kernel
theorem dX5_remember_63 : decode cX5_remember 63 = .ok (.aload_n 0, 1) := by decide +kernel
theorem dX5_remember_64 : decode cX5_remember 64 = .ok (.getfield 34, 3) := by decide +kernel
theorem dX5_remember_67 : decode cX5_remember 67 = .ok (.aaload, 1) := by decide +kernel
theorem dX5_remember_68 : decode cX5_remember 68 = .ok (.aload_n 0, 1) := by decide +kernel
theorem dX5_remember_69 : decode cX5_remember 69 = .ok (.getfield 31, 3) := by decide +kernel
theorem dX5_remember_72 : decode cX5_remember 72 = .ok (.invokevirtual 148, 3) := by decide +kernel
theorem dX5_remember_75 : decode cX5_remember 75 = .ok (.aload_n 0, 1) := by decide +kernel
theorem dX5_remember_76 : decode cX5_remember 76 = .ok (.dup, 1) := by decide +kernel
theorem dX5_remember_77 : decode cX5_remember 77 = .ok (.getfield 34, 3) := by decide +kernel
theorem dX5_remember_80 : decode cX5_remember 80 = .ok (.iconst 1, 1) := by decide +kernel
theorem dX5_remember_81 : decode cX5_remember 81 = .ok (.iadd, 1) := by decide +kernel
theorem dX5_remember_82 : decode cX5_remember 82 = .ok (.putfield 34, 3) := by decide +kernel
theorem dX5_remember_85 : decode cX5_remember 85 = .ok (.return_, 1) := by decide +kernel
theorem dX5_sumWithRate_0 : decode cX5_sumWithRate 0 = .ok (.iconst 0, 1) := by decide +kernel
theorem dX5_sumWithRate_1 : decode cX5_sumWithRate 1 = .ok (.istore 4, 2) := by decide +kernel
theorem dX5_sumWithRate_3 : decode cX5_sumWithRate 3 = .ok (.iconst 0, 1) := by decide +kernel
theorem dX5_sumWithRate_4 : decode cX5_sumWithRate 4 = .ok (.istore 5, 2) := by decide +kernel
theorem dX5_sumWithRate_6 : decode cX5_sumWithRate 6 = .ok (.iload 5, 2) := by decide +kernel
theorem dX5_sumWithRate_8 : decode cX5_sumWithRate 8 = .ok (.bipush 20, 2) := by decide +kernel
theorem dX5_sumWithRate_10 : decode cX5_sumWithRate 10 = .ok (.if_icmp .ge 43, 3) := by decide +kernel
theorem dX5_sumWithRate_13 : decode cX5_sumWithRate 13 = .ok (.iload 4, 2) := by decide +kernel
theorem dX5_sumWithRate_15 : decode cX5_sumWithRate 15 = .ok (.aload_n 2, 1) := by decide +kernel
theorem dX5_sumWithRate_16 : decode cX5_sumWithRate 16 = .ok (.getfield 155, 3) := by decide +kernel
theorem dX5_sumWithRate_19 : decode cX5_sumWithRate 19 = .ok (.iload 5, 2) := by decide +kernel
theorem dX5_sumWithRate_21 : decode cX5_sumWithRate 21 = .ok (.iaload, 1) := by decide +kernel
theorem dX5_sumWithRate_22 : decode cX5_sumWithRate 22 = .ok (.aload_n 1, 1) := by decide +kernel
theorem dX5_sumWithRate_23 : decode cX5_sumWithRate 23 = .ok (.getfield 86, 3) := by decide +kernel
theorem dX5_sumWithRate_26 : decode cX5_sumWithRate 26 = .ok (.iload 5, 2) := by decide +kernel
theorem dX5_sumWithRate_28 : decode cX5_sumWithRate 28 = .ok (.iaload, 1) := by decide +kernel
theorem dX5_sumWithRate_29 : decode cX5_sumWithRate 29 = .ok (.aload_n 0, 1) := by decide +kernel
theorem dX5_sumWithRate_30 : decode cX5_sumWithRate 30 = .ok (.getfield 27, 3) := by decide +kernel
theorem dX5_sumWithRate_33 : decode cX5_sumWithRate 33 = .ok (.iload 5, 2) := by decide +kernel
theorem dX5_sumWithRate_35 : decode cX5_sumWithRate 35 = .ok (.iaload, 1) := by decide +kernel
theorem dX5_sumWithRate_36 : decode cX5_sumWithRate 36 = .ok (.iload_n 3, 1) := by decide +kernel
theorem dX5_sumWithRate_37 : decode cX5_sumWithRate 37 = .ok (.invokestatic 211, 3) := by decide +kernel
theorem dX5_sumWithRate_40 : decode cX5_sumWithRate 40 = .ok (.isub, 1) := by decide +kernel
theorem dX5_sumWithRate_41 : decode cX5_sumWithRate 41 = .ok (.invokestatic 229, 3) := by decide +kernel
theorem dX5_sumWithRate_44 : decode cX5_sumWithRate 44 = .ok (.iadd, 1) := by decide +kernel
theorem dX5_sumWithRate_45 : decode cX5_sumWithRate 45 = .ok (.istore 4, 2) := by decide +kernel
theorem dX5_sumWithRate_47 : decode cX5_sumWithRate 47 = .ok (.iinc 5 1, 3) := by decide +kernel
theorem dX5_sumWithRate_50 : decode cX5_sumWithRate 50 = .ok (.goto (-44), 3) := by decide +kernel
theorem dX5_sumWithRate_53 : decode cX5_sumWithRate 53 = .ok (.iload 4, 2) := by decide +kernel
theorem dX5_sumWithRate_55 : decode cX5_sumWithRate 55 = .ok (.ireturn, 1) := by decide +kernel
theorem dX5_isIndex_0 : decode cX5_isIndex 0 = .ok (.iload_n 0, 1) := by decide +kernel
theorem dX5_isIndex_1 : decode cX5_isIndex 1 = .ok (.ifCond .lt 12, 3) := by decide +kernel
theorem dX5_isIndex_4 : decode cX5_isIndex 4 = .ok (.iload_n 0, 1) := by decide +kernel
theorem dX5_isIndex_5 : decode cX5_isIndex 5 = .ok (.iload_n 1, 1) := by decide +kernel
theorem dX5_isIndex_6 : decode cX5_isIndex 6 = .ok (.if_icmp .ge 7, 3) := by decide +kernel
theorem dX5_isIndex_9 : decode cX5_isIndex 9 = .ok (.iconst 1, 1) := by decide +kernel
theorem dX5_isIndex_10 : decode cX5_isIndex 10 = .ok (.goto 4, 3) := by decide +kernel
theorem dX5_isIndex_13 : decode cX5_isIndex 13 = .ok (.iconst 0, 1) := by decide +kernel
theorem dX5_isIndex_14 : decode cX5_isIndex 14 = .ok (.ireturn, 1) := by decide +kernel
theorem dX5_isWithin_0 : decode cX5_isWithin 0 = .ok (.iload_n 0, 1) := by decide +kernel
theorem dX5_isWithin_1 : decode cX5_isWithin 1 = .ok (.iload_n 1, 1) := by decide +kernel
theorem dX5_isWithin_2 : decode cX5_isWithin 2 = .ok (.ineg, 1) := by decide +kernel
theorem dX5_isWithin_3 : decode cX5_isWithin 3 = .ok (.if_icmp .lt 12, 3) := by decide +kernel
theorem dX5_isWithin_6 : decode cX5_isWithin 6 = .ok (.iload_n 0, 1) := by decide +kernel
theorem dX5_isWithin_7 : decode cX5_isWithin 7 = .ok (.iload_n 1, 1) := by decide +kernel
theorem dX5_isWithin_8 : decode cX5_isWithin 8 = .ok (.if_icmp .gt 7, 3) := by decide +kernel
theorem dX5_isWithin_11 : decode cX5_isWithin 11 = .ok (.iconst 1, 1) := by decide +kernel
theorem dX5_isWithin_12 : decode cX5_isWithin 12 = .ok (.goto 4, 3) := by decide +kernel
theorem dX5_isWithin_15 : decode cX5_isWithin 15 = .ok (.iconst 0, 1) := by decide +kernel
theorem dX5_isWithin_16 : decode cX5_isWithin 16 = .ok (.ireturn, 1) := by decide +kernel
theorem dX5_isFrost_0 : decode cX5_isFrost 0 = .ok (.iload_n 0, 1) := by decide +kernel
theorem dX5_isFrost_1 : decode cX5_isFrost 1 = .ok (.ifCond .gt 7, 3) := by decide +kernel
theorem dX5_isFrost_4 : decode cX5_isFrost 4 = .ok (.iconst 1, 1) := by decide +kernel
theorem dX5_isFrost_5 : decode cX5_isFrost 5 = .ok (.goto 4, 3) := by decide +kernel
theorem dX5_isFrost_8 : decode cX5_isFrost 8 = .ok (.iconst 0, 1) := by decide +kernel
theorem dX5_isFrost_9 : decode cX5_isFrost 9 = .ok (.ireturn, 1) := by decide +kernel
theorem dX5_oneIf_0 : decode cX5_oneIf 0 = .ok (.iload_n 0, 1) := by decide +kernel
theorem dX5_oneIf_1 : decode cX5_oneIf 1 = .ok (.ifCond .eq 7, 3) := by decide +kernel
theorem dX5_oneIf_4 : decode cX5_oneIf 4 = .ok (.iconst 1, 1) := by decide +kernel
theorem dX5_oneIf_5 : decode cX5_oneIf 5 = .ok (.goto 4, 3) := by decide +kernel
theorem dX5_oneIf_8 : decode cX5_oneIf 8 = .ok (.iconst 0, 1) := by decide +kernel
theorem dX5_oneIf_9 : decode cX5_oneIf 9 = .ok (.ireturn, 1) := by decide +kernel
theorem dX5_clampWarmth_0 : decode cX5_clampWarmth 0 = .ok (.bipush (-40), 2) := by decide +kernel
theorem dX5_clampWarmth_2 : decode cX5_clampWarmth 2 = .ok (.bipush 40, 2) := by decide +kernel
theorem dX5_clampWarmth_4 : decode cX5_clampWarmth 4 = .ok (.iload_n 0, 1) := by decide +kernel
theorem dX5_clampWarmth_5 : decode cX5_clampWarmth 5 = .ok (.invokestatic 234, 3) := by decide +kernel
theorem dX5_clampWarmth_8 : decode cX5_clampWarmth 8 = .ok (.invokestatic 237, 3) := by decide +kernel
theorem dX5_clampWarmth_11 : decode cX5_clampWarmth 11 = .ok (.ireturn, 1) := by decide +kernel
theorem dX5_mended_0 : decode cX5_mended 0 = .ok (.iload_n 0, 1) := by decide +kernel
theorem dX5_mended_1 : decode cX5_mended 1 = .ok (.iload_n 1, 1) := by decide +kernel
theorem dX5_mended_2 : decode cX5_mended 2 = .ok (.iload_n 2, 1) := by decide +kernel
theorem dX5_mended_3 : decode cX5_mended 3 = .ok (.imul, 1) := by decide +kernel
theorem dX5_mended_4 : decode cX5_mended 4 = .ok (.bipush 100, 2) := by decide +kernel
theorem dX5_mended_6 : decode cX5_mended 6 = .ok (.idiv, 1) := by decide +kernel
theorem dX5_mended_7 : decode cX5_mended 7 = .ok (.iadd, 1) := by decide +kernel
theorem dX5_mended_8 : decode cX5_mended 8 = .ok (.invokestatic 240, 3) := by decide +kernel
theorem dX5_mended_11 : decode cX5_mended 11 = .ok (.ireturn, 1) := by decide +kernel
end
section
theorem dL_cell_0 : decode cL_cell 0 = .ok (.iload_n 1, 1) := by decide +kernel
theorem dL_cell_1 : decode cL_cell 1 = .ok (.aload_n 0, 1) := by decide +kernel
theorem dL_cell_2 : decode cL_cell 2 = .ok (.arraylength, 1) := by decide +kernel
theorem dL_cell_3 : decode cL_cell 3 = .ok (.if_icmp .ge 9, 3) := by decide +kernel
theorem dL_cell_6 : decode cL_cell 6 = .ok (.aload_n 0, 1) := by decide +kernel
theorem dL_cell_7 : decode cL_cell 7 = .ok (.iload_n 1, 1) := by decide +kernel
theorem dL_cell_8 : decode cL_cell 8 = .ok (.iaload, 1) := by decide +kernel
theorem dL_cell_9 : decode cL_cell 9 = .ok (.goto 15, 3) := by decide +kernel
theorem dL_cell_12 : decode cL_cell 12 = .ok (.sipush 7919, 3) := by decide +kernel
theorem dL_cell_15 : decode cL_cell 15 = .ok (.iload_n 1, 1) := by decide +kernel
theorem dL_cell_16 : decode cL_cell 16 = .ok (.iconst 3, 1) := by decide +kernel
theorem dL_cell_17 : decode cL_cell 17 = .ok (.iadd, 1) := by decide +kernel
theorem dL_cell_18 : decode cL_cell 18 = .ok (.imul, 1) := by decide +kernel
theorem dL_cell_19 : decode cL_cell 19 = .ok (.iload_n 1, 1) := by decide +kernel
theorem dL_cell_20 : decode cL_cell 20 = .ok (.bipush 11, 2) := by decide +kernel
theorem dL_cell_22 : decode cL_cell 22 = .ok (.iadd, 1) := by decide +kernel
theorem dL_cell_23 : decode cL_cell 23 = .ok (.imul, 1) := by decide +kernel
theorem dL_cell_24 : decode cL_cell 24 = .ok (.ireturn, 1) := by decide +kernel
theorem dL_low_0 : decode cL_low 0 = .ok (.iload_n 0, 1) := by decide +kernel
theorem dL_low_1 : decode cL_low 1 = .ok (.ldc 7, 2) := by decide +kernel
theorem dL_low_3 : decode cL_low 3 = .ok (.iand, 1) := by decide +kernel
theorem dL_low_4 : decode cL_low 4 = .ok (.iload_n 1, 1) := by decide +kernel
theorem dL_low_5 : decode cL_low 5 = .ok (.irem, 1) := by decide +kernel
theorem dL_low_6 : decode cL_low 6 = .ok (.ireturn, 1) := by decide +kernel
theorem dL_size_0 : decode cL_size 0 = .ok (.iload_n 0, 1) := by decide +kernel
theorem dL_size_1 : decode cL_size 1 = .ok (.ifCond .ge 8, 3) := by decide +kernel
theorem dL_size_4 : decode cL_size 4 = .ok (.iload_n 0, 1) := by decide +kernel
theorem dL_size_5 : decode cL_size 5 = .ok (.ineg, 1) := by decide +kernel
theorem dL_size_6 : decode cL_size 6 = .ok (.goto 4, 3) := by decide +kernel
theorem dL_size_9 : decode cL_size 9 = .ok (.iload_n 0, 1) := by decide +kernel
theorem dL_size_10 : decode cL_size 10 = .ok (.ireturn, 1) := by decide +kernel
theorem dL_bounded_0 : decode cL_bounded 0 = .ok (.iload_n 0, 1) := by decide +kernel
theorem dL_bounded_1 : decode cL_bounded 1 = .ok (.bipush (-40), 2) := by decide +kernel
theorem dL_bounded_3 : decode cL_bounded 3 = .ok (.if_icmp .ge 8, 3) := by decide +kernel
theorem dL_bounded_6 : decode cL_bounded 6 = .ok (.bipush (-40), 2) := by decide +kernel
theorem dL_bounded_8 : decode cL_bounded 8 = .ok (.goto 15, 3) := by decide +kernel
theorem dL_bounded_11 : decode cL_bounded 11 = .ok (.iload_n 0, 1) := by decide +kernel
theorem dL_bounded_12 : decode cL_bounded 12 = .ok (.bipush 40, 2) := by decide +kernel
theorem dL_bounded_14 : decode cL_bounded 14 = .ok (.if_icmp .le 8, 3) := by decide +kernel
theorem dL_bounded_17 : decode cL_bounded 17 = .ok (.bipush 40, 2) := by decide +kernel
theorem dL_bounded_19 : decode cL_bounded 19 = .ok (.goto 4, 3) := by decide +kernel
theorem dL_bounded_22 : decode cL_bounded 22 = .ok (.iload_n 0, 1) := by decide +kernel
theorem dL_bounded_23 : decode cL_bounded 23 = .ok (.ireturn, 1) := by decide +kernel
theorem dL_areDays_0 : decode cL_areDays 0 = .ok (.aload_n 0, 1) := by decide +kernel
theorem dL_areDays_1 : decode cL_areDays 1 = .ok (.iconst 1, 1) := by decide +kernel
theorem dL_areDays_2 : decode cL_areDays 2 = .ok (.invokevirtual 8, 3) := by decide +kernel
theorem dL_areDays_5 : decode cL_areDays 5 = .ok (.istore_n 1, 1) := by decide +kernel
theorem dL_areDays_6 : decode cL_areDays 6 = .ok (.iconst 0, 1) := by decide +kernel
theorem dL_areDays_7 : decode cL_areDays 7 = .ok (.istore_n 2, 1) := by decide +kernel
theorem dL_areDays_8 : decode cL_areDays 8 = .ok (.iconst 0, 1) := by decide +kernel
theorem dL_areDays_9 : decode cL_areDays 9 = .ok (.istore_n 3, 1) := by decide +kernel
theorem dL_areDays_10 : decode cL_areDays 10 = .ok (.iload_n 3, 1) := by decide +kernel
theorem dL_areDays_11 : decode cL_areDays 11 = .ok (.bipush 20, 2) := by decide +kernel
theorem dL_areDays_13 : decode cL_areDays 13 = .ok (.if_icmp .ge 330, 3) := by decide +kernel
theorem dL_areDays_16 : decode cL_areDays 16 = .ok (.aload_n 0, 1) := by decide +kernel
theorem dL_areDays_17 : decode cL_areDays 17 = .ok (.iload_n 3, 1) := by decide +kernel
theorem dL_areDays_18 : decode cL_areDays 18 = .ok (.iconst 0, 1) := by decide +kernel
theorem dL_areDays_19 : decode cL_areDays 19 = .ok (.invokevirtual 14, 3) := by decide +kernel
theorem dL_areDays_22 : decode cL_areDays 22 = .ok (.sipush 1000, 3) := by decide +kernel
theorem dL_areDays_25 : decode cL_areDays 25 = .ok (.isub, 1) := by decide +kernel
theorem dL_areDays_26 : decode cL_areDays 26 = .ok (.istore 4, 2) := by decide +kernel
theorem dL_areDays_28 : decode cL_areDays 28 = .ok (.iconst 0, 1) := by decide +kernel
theorem dL_areDays_29 : decode cL_areDays 29 = .ok (.istore 5, 2) := by decide +kernel
theorem dL_areDays_31 : decode cL_areDays 31 = .ok (.iload 5, 2) := by decide +kernel
theorem dL_areDays_33 : decode cL_areDays 33 = .ok (.aload_n 0, 1) := by decide +kernel
theorem dL_areDays_34 : decode cL_areDays 34 = .ok (.iconst 3, 1) := by decide +kernel
theorem dL_areDays_35 : decode cL_areDays 35 = .ok (.invokevirtual 8, 3) := by decide +kernel
theorem dL_areDays_38 : decode cL_areDays 38 = .ok (.if_icmp .ge 129, 3) := by decide +kernel
theorem dL_areDays_41 : decode cL_areDays 41 = .ok (.iload 5, 2) := by decide +kernel
theorem dL_areDays_43 : decode cL_areDays 43 = .ok (.iconst 5, 1) := by decide +kernel
theorem dL_areDays_44 : decode cL_areDays 44 = .ok (.if_icmp .ge 123, 3) := by decide +kernel
theorem dL_areDays_47 : decode cL_areDays 47 = .ok (.aload_n 0, 1) := by decide +kernel
theorem dL_areDays_48 : decode cL_areDays 48 = .ok (.iload 5, 2) := by decide +kernel
theorem dL_areDays_50 : decode cL_areDays 50 = .ok (.iconst 0, 1) := by decide +kernel
theorem dL_areDays_51 : decode cL_areDays 51 = .ok (.invokevirtual 18, 3) := by decide +kernel
theorem dL_areDays_54 : decode cL_areDays 54 = .ok (.istore 6, 2) := by decide +kernel
theorem dL_areDays_56 : decode cL_areDays 56 = .ok (.iload 6, 2) := by decide +kernel
theorem dL_areDays_58 : decode cL_areDays 58 = .ok (.iload_n 1, 1) := by decide +kernel
theorem dL_areDays_59 : decode cL_areDays 59 = .ok (.if_icmp .ge 32, 3) := by decide +kernel
theorem dL_areDays_62 : decode cL_areDays 62 = .ok (.aload_n 0, 1) := by decide +kernel
theorem dL_areDays_63 : decode cL_areDays 63 = .ok (.iload 6, 2) := by decide +kernel
theorem dL_areDays_65 : decode cL_areDays 65 = .ok (.iconst 2, 1) := by decide +kernel
theorem dL_areDays_66 : decode cL_areDays 66 = .ok (.invokevirtual 14, 3) := by decide +kernel
theorem dL_areDays_69 : decode cL_areDays 69 = .ok (.sipush 1000, 3) := by decide +kernel
theorem dL_areDays_72 : decode cL_areDays 72 = .ok (.isub, 1) := by decide +kernel
theorem dL_areDays_73 : decode cL_areDays 73 = .ok (.aload_n 0, 1) := by decide +kernel
theorem dL_areDays_74 : decode cL_areDays 74 = .ok (.iload 5, 2) := by decide +kernel
theorem dL_areDays_76 : decode cL_areDays 76 = .ok (.iconst 1, 1) := by decide +kernel
theorem dL_areDays_77 : decode cL_areDays 77 = .ok (.invokevirtual 18, 3) := by decide +kernel
theorem dL_areDays_80 : decode cL_areDays 80 = .ok (.sipush 1000, 3) := by decide +kernel
theorem dL_areDays_83 : decode cL_areDays 83 = .ok (.isub, 1) := by decide +kernel
theorem dL_areDays_84 : decode cL_areDays 84 = .ok (.if_icmp .gt 7, 3) := by decide +kernel
theorem dL_areDays_87 : decode cL_areDays 87 = .ok (.iconst 1, 1) := by decide +kernel
theorem dL_areDays_88 : decode cL_areDays 88 = .ok (.goto 4, 3) := by decide +kernel
theorem dL_areDays_91 : decode cL_areDays 91 = .ok (.iconst 0, 1) := by decide +kernel
theorem dL_areDays_92 : decode cL_areDays 92 = .ok (.istore 7, 2) := by decide +kernel
theorem dL_areDays_94 : decode cL_areDays 94 = .ok (.aload_n 0, 1) := by decide +kernel
theorem dL_areDays_95 : decode cL_areDays 95 = .ok (.iload 5, 2) := by decide +kernel
theorem dL_areDays_97 : decode cL_areDays 97 = .ok (.iconst 4, 1) := by decide +kernel
theorem dL_areDays_98 : decode cL_areDays 98 = .ok (.invokevirtual 18, 3) := by decide +kernel
theorem dL_areDays_101 : decode cL_areDays 101 = .ok (.iload 7, 2) := by decide +kernel
theorem dL_areDays_103 : decode cL_areDays 103 = .ok (.ifCond .eq 7, 3) := by decide +kernel
theorem dL_areDays_106 : decode cL_areDays 106 = .ok (.iconst 1, 1) := by decide +kernel
theorem dL_areDays_107 : decode cL_areDays 107 = .ok (.goto 4, 3) := by decide +kernel
theorem dL_areDays_110 : decode cL_areDays 110 = .ok (.iconst 0, 1) := by decide +kernel
theorem dL_areDays_111 : decode cL_areDays 111 = .ok (.if_icmp .eq 5, 3) := by decide +kernel
theorem dL_areDays_114 : decode cL_areDays 114 = .ok (.iconst 0, 1) := by decide +kernel
theorem dL_areDays_115 : decode cL_areDays 115 = .ok (.ireturn, 1) := by decide +kernel
theorem dL_areDays_116 : decode cL_areDays 116 = .ok (.iload 4, 2) := by decide +kernel
theorem dL_areDays_118 : decode cL_areDays 118 = .ok (.iload 7, 2) := by decide +kernel
theorem dL_areDays_120 : decode cL_areDays 120 = .ok (.ifCond .eq 37, 3) := by decide +kernel
theorem dL_areDays_123 : decode cL_areDays 123 = .ok (.iload_n 3, 1) := by decide +kernel
theorem dL_areDays_124 : decode cL_areDays 124 = .ok (.iload 6, 2) := by decide +kernel
theorem dL_areDays_126 : decode cL_areDays 126 = .ok (.if_icmp .le 31, 3) := by decide +kernel
theorem dL_areDays_129 : decode cL_areDays 129 = .ok (.iload_n 3, 1) := by decide +kernel
theorem dL_areDays_130 : decode cL_areDays 130 = .ok (.iload 6, 2) := by decide +kernel
theorem dL_areDays_132 : decode cL_areDays 132 = .ok (.aload_n 0, 1) := by decide +kernel
theorem dL_areDays_133 : decode cL_areDays 133 = .ok (.iload 5, 2) := by decide +kernel
theorem dL_areDays_135 : decode cL_areDays 135 = .ok (.iconst 3, 1) := by decide +kernel
theorem dL_areDays_136 : decode cL_areDays 136 = .ok (.invokevirtual 18, 3) := by decide +kernel
theorem dL_areDays_139 : decode cL_areDays 139 = .ok (.iadd, 1) := by decide +kernel
theorem dL_areDays_140 : decode cL_areDays 140 = .ok (.if_icmp .gt 17, 3) := by decide +kernel
theorem dL_areDays_143 : decode cL_areDays 143 = .ok (.aload_n 0, 1) := by decide +kernel
theorem dL_areDays_144 : decode cL_areDays 144 = .ok (.iload 5, 2) := by decide +kernel
theorem dL_areDays_146 : decode cL_areDays 146 = .ok (.iconst 2, 1) := by decide +kernel
theorem dL_areDays_147 : decode cL_areDays 147 = .ok (.invokevirtual 18, 3) := by decide +kernel
theorem dL_areDays_150 : decode cL_areDays 150 = .ok (.sipush 1000, 3) := by decide +kernel
theorem dL_areDays_153 : decode cL_areDays 153 = .ok (.isub, 1) := by decide +kernel
theorem dL_areDays_154 : decode cL_areDays 154 = .ok (.goto 4, 3) := by decide +kernel
theorem dL_areDays_157 : decode cL_areDays 157 = .ok (.iconst 0, 1) := by decide +kernel
theorem dL_areDays_158 : decode cL_areDays 158 = .ok (.iadd, 1) := by decide +kernel
theorem dL_areDays_159 : decode cL_areDays 159 = .ok (.istore 4, 2) := by decide +kernel
theorem dL_areDays_161 : decode cL_areDays 161 = .ok (.iinc 5 1, 3) := by decide +kernel
theorem dL_areDays_164 : decode cL_areDays 164 = .ok (.goto (-133), 3) := by decide +kernel
theorem dL_areDays_167 : decode cL_areDays 167 = .ok (.iload_n 3, 1) := by decide +kernel
theorem dL_areDays_168 : decode cL_areDays 168 = .ok (.iload_n 1, 1) := by decide +kernel
theorem dL_areDays_169 : decode cL_areDays 169 = .ok (.if_icmp .ge 7, 3) := by decide +kernel
theorem dL_areDays_172 : decode cL_areDays 172 = .ok (.iconst 1, 1) := by decide +kernel
theorem dL_areDays_173 : decode cL_areDays 173 = .ok (.goto 4, 3) := by decide +kernel
theorem dL_areDays_176 : decode cL_areDays 176 = .ok (.iconst 0, 1) := by decide +kernel
theorem dL_areDays_177 : decode cL_areDays 177 = .ok (.istore 5, 2) := by decide +kernel
theorem dL_areDays_179 : decode cL_areDays 179 = .ok (.aload_n 0, 1) := by decide +kernel
theorem dL_areDays_180 : decode cL_areDays 180 = .ok (.iload_n 3, 1) := by decide +kernel
theorem dL_areDays_181 : decode cL_areDays 181 = .ok (.iconst 1, 1) := by decide +kernel
theorem dL_areDays_182 : decode cL_areDays 182 = .ok (.invokevirtual 14, 3) := by decide +kernel
theorem dL_areDays_185 : decode cL_areDays 185 = .ok (.sipush 1000, 3) := by decide +kernel
theorem dL_areDays_188 : decode cL_areDays 188 = .ok (.isub, 1) := by decide +kernel
theorem dL_areDays_189 : decode cL_areDays 189 = .ok (.istore 6, 2) := by decide +kernel
theorem dL_areDays_191 : decode cL_areDays 191 = .ok (.aload_n 0, 1) := by decide +kernel
theorem dL_areDays_192 : decode cL_areDays 192 = .ok (.iload_n 3, 1) := by decide +kernel
theorem dL_areDays_193 : decode cL_areDays 193 = .ok (.iconst 2, 1) := by decide +kernel
theorem dL_areDays_194 : decode cL_areDays 194 = .ok (.invokevirtual 14, 3) := by decide +kernel
theorem dL_areDays_197 : decode cL_areDays 197 = .ok (.istore 7, 2) := by decide +kernel
theorem dL_areDays_199 : decode cL_areDays 199 = .ok (.iload 5, 2) := by decide +kernel
theorem dL_areDays_201 : decode cL_areDays 201 = .ok (.ifCond .eq 41, 3) := by decide +kernel
theorem dL_areDays_204 : decode cL_areDays 204 = .ok (.iload 7, 2) := by decide +kernel
theorem dL_areDays_206 : decode cL_areDays 206 = .ok (.sipush 960, 3) := by decide +kernel
theorem dL_areDays_209 : decode cL_areDays 209 = .ok (.if_icmp .lt 29, 3) := by decide +kernel
theorem dL_areDays_212 : decode cL_areDays 212 = .ok (.iload 7, 2) := by decide +kernel
theorem dL_areDays_214 : decode cL_areDays 214 = .ok (.sipush 1040, 3) := by decide +kernel
theorem dL_areDays_217 : decode cL_areDays 217 = .ok (.if_icmp .gt 21, 3) := by decide +kernel
theorem dL_areDays_220 : decode cL_areDays 220 = .ok (.aload_n 0, 1) := by decide +kernel
theorem dL_areDays_221 : decode cL_areDays 221 = .ok (.iload_n 3, 1) := by decide +kernel
theorem dL_areDays_222 : decode cL_areDays 222 = .ok (.iconst 3, 1) := by decide +kernel
theorem dL_areDays_223 : decode cL_areDays 223 = .ok (.invokevirtual 14, 3) := by decide +kernel
theorem dL_areDays_226 : decode cL_areDays 226 = .ok (.iload 7, 2) := by decide +kernel
theorem dL_areDays_228 : decode cL_areDays 228 = .ok (.iload 6, 2) := by decide +kernel
theorem dL_areDays_230 : decode cL_areDays 230 = .ok (.isub, 1) := by decide +kernel
theorem dL_areDays_231 : decode cL_areDays 231 = .ok (.if_icmp .ne 7, 3) := by decide +kernel
theorem dL_areDays_234 : decode cL_areDays 234 = .ok (.iconst 1, 1) := by decide +kernel
theorem dL_areDays_235 : decode cL_areDays 235 = .ok (.goto 40, 3) := by decide +kernel
theorem dL_areDays_238 : decode cL_areDays 238 = .ok (.iconst 0, 1) := by decide +kernel
theorem dL_areDays_239 : decode cL_areDays 239 = .ok (.goto 36, 3) := by decide +kernel
theorem dL_areDays_242 : decode cL_areDays 242 = .ok (.iload 7, 2) := by decide +kernel
theorem dL_areDays_244 : decode cL_areDays 244 = .ok (.bipush (-5), 2) := by decide +kernel
theorem dL_areDays_246 : decode cL_areDays 246 = .ok (.if_icmp .ne 28, 3) := by decide +kernel
theorem dL_areDays_249 : decode cL_areDays 249 = .ok (.aload_n 0, 1) := by decide +kernel
theorem dL_areDays_250 : decode cL_areDays 250 = .ok (.iload_n 3, 1) := by decide +kernel
theorem dL_areDays_251 : decode cL_areDays 251 = .ok (.iconst 3, 1) := by decide +kernel
theorem dL_areDays_252 : decode cL_areDays 252 = .ok (.invokevirtual 14, 3) := by decide +kernel
theorem dL_areDays_255 : decode cL_areDays 255 = .ok (.bipush (-5), 2) := by decide +kernel
theorem dL_areDays_257 : decode cL_areDays 257 = .ok (.if_icmp .ne 17, 3) := by decide +kernel
theorem dL_areDays_260 : decode cL_areDays 260 = .ok (.iload 6, 2) := by decide +kernel
theorem dL_areDays_262 : decode cL_areDays 262 = .ok (.iload 4, 2) := by decide +kernel
theorem dL_areDays_264 : decode cL_areDays 264 = .ok (.invokestatic 21, 3) := by decide +kernel
theorem dL_areDays_267 : decode cL_areDays 267 = .ok (.if_icmp .ne 7, 3) := by decide +kernel
theorem dL_areDays_270 : decode cL_areDays 270 = .ok (.iconst 1, 1) := by decide +kernel
theorem dL_areDays_271 : decode cL_areDays 271 = .ok (.goto 4, 3) := by decide +kernel
theorem dL_areDays_274 : decode cL_areDays 274 = .ok (.iconst 0, 1) := by decide +kernel
theorem dL_areDays_275 : decode cL_areDays 275 = .ok (.istore 8, 2) := by decide +kernel
theorem dL_areDays_277 : decode cL_areDays 277 = .ok (.iload 8, 2) := by decide +kernel
theorem dL_areDays_279 : decode cL_areDays 279 = .ok (.ifCond .eq 32, 3) := by decide +kernel
theorem dL_areDays_282 : decode cL_areDays 282 = .ok (.aload_n 0, 1) := by decide +kernel
theorem dL_areDays_283 : decode cL_areDays 283 = .ok (.iload_n 3, 1) := by decide +kernel
theorem dL_areDays_284 : decode cL_areDays 284 = .ok (.iconst 4, 1) := by decide +kernel
theorem dL_areDays_285 : decode cL_areDays 285 = .ok (.invokevirtual 14, 3) := by decide +kernel
theorem dL_areDays_288 : decode cL_areDays 288 = .ok (.iload 6, 2) := by decide +kernel
theorem dL_areDays_290 : decode cL_areDays 290 = .ok (.aload_n 0, 1) := by decide +kernel
theorem dL_areDays_291 : decode cL_areDays 291 = .ok (.bipush 14, 2) := by decide +kernel
theorem dL_areDays_293 : decode cL_areDays 293 = .ok (.invokevirtual 8, 3) := by decide +kernel
theorem dL_areDays_296 : decode cL_areDays 296 = .ok (.sipush 1000, 3) := by decide +kernel
theorem dL_areDays_299 : decode cL_areDays 299 = .ok (.isub, 1) := by decide +kernel
theorem dL_areDays_300 : decode cL_areDays 300 = .ok (.if_icmp .gt 7, 3) := by decide +kernel
theorem dL_areDays_303 : decode cL_areDays 303 = .ok (.iconst 1, 1) := by decide +kernel
theorem dL_areDays_304 : decode cL_areDays 304 = .ok (.goto 4, 3) := by decide +kernel
theorem dL_areDays_307 : decode cL_areDays 307 = .ok (.iconst 0, 1) := by decide +kernel
theorem dL_areDays_308 : decode cL_areDays 308 = .ok (.if_icmp .eq 5, 3) := by decide +kernel
theorem dL_areDays_311 : decode cL_areDays 311 = .ok (.iconst 0, 1) := by decide +kernel
theorem dL_areDays_312 : decode cL_areDays 312 = .ok (.ireturn, 1) := by decide +kernel
theorem dL_areDays_313 : decode cL_areDays 313 = .ok (.iload_n 2, 1) := by decide +kernel
theorem dL_areDays_314 : decode cL_areDays 314 = .ok (.iload 5, 2) := by decide +kernel
theorem dL_areDays_316 : decode cL_areDays 316 = .ok (.ifCond .eq 18, 3) := by decide +kernel
theorem dL_areDays_319 : decode cL_areDays 319 = .ok (.iload 7, 2) := by decide +kernel
theorem dL_areDays_321 : decode cL_areDays 321 = .ok (.sipush 1000, 3) := by decide +kernel
theorem dL_areDays_324 : decode cL_areDays 324 = .ok (.isub, 1) := by decide +kernel
theorem dL_areDays_325 : decode cL_areDays 325 = .ok (.iload 6, 2) := by decide +kernel
theorem dL_areDays_327 : decode cL_areDays 327 = .ok (.isub, 1) := by decide +kernel
theorem dL_areDays_328 : decode cL_areDays 328 = .ok (.invokestatic 26, 3) := by decide +kernel
theorem dL_areDays_331 : decode cL_areDays 331 = .ok (.goto 4, 3) := by decide +kernel
theorem dL_areDays_334 : decode cL_areDays 334 = .ok (.iconst 0, 1) := by decide +kernel
theorem dL_areDays_335 : decode cL_areDays 335 = .ok (.iadd, 1) := by decide +kernel
theorem dL_areDays_336 : decode cL_areDays 336 = .ok (.istore_n 2, 1) := by decide +kernel
theorem dL_areDays_337 : decode cL_areDays 337 = .ok (.iinc 3 1, 3) := by decide +kernel
theorem dL_areDays_340 : decode cL_areDays 340 = .ok (.goto (-330), 3) := by decide +kernel
theorem dL_areDays_343 : decode cL_areDays 343 = .ok (.aload_n 0, 1) := by decide +kernel
theorem dL_areDays_344 : decode cL_areDays 344 = .ok (.bipush 7, 2) := by decide +kernel
theorem dL_areDays_346 : decode cL_areDays 346 = .ok (.invokevirtual 8, 3) := by decide +kernel
theorem dL_areDays_349 : decode cL_areDays 349 = .ok (.iload_n 2, 1) := by decide +kernel
theorem dL_areDays_350 : decode cL_areDays 350 = .ok (.if_icmp .ne 43, 3) := by decide +kernel
theorem dL_areDays_353 : decode cL_areDays 353 = .ok (.iload_n 1, 1) := by decide +kernel
theorem dL_areDays_354 : decode cL_areDays 354 = .ok (.ifCond .lt 39, 3) := by decide +kernel
theorem dL_areDays_357 : decode cL_areDays 357 = .ok (.iload_n 1, 1) := by decide +kernel
theorem dL_areDays_358 : decode cL_areDays 358 = .ok (.bipush 20, 2) := by decide +kernel
theorem dL_areDays_360 : decode cL_areDays 360 = .ok (.if_icmp .ge 33, 3) := by decide +kernel
theorem dL_areDays_363 : decode cL_areDays 363 = .ok (.aload_n 0, 1) := by decide +kernel
theorem dL_areDays_364 : decode cL_areDays 364 = .ok (.iconst 2, 1) := by decide +kernel
theorem dL_areDays_365 : decode cL_areDays 365 = .ok (.invokevirtual 8, 3) := by decide +kernel
theorem dL_areDays_368 : decode cL_areDays 368 = .ok (.aload_n 0, 1) := by decide +kernel
theorem dL_areDays_369 : decode cL_areDays 369 = .ok (.iconst 0, 1) := by decide +kernel
theorem dL_areDays_370 : decode cL_areDays 370 = .ok (.invokevirtual 8, 3) := by decide +kernel
theorem dL_areDays_373 : decode cL_areDays 373 = .ok (.iconst 4, 1) := by decide +kernel
theorem dL_areDays_374 : decode cL_areDays 374 = .ok (.if_icmp .ge 11, 3) := by decide +kernel
theorem dL_areDays_377 : decode cL_areDays 377 = .ok (.aload_n 0, 1) := by decide +kernel
theorem dL_areDays_378 : decode cL_areDays 378 = .ok (.iconst 0, 1) := by decide +kernel
theorem dL_areDays_379 : decode cL_areDays 379 = .ok (.invokevirtual 8, 3) := by decide +kernel
theorem dL_areDays_382 : decode cL_areDays 382 = .ok (.goto 4, 3) := by decide +kernel
theorem dL_areDays_385 : decode cL_areDays 385 = .ok (.iconst 4, 1) := by decide +kernel
theorem dL_areDays_386 : decode cL_areDays 386 = .ok (.if_icmp .ne 7, 3) := by decide +kernel
theorem dL_areDays_389 : decode cL_areDays 389 = .ok (.iconst 1, 1) := by decide +kernel
theorem dL_areDays_390 : decode cL_areDays 390 = .ok (.goto 4, 3) := by decide +kernel
theorem dL_areDays_393 : decode cL_areDays 393 = .ok (.iconst 0, 1) := by decide +kernel
theorem dL_areDays_394 : decode cL_areDays 394 = .ok (.ireturn, 1) := by decide +kernel
theorem dL_areYears_0 : decode cL_areYears 0 = .ok (.aload_n 0, 1) := by decide +kernel
theorem dL_areYears_1 : decode cL_areYears 1 = .ok (.bipush 12, 2) := by decide +kernel
theorem dL_areYears_3 : decode cL_areYears 3 = .ok (.invokevirtual 8, 3) := by decide +kernel
theorem dL_areYears_6 : decode cL_areYears 6 = .ok (.sipush 1000, 3) := by decide +kernel
theorem dL_areYears_9 : decode cL_areYears 9 = .ok (.isub, 1) := by decide +kernel
theorem dL_areYears_10 : decode cL_areYears 10 = .ok (.istore_n 2, 1) := by decide +kernel
theorem dL_areYears_11 : decode cL_areYears 11 = .ok (.iload_n 1, 1) := by decide +kernel
theorem dL_areYears_12 : decode cL_areYears 12 = .ok (.aload_n 0, 1) := by decide +kernel
theorem dL_areYears_13 : decode cL_areYears 13 = .ok (.iconst 2, 1) := by decide +kernel
theorem dL_areYears_14 : decode cL_areYears 14 = .ok (.invokevirtual 8, 3) := by decide +kernel
theorem dL_areYears_17 : decode cL_areYears 17 = .ok (.if_icmp .lt 60, 3) := by decide +kernel
theorem dL_areYears_20 : decode cL_areYears 20 = .ok (.aload_n 0, 1) := by decide +kernel
theorem dL_areYears_21 : decode cL_areYears 21 = .ok (.iload_n 1, 1) := by decide +kernel
theorem dL_areYears_22 : decode cL_areYears 22 = .ok (.iconst 0, 1) := by decide +kernel
theorem dL_areYears_23 : decode cL_areYears 23 = .ok (.iconst 0, 1) := by decide +kernel
theorem dL_areYears_24 : decode cL_areYears 24 = .ok (.invokevirtual 29, 3) := by decide +kernel
theorem dL_areYears_27 : decode cL_areYears 27 = .ok (.iconst (-1), 1) := by decide +kernel
theorem dL_areYears_28 : decode cL_areYears 28 = .ok (.if_icmp .ne 47, 3) := by decide +kernel
theorem dL_areYears_31 : decode cL_areYears 31 = .ok (.aload_n 0, 1) := by decide +kernel
theorem dL_areYears_32 : decode cL_areYears 32 = .ok (.iload_n 1, 1) := by decide +kernel
theorem dL_areYears_33 : decode cL_areYears 33 = .ok (.iconst 0, 1) := by decide +kernel
theorem dL_areYears_34 : decode cL_areYears 34 = .ok (.iconst 1, 1) := by decide +kernel
theorem dL_areYears_35 : decode cL_areYears 35 = .ok (.invokevirtual 33, 3) := by decide +kernel
theorem dL_areYears_38 : decode cL_areYears 38 = .ok (.iconst (-1), 1) := by decide +kernel
theorem dL_areYears_39 : decode cL_areYears 39 = .ok (.if_icmp .ne 36, 3) := by decide +kernel
theorem dL_areYears_42 : decode cL_areYears 42 = .ok (.aload_n 0, 1) := by decide +kernel
theorem dL_areYears_43 : decode cL_areYears 43 = .ok (.iconst 2, 1) := by decide +kernel
theorem dL_areYears_44 : decode cL_areYears 44 = .ok (.invokevirtual 8, 3) := by decide +kernel
theorem dL_areYears_47 : decode cL_areYears 47 = .ok (.ifCond .gt 24, 3) := by decide +kernel
theorem dL_areYears_50 : decode cL_areYears 50 = .ok (.aload_n 0, 1) := by decide +kernel
theorem dL_areYears_51 : decode cL_areYears 51 = .ok (.bipush 8, 2) := by decide +kernel
theorem dL_areYears_53 : decode cL_areYears 53 = .ok (.invokevirtual 8, 3) := by decide +kernel
theorem dL_areYears_56 : decode cL_areYears 56 = .ok (.bipush (-5), 2) := by decide +kernel
theorem dL_areYears_58 : decode cL_areYears 58 = .ok (.if_icmp .ne 17, 3) := by decide +kernel
theorem dL_areYears_61 : decode cL_areYears 61 = .ok (.aload_n 0, 1) := by decide +kernel
theorem dL_areYears_62 : decode cL_areYears 62 = .ok (.iconst 0, 1) := by decide +kernel
theorem dL_areYears_63 : decode cL_areYears 63 = .ok (.invokevirtual 36, 3) := by decide +kernel
theorem dL_areYears_66 : decode cL_areYears 66 = .ok (.bipush (-5), 2) := by decide +kernel
theorem dL_areYears_68 : decode cL_areYears 68 = .ok (.if_icmp .ne 7, 3) := by decide +kernel
theorem dL_areYears_71 : decode cL_areYears 71 = .ok (.iconst 1, 1) := by decide +kernel
theorem dL_areYears_72 : decode cL_areYears 72 = .ok (.goto 4, 3) := by decide +kernel
theorem dL_areYears_75 : decode cL_areYears 75 = .ok (.iconst 0, 1) := by decide +kernel
theorem dL_areYears_76 : decode cL_areYears 76 = .ok (.ireturn, 1) := by decide +kernel
theorem dL_areYears_77 : decode cL_areYears 77 = .ok (.iconst 0, 1) := by decide +kernel
theorem dL_areYears_78 : decode cL_areYears 78 = .ok (.istore_n 3, 1) := by decide +kernel
theorem dL_areYears_79 : decode cL_areYears 79 = .ok (.iconst 0, 1) := by decide +kernel
theorem dL_areYears_80 : decode cL_areYears 80 = .ok (.istore 4, 2) := by decide +kernel
theorem dL_areYears_82 : decode cL_areYears 82 = .ok (.iload 4, 2) := by decide +kernel
theorem dL_areYears_84 : decode cL_areYears 84 = .ok (.bipush 20, 2) := by decide +kernel
theorem dL_areYears_86 : decode cL_areYears 86 = .ok (.if_icmp .ge 210, 3) := by decide +kernel
theorem dL_areYears_89 : decode cL_areYears 89 = .ok (.iconst 0, 1) := by decide +kernel
theorem dL_areYears_90 : decode cL_areYears 90 = .ok (.istore 5, 2) := by decide +kernel
theorem dL_areYears_92 : decode cL_areYears 92 = .ok (.iconst 0, 1) := by decide +kernel
theorem dL_areYears_93 : decode cL_areYears 93 = .ok (.istore 6, 2) := by decide +kernel
theorem dL_areYears_95 : decode cL_areYears 95 = .ok (.iconst 0, 1) := by decide +kernel
theorem dL_areYears_96 : decode cL_areYears 96 = .ok (.istore 7, 2) := by decide +kernel
theorem dL_areYears_98 : decode cL_areYears 98 = .ok (.iload 7, 2) := by decide +kernel
theorem dL_areYears_100 : decode cL_areYears 100 = .ok (.bipush 20, 2) := by decide +kernel
theorem dL_areYears_102 : decode cL_areYears 102 = .ok (.if_icmp .ge 69, 3) := by decide +kernel
theorem dL_areYears_105 : decode cL_areYears 105 = .ok (.iload 7, 2) := by decide +kernel
theorem dL_areYears_107 : decode cL_areYears 107 = .ok (.iload 4, 2) := by decide +kernel
theorem dL_areYears_109 : decode cL_areYears 109 = .ok (.isub, 1) := by decide +kernel
theorem dL_areYears_110 : decode cL_areYears 110 = .ok (.invokestatic 26, 3) := by decide +kernel
theorem dL_areYears_113 : decode cL_areYears 113 = .ok (.iload_n 2, 1) := by decide +kernel
theorem dL_areYears_114 : decode cL_areYears 114 = .ok (.if_icmp .gt 7, 3) := by decide +kernel
theorem dL_areYears_117 : decode cL_areYears 117 = .ok (.iconst 1, 1) := by decide +kernel
theorem dL_areYears_118 : decode cL_areYears 118 = .ok (.goto 4, 3) := by decide +kernel
theorem dL_areYears_121 : decode cL_areYears 121 = .ok (.iconst 0, 1) := by decide +kernel
theorem dL_areYears_122 : decode cL_areYears 122 = .ok (.istore 8, 2) := by decide +kernel
theorem dL_areYears_124 : decode cL_areYears 124 = .ok (.iload 5, 2) := by decide +kernel
theorem dL_areYears_126 : decode cL_areYears 126 = .ok (.iload 8, 2) := by decide +kernel
theorem dL_areYears_128 : decode cL_areYears 128 = .ok (.ifCond .eq 18, 3) := by decide +kernel
theorem dL_areYears_131 : decode cL_areYears 131 = .ok (.aload_n 0, 1) := by decide +kernel
theorem dL_areYears_132 : decode cL_areYears 132 = .ok (.iload_n 1, 1) := by decide +kernel
theorem dL_areYears_133 : decode cL_areYears 133 = .ok (.iload 7, 2) := by decide +kernel
theorem dL_areYears_135 : decode cL_areYears 135 = .ok (.iconst 1, 1) := by decide +kernel
theorem dL_areYears_136 : decode cL_areYears 136 = .ok (.invokevirtual 29, 3) := by decide +kernel
theorem dL_areYears_139 : decode cL_areYears 139 = .ok (.sipush 1000, 3) := by decide +kernel
theorem dL_areYears_142 : decode cL_areYears 142 = .ok (.isub, 1) := by decide +kernel
theorem dL_areYears_143 : decode cL_areYears 143 = .ok (.goto 4, 3) := by decide +kernel
theorem dL_areYears_146 : decode cL_areYears 146 = .ok (.iconst 0, 1) := by decide +kernel
theorem dL_areYears_147 : decode cL_areYears 147 = .ok (.iadd, 1) := by decide +kernel
theorem dL_areYears_148 : decode cL_areYears 148 = .ok (.istore 5, 2) := by decide +kernel
theorem dL_areYears_150 : decode cL_areYears 150 = .ok (.iload 6, 2) := by decide +kernel
theorem dL_areYears_152 : decode cL_areYears 152 = .ok (.iload 8, 2) := by decide +kernel
theorem dL_areYears_154 : decode cL_areYears 154 = .ok (.ifCond .eq 7, 3) := by decide +kernel
theorem dL_areYears_157 : decode cL_areYears 157 = .ok (.iconst 1, 1) := by decide +kernel
theorem dL_areYears_158 : decode cL_areYears 158 = .ok (.goto 4, 3) := by decide +kernel
theorem dL_areYears_161 : decode cL_areYears 161 = .ok (.iconst 0, 1) := by decide +kernel
theorem dL_areYears_162 : decode cL_areYears 162 = .ok (.iadd, 1) := by decide +kernel
theorem dL_areYears_163 : decode cL_areYears 163 = .ok (.istore 6, 2) := by decide +kernel
theorem dL_areYears_165 : decode cL_areYears 165 = .ok (.iinc 7 1, 3) := by decide +kernel
theorem dL_areYears_168 : decode cL_areYears 168 = .ok (.goto (-70), 3) := by decide +kernel
theorem dL_areYears_171 : decode cL_areYears 171 = .ok (.iload_n 3, 1) := by decide +kernel
theorem dL_areYears_172 : decode cL_areYears 172 = .ok (.aload_n 0, 1) := by decide +kernel
theorem dL_areYears_173 : decode cL_areYears 173 = .ok (.iload_n 1, 1) := by decide +kernel
theorem dL_areYears_174 : decode cL_areYears 174 = .ok (.iload 4, 2) := by decide +kernel
theorem dL_areYears_176 : decode cL_areYears 176 = .ok (.iconst 1, 1) := by decide +kernel
theorem dL_areYears_177 : decode cL_areYears 177 = .ok (.invokevirtual 29, 3) := by decide +kernel
theorem dL_areYears_180 : decode cL_areYears 180 = .ok (.sipush 1000, 3) := by decide +kernel
theorem dL_areYears_183 : decode cL_areYears 183 = .ok (.isub, 1) := by decide +kernel
theorem dL_areYears_184 : decode cL_areYears 184 = .ok (.invokestatic 26, 3) := by decide +kernel
theorem dL_areYears_187 : decode cL_areYears 187 = .ok (.iadd, 1) := by decide +kernel
theorem dL_areYears_188 : decode cL_areYears 188 = .ok (.istore_n 3, 1) := by decide +kernel
theorem dL_areYears_189 : decode cL_areYears 189 = .ok (.aload_n 0, 1) := by decide +kernel
theorem dL_areYears_190 : decode cL_areYears 190 = .ok (.iload_n 1, 1) := by decide +kernel
theorem dL_areYears_191 : decode cL_areYears 191 = .ok (.iload 4, 2) := by decide +kernel
theorem dL_areYears_193 : decode cL_areYears 193 = .ok (.iconst 0, 1) := by decide +kernel
theorem dL_areYears_194 : decode cL_areYears 194 = .ok (.invokevirtual 29, 3) := by decide +kernel
theorem dL_areYears_197 : decode cL_areYears 197 = .ok (.sipush 1000, 3) := by decide +kernel
theorem dL_areYears_200 : decode cL_areYears 200 = .ok (.isub, 1) := by decide +kernel
theorem dL_areYears_201 : decode cL_areYears 201 = .ok (.istore 7, 2) := by decide +kernel
theorem dL_areYears_203 : decode cL_areYears 203 = .ok (.iload 7, 2) := by decide +kernel
theorem dL_areYears_205 : decode cL_areYears 205 = .ok (.aload_n 0, 1) := by decide +kernel
theorem dL_areYears_206 : decode cL_areYears 206 = .ok (.iload_n 1, 1) := by decide +kernel
theorem dL_areYears_207 : decode cL_areYears 207 = .ok (.iload 4, 2) := by decide +kernel
theorem dL_areYears_209 : decode cL_areYears 209 = .ok (.iconst 1, 1) := by decide +kernel
theorem dL_areYears_210 : decode cL_areYears 210 = .ok (.invokevirtual 29, 3) := by decide +kernel
theorem dL_areYears_213 : decode cL_areYears 213 = .ok (.sipush 1000, 3) := by decide +kernel
theorem dL_areYears_216 : decode cL_areYears 216 = .ok (.isub, 1) := by decide +kernel
theorem dL_areYears_217 : decode cL_areYears 217 = .ok (.isub, 1) := by decide +kernel
theorem dL_areYears_218 : decode cL_areYears 218 = .ok (.istore 8, 2) := by decide +kernel
theorem dL_areYears_220 : decode cL_areYears 220 = .ok (.aload_n 0, 1) := by decide +kernel
theorem dL_areYears_221 : decode cL_areYears 221 = .ok (.iload_n 1, 1) := by decide +kernel
theorem dL_areYears_222 : decode cL_areYears 222 = .ok (.iload 4, 2) := by decide +kernel
theorem dL_areYears_224 : decode cL_areYears 224 = .ok (.iconst 0, 1) := by decide +kernel
theorem dL_areYears_225 : decode cL_areYears 225 = .ok (.invokevirtual 33, 3) := by decide +kernel
theorem dL_areYears_228 : decode cL_areYears 228 = .ok (.iload 5, 2) := by decide +kernel
theorem dL_areYears_230 : decode cL_areYears 230 = .ok (.iload 6, 2) := by decide +kernel
theorem dL_areYears_232 : decode cL_areYears 232 = .ok (.idiv, 1) := by decide +kernel
theorem dL_areYears_233 : decode cL_areYears 233 = .ok (.sipush 1000, 3) := by decide +kernel
theorem dL_areYears_236 : decode cL_areYears 236 = .ok (.iadd, 1) := by decide +kernel
theorem dL_areYears_237 : decode cL_areYears 237 = .ok (.if_icmp .ne 51, 3) := by decide +kernel
theorem dL_areYears_240 : decode cL_areYears 240 = .ok (.aload_n 0, 1) := by decide +kernel
theorem dL_areYears_241 : decode cL_areYears 241 = .ok (.iload_n 1, 1) := by decide +kernel
theorem dL_areYears_242 : decode cL_areYears 242 = .ok (.iload 4, 2) := by decide +kernel
theorem dL_areYears_244 : decode cL_areYears 244 = .ok (.iconst 1, 1) := by decide +kernel
theorem dL_areYears_245 : decode cL_areYears 245 = .ok (.invokevirtual 33, 3) := by decide +kernel
theorem dL_areYears_248 : decode cL_areYears 248 = .ok (.iload 5, 2) := by decide +kernel
theorem dL_areYears_250 : decode cL_areYears 250 = .ok (.iload 6, 2) := by decide +kernel
theorem dL_areYears_252 : decode cL_areYears 252 = .ok (.idiv, 1) := by decide +kernel
theorem dL_areYears_253 : decode cL_areYears 253 = .ok (.sipush 1000, 3) := by decide +kernel
theorem dL_areYears_256 : decode cL_areYears 256 = .ok (.iadd, 1) := by decide +kernel
theorem dL_areYears_257 : decode cL_areYears 257 = .ok (.if_icmp .ne 31, 3) := by decide +kernel
theorem dL_areYears_260 : decode cL_areYears 260 = .ok (.iload 7, 2) := by decide +kernel
theorem dL_areYears_262 : decode cL_areYears 262 = .ok (.bipush (-40), 2) := by decide +kernel
theorem dL_areYears_264 : decode cL_areYears 264 = .ok (.if_icmp .lt 24, 3) := by decide +kernel
theorem dL_areYears_267 : decode cL_areYears 267 = .ok (.iload 7, 2) := by decide +kernel
theorem dL_areYears_269 : decode cL_areYears 269 = .ok (.bipush 40, 2) := by decide +kernel
theorem dL_areYears_271 : decode cL_areYears 271 = .ok (.if_icmp .gt 17, 3) := by decide +kernel
theorem dL_areYears_274 : decode cL_areYears 274 = .ok (.iload 8, 2) := by decide +kernel
theorem dL_areYears_276 : decode cL_areYears 276 = .ok (.bipush (-40), 2) := by decide +kernel
theorem dL_areYears_278 : decode cL_areYears 278 = .ok (.if_icmp .lt 10, 3) := by decide +kernel
theorem dL_areYears_281 : decode cL_areYears 281 = .ok (.iload 8, 2) := by decide +kernel
theorem dL_areYears_283 : decode cL_areYears 283 = .ok (.bipush 40, 2) := by decide +kernel
theorem dL_areYears_285 : decode cL_areYears 285 = .ok (.if_icmp .le 5, 3) := by decide +kernel
theorem dL_areYears_288 : decode cL_areYears 288 = .ok (.iconst 0, 1) := by decide +kernel
theorem dL_areYears_289 : decode cL_areYears 289 = .ok (.ireturn, 1) := by decide +kernel
theorem dL_areYears_290 : decode cL_areYears 290 = .ok (.iinc 4 1, 3) := by decide +kernel
theorem dL_areYears_293 : decode cL_areYears 293 = .ok (.goto (-211), 3) := by decide +kernel
theorem dL_areYears_296 : decode cL_areYears 296 = .ok (.iload_n 1, 1) := by decide +kernel
theorem dL_areYears_297 : decode cL_areYears 297 = .ok (.ifCond .gt 13, 3) := by decide +kernel
theorem dL_areYears_300 : decode cL_areYears 300 = .ok (.aload_n 0, 1) := by decide +kernel
theorem dL_areYears_301 : decode cL_areYears 301 = .ok (.bipush 8, 2) := by decide +kernel
theorem dL_areYears_303 : decode cL_areYears 303 = .ok (.invokevirtual 8, 3) := by decide +kernel
theorem dL_areYears_306 : decode cL_areYears 306 = .ok (.iload_n 3, 1) := by decide +kernel
theorem dL_areYears_307 : decode cL_areYears 307 = .ok (.if_icmp .ne 7, 3) := by decide +kernel
theorem dL_areYears_310 : decode cL_areYears 310 = .ok (.iconst 1, 1) := by decide +kernel
theorem dL_areYears_311 : decode cL_areYears 311 = .ok (.goto 4, 3) := by decide +kernel
theorem dL_areYears_314 : decode cL_areYears 314 = .ok (.iconst 0, 1) := by decide +kernel
theorem dL_areYears_315 : decode cL_areYears 315 = .ok (.ireturn, 1) := by decide +kernel
theorem dL_isDay_0 : decode cL_isDay 0 = .ok (.aload_n 0, 1) := by decide +kernel
theorem dL_isDay_1 : decode cL_isDay 1 = .ok (.iconst 1, 1) := by decide +kernel
theorem dL_isDay_2 : decode cL_isDay 2 = .ok (.invokevirtual 8, 3) := by decide +kernel
theorem dL_isDay_5 : decode cL_isDay 5 = .ok (.istore_n 3, 1) := by decide +kernel
theorem dL_isDay_6 : decode cL_isDay 6 = .ok (.aload_n 0, 1) := by decide +kernel
theorem dL_isDay_7 : decode cL_isDay 7 = .ok (.iload_n 3, 1) := by decide +kernel
theorem dL_isDay_8 : decode cL_isDay 8 = .ok (.iconst 1, 1) := by decide +kernel
theorem dL_isDay_9 : decode cL_isDay 9 = .ok (.invokevirtual 14, 3) := by decide +kernel
theorem dL_isDay_12 : decode cL_isDay 12 = .ok (.sipush 1000, 3) := by decide +kernel
theorem dL_isDay_15 : decode cL_isDay 15 = .ok (.isub, 1) := by decide +kernel
theorem dL_isDay_16 : decode cL_isDay 16 = .ok (.istore 4, 2) := by decide +kernel
theorem dL_isDay_18 : decode cL_isDay 18 = .ok (.aload_n 0, 1) := by decide +kernel
theorem dL_isDay_19 : decode cL_isDay 19 = .ok (.iload_n 3, 1) := by decide +kernel
theorem dL_isDay_20 : decode cL_isDay 20 = .ok (.iconst 4, 1) := by decide +kernel
theorem dL_isDay_21 : decode cL_isDay 21 = .ok (.invokevirtual 14, 3) := by decide +kernel
theorem dL_isDay_24 : decode cL_isDay 24 = .ok (.istore 5, 2) := by decide +kernel
theorem dL_isDay_26 : decode cL_isDay 26 = .ok (.iload_n 1, 1) := by decide +kernel
theorem dL_isDay_27 : decode cL_isDay 27 = .ok (.ifCond .gt 7, 3) := by decide +kernel
theorem dL_isDay_30 : decode cL_isDay 30 = .ok (.iconst 1, 1) := by decide +kernel
theorem dL_isDay_31 : decode cL_isDay 31 = .ok (.goto 4, 3) := by decide +kernel
theorem dL_isDay_34 : decode cL_isDay 34 = .ok (.iconst 0, 1) := by decide +kernel
theorem dL_isDay_35 : decode cL_isDay 35 = .ok (.istore 6, 2) := by decide +kernel
theorem dL_isDay_37 : decode cL_isDay 37 = .ok (.aload_n 0, 1) := by decide +kernel
theorem dL_isDay_38 : decode cL_isDay 38 = .ok (.bipush 15, 2) := by decide +kernel
theorem dL_isDay_40 : decode cL_isDay 40 = .ok (.invokevirtual 8, 3) := by decide +kernel
theorem dL_isDay_43 : decode cL_isDay 43 = .ok (.sipush 1000, 3) := by decide +kernel
theorem dL_isDay_46 : decode cL_isDay 46 = .ok (.isub, 1) := by decide +kernel
theorem dL_isDay_47 : decode cL_isDay 47 = .ok (.istore 7, 2) := by decide +kernel
theorem dL_isDay_49 : decode cL_isDay 49 = .ok (.aload_n 0, 1) := by decide +kernel
theorem dL_isDay_50 : decode cL_isDay 50 = .ok (.bipush 9, 2) := by decide +kernel
theorem dL_isDay_52 : decode cL_isDay 52 = .ok (.invokevirtual 8, 3) := by decide +kernel
theorem dL_isDay_55 : decode cL_isDay 55 = .ok (.istore 8, 2) := by decide +kernel
theorem dL_isDay_57 : decode cL_isDay 57 = .ok (.aload_n 0, 1) := by decide +kernel
theorem dL_isDay_58 : decode cL_isDay 58 = .ok (.iconst 0, 1) := by decide +kernel
theorem dL_isDay_59 : decode cL_isDay 59 = .ok (.invokevirtual 8, 3) := by decide +kernel
theorem dL_isDay_62 : decode cL_isDay 62 = .ok (.istore 9, 2) := by decide +kernel
theorem dL_isDay_64 : decode cL_isDay 64 = .ok (.aload_n 0, 1) := by decide +kernel
theorem dL_isDay_65 : decode cL_isDay 65 = .ok (.iconst 4, 1) := by decide +kernel
theorem dL_isDay_66 : decode cL_isDay 66 = .ok (.invokevirtual 8, 3) := by decide +kernel
theorem dL_isDay_69 : decode cL_isDay 69 = .ok (.istore 10, 2) := by decide +kernel
theorem dL_isDay_71 : decode cL_isDay 71 = .ok (.aload_n 0, 1) := by decide +kernel
theorem dL_isDay_72 : decode cL_isDay 72 = .ok (.iconst 5, 1) := by decide +kernel
theorem dL_isDay_73 : decode cL_isDay 73 = .ok (.invokevirtual 8, 3) := by decide +kernel
theorem dL_isDay_76 : decode cL_isDay 76 = .ok (.istore 11, 2) := by decide +kernel
theorem dL_isDay_78 : decode cL_isDay 78 = .ok (.aload_n 0, 1) := by decide +kernel
theorem dL_isDay_79 : decode cL_isDay 79 = .ok (.bipush 6, 2) := by decide +kernel
theorem dL_isDay_81 : decode cL_isDay 81 = .ok (.invokevirtual 8, 3) := by decide +kernel
theorem dL_isDay_84 : decode cL_isDay 84 = .ok (.istore 12, 2) := by decide +kernel
theorem dL_isDay_86 : decode cL_isDay 86 = .ok (.iconst 0, 1) := by decide +kernel
theorem dL_isDay_87 : decode cL_isDay 87 = .ok (.istore 13, 2) := by decide +kernel
theorem dL_isDay_89 : decode cL_isDay 89 = .ok (.iconst 0, 1) := by decide +kernel
theorem dL_isDay_90 : decode cL_isDay 90 = .ok (.istore 14, 2) := by decide +kernel
theorem dL_isDay_92 : decode cL_isDay 92 = .ok (.iload 14, 2) := by decide +kernel
theorem dL_isDay_94 : decode cL_isDay 94 = .ok (.iconst 4, 1) := by decide +kernel
theorem dL_isDay_95 : decode cL_isDay 95 = .ok (.if_icmp .ge 203, 3) := by decide +kernel
theorem dL_isDay_98 : decode cL_isDay 98 = .ok (.aload_n 0, 1) := by decide +kernel
theorem dL_isDay_99 : decode cL_isDay 99 = .ok (.iload 14, 2) := by decide +kernel
theorem dL_isDay_101 : decode cL_isDay 101 = .ok (.iconst 1, 1) := by decide +kernel
theorem dL_isDay_102 : decode cL_isDay 102 = .ok (.invokevirtual 39, 3) := by decide +kernel
theorem dL_isDay_105 : decode cL_isDay 105 = .ok (.istore 15, 2) := by decide +kernel
theorem dL_isDay_107 : decode cL_isDay 107 = .ok (.aload_n 0, 1) := by decide +kernel
theorem dL_isDay_108 : decode cL_isDay 108 = .ok (.iload 14, 2) := by decide +kernel
theorem dL_isDay_110 : decode cL_isDay 110 = .ok (.iconst 2, 1) := by decide +kernel
theorem dL_isDay_111 : decode cL_isDay 111 = .ok (.invokevirtual 39, 3) := by decide +kernel
theorem dL_isDay_114 : decode cL_isDay 114 = .ok (.iconst 1, 1) := by decide +kernel
theorem dL_isDay_115 : decode cL_isDay 115 = .ok (.if_icmp .ne 7, 3) := by decide +kernel
theorem dL_isDay_118 : decode cL_isDay 118 = .ok (.iconst 1, 1) := by decide +kernel
theorem dL_isDay_119 : decode cL_isDay 119 = .ok (.goto 4, 3) := by decide +kernel
theorem dL_isDay_122 : decode cL_isDay 122 = .ok (.iconst 0, 1) := by decide +kernel
theorem dL_isDay_123 : decode cL_isDay 123 = .ok (.iload 6, 2) := by decide +kernel
theorem dL_isDay_125 : decode cL_isDay 125 = .ok (.if_icmp .ne 7, 3) := by decide +kernel
theorem dL_isDay_128 : decode cL_isDay 128 = .ok (.iconst 1, 1) := by decide +kernel
theorem dL_isDay_129 : decode cL_isDay 129 = .ok (.goto 4, 3) := by decide +kernel
theorem dL_isDay_132 : decode cL_isDay 132 = .ok (.iconst 0, 1) := by decide +kernel
theorem dL_isDay_133 : decode cL_isDay 133 = .ok (.istore 16, 2) := by decide +kernel
theorem dL_isDay_135 : decode cL_isDay 135 = .ok (.iload 15, 2) := by decide +kernel
theorem dL_isDay_137 : decode cL_isDay 137 = .ok (.ifCond .ne 7, 3) := by decide +kernel
theorem dL_isDay_140 : decode cL_isDay 140 = .ok (.iconst 0, 1) := by decide +kernel
theorem dL_isDay_141 : decode cL_isDay 141 = .ok (.goto 36, 3) := by decide +kernel
theorem dL_isDay_144 : decode cL_isDay 144 = .ok (.iload 16, 2) := by decide +kernel
theorem dL_isDay_146 : decode cL_isDay 146 = .ok (.ifCond .ne 9, 3) := by decide +kernel
theorem dL_isDay_149 : decode cL_isDay 149 = .ok (.iload 15, 2) := by decide +kernel
theorem dL_isDay_151 : decode cL_isDay 151 = .ok (.ineg, 1) := by decide +kernel
theorem dL_isDay_152 : decode cL_isDay 152 = .ok (.goto 25, 3) := by decide +kernel
theorem dL_isDay_155 : decode cL_isDay 155 = .ok (.iload 5, 2) := by decide +kernel
theorem dL_isDay_157 : decode cL_isDay 157 = .ok (.aload_n 0, 1) := by decide +kernel
theorem dL_isDay_158 : decode cL_isDay 158 = .ok (.iload 14, 2) := by decide +kernel
theorem dL_isDay_160 : decode cL_isDay 160 = .ok (.iconst 2, 1) := by decide +kernel
theorem dL_isDay_161 : decode cL_isDay 161 = .ok (.invokevirtual 39, 3) := by decide +kernel
theorem dL_isDay_164 : decode cL_isDay 164 = .ok (.if_icmp .ne 8, 3) := by decide +kernel
theorem dL_isDay_167 : decode cL_isDay 167 = .ok (.iload 15, 2) := by decide +kernel
theorem dL_isDay_169 : decode cL_isDay 169 = .ok (.goto 8, 3) := by decide +kernel
theorem dL_isDay_172 : decode cL_isDay 172 = .ok (.iload 15, 2) := by decide +kernel
theorem dL_isDay_174 : decode cL_isDay 174 = .ok (.iload 7, 2) := by decide +kernel
theorem dL_isDay_176 : decode cL_isDay 176 = .ok (.imul, 1) := by decide +kernel
theorem dL_isDay_177 : decode cL_isDay 177 = .ok (.istore 17, 2) := by decide +kernel
theorem dL_isDay_179 : decode cL_isDay 179 = .ok (.aload_n 2, 1) := by decide +kernel
theorem dL_isDay_180 : decode cL_isDay 180 = .ok (.iload 14, 2) := by decide +kernel
theorem dL_isDay_182 : decode cL_isDay 182 = .ok (.aload_n 0, 1) := by decide +kernel
theorem dL_isDay_183 : decode cL_isDay 183 = .ok (.iload 14, 2) := by decide +kernel
theorem dL_isDay_185 : decode cL_isDay 185 = .ok (.iconst 0, 1) := by decide +kernel
theorem dL_isDay_186 : decode cL_isDay 186 = .ok (.invokevirtual 39, 3) := by decide +kernel
theorem dL_isDay_189 : decode cL_isDay 189 = .ok (.iload 16, 2) := by decide +kernel
theorem dL_isDay_191 : decode cL_isDay 191 = .ok (.ifCond .eq 16, 3) := by decide +kernel
theorem dL_isDay_194 : decode cL_isDay 194 = .ok (.iload 15, 2) := by decide +kernel
theorem dL_isDay_196 : decode cL_isDay 196 = .ok (.ifCond .le 11, 3) := by decide +kernel
theorem dL_isDay_199 : decode cL_isDay 199 = .ok (.iload 15, 2) := by decide +kernel
theorem dL_isDay_201 : decode cL_isDay 201 = .ok (.iload 17, 2) := by decide +kernel
theorem dL_isDay_203 : decode cL_isDay 203 = .ok (.iadd, 1) := by decide +kernel
theorem dL_isDay_204 : decode cL_isDay 204 = .ok (.goto 4, 3) := by decide +kernel
theorem dL_isDay_207 : decode cL_isDay 207 = .ok (.iconst 0, 1) := by decide +kernel
theorem dL_isDay_208 : decode cL_isDay 208 = .ok (.iadd, 1) := by decide +kernel
theorem dL_isDay_209 : decode cL_isDay 209 = .ok (.iastore, 1) := by decide +kernel
theorem dL_isDay_210 : decode cL_isDay 210 = .ok (.aload_n 2, 1) := by decide +kernel
theorem dL_isDay_211 : decode cL_isDay 211 = .ok (.iconst 4, 1) := by decide +kernel
theorem dL_isDay_212 : decode cL_isDay 212 = .ok (.iload 14, 2) := by decide +kernel
theorem dL_isDay_214 : decode cL_isDay 214 = .ok (.iadd, 1) := by decide +kernel
theorem dL_isDay_215 : decode cL_isDay 215 = .ok (.aload_n 0, 1) := by decide +kernel
theorem dL_isDay_216 : decode cL_isDay 216 = .ok (.iload 14, 2) := by decide +kernel
theorem dL_isDay_218 : decode cL_isDay 218 = .ok (.iconst 3, 1) := by decide +kernel
theorem dL_isDay_219 : decode cL_isDay 219 = .ok (.invokevirtual 39, 3) := by decide +kernel
theorem dL_isDay_222 : decode cL_isDay 222 = .ok (.iload 16, 2) := by decide +kernel
theorem dL_isDay_224 : decode cL_isDay 224 = .ok (.ifCond .eq 12, 3) := by decide +kernel
theorem dL_isDay_227 : decode cL_isDay 227 = .ok (.iload 15, 2) := by decide +kernel
theorem dL_isDay_229 : decode cL_isDay 229 = .ok (.ifCond .le 7, 3) := by decide +kernel
theorem dL_isDay_232 : decode cL_isDay 232 = .ok (.iconst 1, 1) := by decide +kernel
theorem dL_isDay_233 : decode cL_isDay 233 = .ok (.goto 4, 3) := by decide +kernel
theorem dL_isDay_236 : decode cL_isDay 236 = .ok (.iconst 0, 1) := by decide +kernel
theorem dL_isDay_237 : decode cL_isDay 237 = .ok (.iadd, 1) := by decide +kernel
theorem dL_isDay_238 : decode cL_isDay 238 = .ok (.iastore, 1) := by decide +kernel
theorem dL_isDay_239 : decode cL_isDay 239 = .ok (.aload_n 2, 1) := by decide +kernel
theorem dL_isDay_240 : decode cL_isDay 240 = .ok (.bipush 8, 2) := by decide +kernel
theorem dL_isDay_242 : decode cL_isDay 242 = .ok (.iload 14, 2) := by decide +kernel
theorem dL_isDay_244 : decode cL_isDay 244 = .ok (.iadd, 1) := by decide +kernel
theorem dL_isDay_245 : decode cL_isDay 245 = .ok (.aload_n 0, 1) := by decide +kernel
theorem dL_isDay_246 : decode cL_isDay 246 = .ok (.iload 14, 2) := by decide +kernel
theorem dL_isDay_248 : decode cL_isDay 248 = .ok (.iconst 4, 1) := by decide +kernel
theorem dL_isDay_249 : decode cL_isDay 249 = .ok (.invokevirtual 39, 3) := by decide +kernel
theorem dL_isDay_252 : decode cL_isDay 252 = .ok (.iload 16, 2) := by decide +kernel
theorem dL_isDay_254 : decode cL_isDay 254 = .ok (.ifCond .ne 12, 3) := by decide +kernel
theorem dL_isDay_257 : decode cL_isDay 257 = .ok (.iload 15, 2) := by decide +kernel
theorem dL_isDay_259 : decode cL_isDay 259 = .ok (.ifCond .le 7, 3) := by decide +kernel
theorem dL_isDay_262 : decode cL_isDay 262 = .ok (.iconst 1, 1) := by decide +kernel
theorem dL_isDay_263 : decode cL_isDay 263 = .ok (.goto 4, 3) := by decide +kernel
theorem dL_isDay_266 : decode cL_isDay 266 = .ok (.iconst 0, 1) := by decide +kernel
theorem dL_isDay_267 : decode cL_isDay 267 = .ok (.iadd, 1) := by decide +kernel
theorem dL_isDay_268 : decode cL_isDay 268 = .ok (.iastore, 1) := by decide +kernel
theorem dL_isDay_269 : decode cL_isDay 269 = .ok (.iload 13, 2) := by decide +kernel
theorem dL_isDay_271 : decode cL_isDay 271 = .ok (.iload 17, 2) := by decide +kernel
theorem dL_isDay_273 : decode cL_isDay 273 = .ok (.iadd, 1) := by decide +kernel
theorem dL_isDay_274 : decode cL_isDay 274 = .ok (.istore 13, 2) := by decide +kernel
theorem dL_isDay_276 : decode cL_isDay 276 = .ok (.aload_n 0, 1) := by decide +kernel
theorem dL_isDay_277 : decode cL_isDay 277 = .ok (.iload 14, 2) := by decide +kernel
theorem dL_isDay_279 : decode cL_isDay 279 = .ok (.iload_n 1, 1) := by decide +kernel
theorem dL_isDay_280 : decode cL_isDay 280 = .ok (.invokevirtual 42, 3) := by decide +kernel
theorem dL_isDay_283 : decode cL_isDay 283 = .ok (.aload_n 2, 1) := by decide +kernel
theorem dL_isDay_284 : decode cL_isDay 284 = .ok (.iload 14, 2) := by decide +kernel
theorem dL_isDay_286 : decode cL_isDay 286 = .ok (.iaload, 1) := by decide +kernel
theorem dL_isDay_287 : decode cL_isDay 287 = .ok (.if_icmp .eq 5, 3) := by decide +kernel
theorem dL_isDay_290 : decode cL_isDay 290 = .ok (.iconst 0, 1) := by decide +kernel
theorem dL_isDay_291 : decode cL_isDay 291 = .ok (.ireturn, 1) := by decide +kernel
theorem dL_isDay_292 : decode cL_isDay 292 = .ok (.iinc 14 1, 3) := by decide +kernel
theorem dL_isDay_295 : decode cL_isDay 295 = .ok (.goto (-203), 3) := by decide +kernel
theorem dL_isDay_298 : decode cL_isDay 298 = .ok (.iconst 0, 1) := by decide +kernel
theorem dL_isDay_299 : decode cL_isDay 299 = .ok (.istore 14, 2) := by decide +kernel
theorem dL_isDay_301 : decode cL_isDay 301 = .ok (.iload 14, 2) := by decide +kernel
theorem dL_isDay_303 : decode cL_isDay 303 = .ok (.bipush 20, 2) := by decide +kernel
theorem dL_isDay_305 : decode cL_isDay 305 = .ok (.if_icmp .ge 78, 3) := by decide +kernel
theorem dL_isDay_308 : decode cL_isDay 308 = .ok (.aload_n 2, 1) := by decide +kernel
theorem dL_isDay_309 : decode cL_isDay 309 = .ok (.bipush 12, 2) := by decide +kernel
theorem dL_isDay_311 : decode cL_isDay 311 = .ok (.iload 14, 2) := by decide +kernel
theorem dL_isDay_313 : decode cL_isDay 313 = .ok (.iadd, 1) := by decide +kernel
theorem dL_isDay_314 : decode cL_isDay 314 = .ok (.iload 14, 2) := by decide +kernel
theorem dL_isDay_316 : decode cL_isDay 316 = .ok (.iload_n 3, 1) := by decide +kernel
theorem dL_isDay_317 : decode cL_isDay 317 = .ok (.if_icmp .le 7, 3) := by decide +kernel
theorem dL_isDay_320 : decode cL_isDay 320 = .ok (.iconst 0, 1) := by decide +kernel
theorem dL_isDay_321 : decode cL_isDay 321 = .ok (.goto 25, 3) := by decide +kernel
theorem dL_isDay_324 : decode cL_isDay 324 = .ok (.iload 14, 2) := by decide +kernel
theorem dL_isDay_326 : decode cL_isDay 326 = .ok (.iload_n 3, 1) := by decide +kernel
theorem dL_isDay_327 : decode cL_isDay 327 = .ok (.if_icmp .ne 8, 3) := by decide +kernel
theorem dL_isDay_330 : decode cL_isDay 330 = .ok (.iload 4, 2) := by decide +kernel
theorem dL_isDay_332 : decode cL_isDay 332 = .ok (.goto 14, 3) := by decide +kernel
theorem dL_isDay_335 : decode cL_isDay 335 = .ok (.aload_n 0, 1) := by decide +kernel
theorem dL_isDay_336 : decode cL_isDay 336 = .ok (.iload 14, 2) := by decide +kernel
theorem dL_isDay_338 : decode cL_isDay 338 = .ok (.iconst 1, 1) := by decide +kernel
theorem dL_isDay_339 : decode cL_isDay 339 = .ok (.invokevirtual 14, 3) := by decide +kernel
theorem dL_isDay_342 : decode cL_isDay 342 = .ok (.sipush 1000, 3) := by decide +kernel
theorem dL_isDay_345 : decode cL_isDay 345 = .ok (.isub, 1) := by decide +kernel
theorem dL_isDay_346 : decode cL_isDay 346 = .ok (.iastore, 1) := by decide +kernel
theorem dL_isDay_347 : decode cL_isDay 347 = .ok (.aload_n 2, 1) := by decide +kernel
theorem dL_isDay_348 : decode cL_isDay 348 = .ok (.bipush 32, 2) := by decide +kernel
theorem dL_isDay_350 : decode cL_isDay 350 = .ok (.iload 14, 2) := by decide +kernel
theorem dL_isDay_352 : decode cL_isDay 352 = .ok (.iadd, 1) := by decide +kernel
theorem dL_isDay_353 : decode cL_isDay 353 = .ok (.iload_n 3, 1) := by decide +kernel
theorem dL_isDay_354 : decode cL_isDay 354 = .ok (.bipush 19, 2) := by decide +kernel
theorem dL_isDay_356 : decode cL_isDay 356 = .ok (.if_icmp .ne 13, 3) := by decide +kernel
theorem dL_isDay_359 : decode cL_isDay 359 = .ok (.aload_n 0, 1) := by decide +kernel
theorem dL_isDay_360 : decode cL_isDay 360 = .ok (.iload 14, 2) := by decide +kernel
theorem dL_isDay_362 : decode cL_isDay 362 = .ok (.iload_n 1, 1) := by decide +kernel
theorem dL_isDay_363 : decode cL_isDay 363 = .ok (.invokestatic 45, 3) := by decide +kernel
theorem dL_isDay_366 : decode cL_isDay 366 = .ok (.goto 10, 3) := by decide +kernel
theorem dL_isDay_369 : decode cL_isDay 369 = .ok (.aload_n 0, 1) := by decide +kernel
theorem dL_isDay_370 : decode cL_isDay 370 = .ok (.iload 14, 2) := by decide +kernel
theorem dL_isDay_372 : decode cL_isDay 372 = .ok (.iconst 0, 1) := by decide +kernel
theorem dL_isDay_373 : decode cL_isDay 373 = .ok (.invokevirtual 14, 3) := by decide +kernel
theorem dL_isDay_376 : decode cL_isDay 376 = .ok (.iastore, 1) := by decide +kernel
theorem dL_isDay_377 : decode cL_isDay 377 = .ok (.iinc 14 1, 3) := by decide +kernel
theorem dL_isDay_380 : decode cL_isDay 380 = .ok (.goto (-79), 3) := by decide +kernel
theorem dL_isDay_383 : decode cL_isDay 383 = .ok (.aload_n 0, 1) := by decide +kernel
theorem dL_isDay_384 : decode cL_isDay 384 = .ok (.iload_n 1, 1) := by decide +kernel
theorem dL_isDay_385 : decode cL_isDay 385 = .ok (.invokevirtual 49, 3) := by decide +kernel
theorem dL_isDay_388 : decode cL_isDay 388 = .ok (.iload_n 1, 1) := by decide +kernel
theorem dL_isDay_389 : decode cL_isDay 389 = .ok (.iload 4, 2) := by decide +kernel
theorem dL_isDay_391 : decode cL_isDay 391 = .ok (.isub, 1) := by decide +kernel
theorem dL_isDay_392 : decode cL_isDay 392 = .ok (.sipush 1000, 3) := by decide +kernel
theorem dL_isDay_395 : decode cL_isDay 395 = .ok (.iadd, 1) := by decide +kernel
theorem dL_isDay_396 : decode cL_isDay 396 = .ok (.if_icmp .eq 5, 3) := by decide +kernel
theorem dL_isDay_399 : decode cL_isDay 399 = .ok (.iconst 0, 1) := by decide +kernel
theorem dL_isDay_400 : decode cL_isDay 400 = .ok (.ireturn, 1) := by decide +kernel
theorem dL_isDay_401 : decode cL_isDay 401 = .ok (.iconst 0, 1) := by decide +kernel
theorem dL_isDay_402 : decode cL_isDay 402 = .ok (.istore 14, 2) := by decide +kernel
theorem dL_isDay_404 : decode cL_isDay 404 = .ok (.iload 14, 2) := by decide +kernel
theorem dL_isDay_406 : decode cL_isDay 406 = .ok (.iconst 4, 1) := by decide +kernel
theorem dL_isDay_407 : decode cL_isDay 407 = .ok (.if_icmp .ge 68, 3) := by decide +kernel
theorem dL_isDay_410 : decode cL_isDay 410 = .ok (.aload_n 0, 1) := by decide +kernel
theorem dL_isDay_411 : decode cL_isDay 411 = .ok (.iload 14, 2) := by decide +kernel
theorem dL_isDay_413 : decode cL_isDay 413 = .ok (.iconst 0, 1) := by decide +kernel
theorem dL_isDay_414 : decode cL_isDay 414 = .ok (.invokevirtual 39, 3) := by decide +kernel
theorem dL_isDay_417 : decode cL_isDay 417 = .ok (.aload_n 2, 1) := by decide +kernel
theorem dL_isDay_418 : decode cL_isDay 418 = .ok (.iload 14, 2) := by decide +kernel
theorem dL_isDay_420 : decode cL_isDay 420 = .ok (.iaload, 1) := by decide +kernel
theorem dL_isDay_421 : decode cL_isDay 421 = .ok (.if_icmp .ne 46, 3) := by decide +kernel
theorem dL_isDay_424 : decode cL_isDay 424 = .ok (.aload_n 0, 1) := by decide +kernel
theorem dL_isDay_425 : decode cL_isDay 425 = .ok (.iload 14, 2) := by decide +kernel
theorem dL_isDay_427 : decode cL_isDay 427 = .ok (.iconst 1, 1) := by decide +kernel
theorem dL_isDay_428 : decode cL_isDay 428 = .ok (.invokevirtual 39, 3) := by decide +kernel
theorem dL_isDay_431 : decode cL_isDay 431 = .ok (.ifCond .ne 36, 3) := by decide +kernel
theorem dL_isDay_434 : decode cL_isDay 434 = .ok (.aload_n 0, 1) := by decide +kernel
theorem dL_isDay_435 : decode cL_isDay 435 = .ok (.iload 14, 2) := by decide +kernel
theorem dL_isDay_437 : decode cL_isDay 437 = .ok (.iconst 3, 1) := by decide +kernel
theorem dL_isDay_438 : decode cL_isDay 438 = .ok (.invokevirtual 39, 3) := by decide +kernel
theorem dL_isDay_441 : decode cL_isDay 441 = .ok (.aload_n 2, 1) := by decide +kernel
theorem dL_isDay_442 : decode cL_isDay 442 = .ok (.iconst 4, 1) := by decide +kernel
theorem dL_isDay_443 : decode cL_isDay 443 = .ok (.iload 14, 2) := by decide +kernel
theorem dL_isDay_445 : decode cL_isDay 445 = .ok (.iadd, 1) := by decide +kernel
theorem dL_isDay_446 : decode cL_isDay 446 = .ok (.iaload, 1) := by decide +kernel
theorem dL_isDay_447 : decode cL_isDay 447 = .ok (.if_icmp .ne 20, 3) := by decide +kernel
theorem dL_isDay_450 : decode cL_isDay 450 = .ok (.aload_n 0, 1) := by decide +kernel
theorem dL_isDay_451 : decode cL_isDay 451 = .ok (.iload 14, 2) := by decide +kernel
theorem dL_isDay_453 : decode cL_isDay 453 = .ok (.iconst 4, 1) := by decide +kernel
theorem dL_isDay_454 : decode cL_isDay 454 = .ok (.invokevirtual 39, 3) := by decide +kernel
theorem dL_isDay_457 : decode cL_isDay 457 = .ok (.aload_n 2, 1) := by decide +kernel
theorem dL_isDay_458 : decode cL_isDay 458 = .ok (.bipush 8, 2) := by decide +kernel
theorem dL_isDay_460 : decode cL_isDay 460 = .ok (.iload 14, 2) := by decide +kernel
theorem dL_isDay_462 : decode cL_isDay 462 = .ok (.iadd, 1) := by decide +kernel
theorem dL_isDay_463 : decode cL_isDay 463 = .ok (.iaload, 1) := by decide +kernel
theorem dL_isDay_464 : decode cL_isDay 464 = .ok (.if_icmp .eq 5, 3) := by decide +kernel
theorem dL_isDay_467 : decode cL_isDay 467 = .ok (.iconst 0, 1) := by decide +kernel
theorem dL_isDay_468 : decode cL_isDay 468 = .ok (.ireturn, 1) := by decide +kernel
theorem dL_isDay_469 : decode cL_isDay 469 = .ok (.iinc 14 1, 3) := by decide +kernel
theorem dL_isDay_472 : decode cL_isDay 472 = .ok (.goto (-68), 3) := by decide +kernel
theorem dL_isDay_475 : decode cL_isDay 475 = .ok (.iconst 0, 1) := by decide +kernel
theorem dL_isDay_476 : decode cL_isDay 476 = .ok (.istore 14, 2) := by decide +kernel
theorem dL_isDay_478 : decode cL_isDay 478 = .ok (.iload 14, 2) := by decide +kernel
theorem dL_isDay_480 : decode cL_isDay 480 = .ok (.bipush 20, 2) := by decide +kernel
theorem dL_isDay_482 : decode cL_isDay 482 = .ok (.if_icmp .ge 94, 3) := by decide +kernel
theorem dL_isDay_485 : decode cL_isDay 485 = .ok (.aload_n 0, 1) := by decide +kernel
theorem dL_isDay_486 : decode cL_isDay 486 = .ok (.iload 14, 2) := by decide +kernel
theorem dL_isDay_488 : decode cL_isDay 488 = .ok (.iconst 0, 1) := by decide +kernel
theorem dL_isDay_489 : decode cL_isDay 489 = .ok (.invokevirtual 14, 3) := by decide +kernel
theorem dL_isDay_492 : decode cL_isDay 492 = .ok (.aload_n 2, 1) := by decide +kernel
theorem dL_isDay_493 : decode cL_isDay 493 = .ok (.bipush 32, 2) := by decide +kernel
theorem dL_isDay_495 : decode cL_isDay 495 = .ok (.iload 14, 2) := by decide +kernel
theorem dL_isDay_497 : decode cL_isDay 497 = .ok (.iadd, 1) := by decide +kernel
theorem dL_isDay_498 : decode cL_isDay 498 = .ok (.iaload, 1) := by decide +kernel
theorem dL_isDay_499 : decode cL_isDay 499 = .ok (.if_icmp .ne 69, 3) := by decide +kernel
theorem dL_isDay_502 : decode cL_isDay 502 = .ok (.iload_n 3, 1) := by decide +kernel
theorem dL_isDay_503 : decode cL_isDay 503 = .ok (.bipush 19, 2) := by decide +kernel
theorem dL_isDay_505 : decode cL_isDay 505 = .ok (.if_icmp .ge 30, 3) := by decide +kernel
theorem dL_isDay_508 : decode cL_isDay 508 = .ok (.iload 14, 2) := by decide +kernel
theorem dL_isDay_510 : decode cL_isDay 510 = .ok (.iload_n 3, 1) := by decide +kernel
theorem dL_isDay_511 : decode cL_isDay 511 = .ok (.if_icmp .gt 24, 3) := by decide +kernel
theorem dL_isDay_514 : decode cL_isDay 514 = .ok (.aload_n 0, 1) := by decide +kernel
theorem dL_isDay_515 : decode cL_isDay 515 = .ok (.iload 14, 2) := by decide +kernel
theorem dL_isDay_517 : decode cL_isDay 517 = .ok (.iconst 1, 1) := by decide +kernel
theorem dL_isDay_518 : decode cL_isDay 518 = .ok (.invokevirtual 14, 3) := by decide +kernel
theorem dL_isDay_521 : decode cL_isDay 521 = .ok (.sipush 1000, 3) := by decide +kernel
theorem dL_isDay_524 : decode cL_isDay 524 = .ok (.isub, 1) := by decide +kernel
theorem dL_isDay_525 : decode cL_isDay 525 = .ok (.aload_n 2, 1) := by decide +kernel
theorem dL_isDay_526 : decode cL_isDay 526 = .ok (.bipush 12, 2) := by decide +kernel
theorem dL_isDay_528 : decode cL_isDay 528 = .ok (.iload 14, 2) := by decide +kernel
theorem dL_isDay_530 : decode cL_isDay 530 = .ok (.iadd, 1) := by decide +kernel
theorem dL_isDay_531 : decode cL_isDay 531 = .ok (.iaload, 1) := by decide +kernel
theorem dL_isDay_532 : decode cL_isDay 532 = .ok (.if_icmp .ne 36, 3) := by decide +kernel
theorem dL_isDay_535 : decode cL_isDay 535 = .ok (.iload_n 3, 1) := by decide +kernel
theorem dL_isDay_536 : decode cL_isDay 536 = .ok (.bipush 19, 2) := by decide +kernel
theorem dL_isDay_538 : decode cL_isDay 538 = .ok (.if_icmp .ne 32, 3) := by decide +kernel
theorem dL_isDay_541 : decode cL_isDay 541 = .ok (.aload_n 0, 1) := by decide +kernel
theorem dL_isDay_542 : decode cL_isDay 542 = .ok (.iconst 0, 1) := by decide +kernel
theorem dL_isDay_543 : decode cL_isDay 543 = .ok (.iload 14, 2) := by decide +kernel
theorem dL_isDay_545 : decode cL_isDay 545 = .ok (.iconst 0, 1) := by decide +kernel
theorem dL_isDay_546 : decode cL_isDay 546 = .ok (.invokevirtual 29, 3) := by decide +kernel
theorem dL_isDay_549 : decode cL_isDay 549 = .ok (.aload_n 0, 1) := by decide +kernel
theorem dL_isDay_550 : decode cL_isDay 550 = .ok (.iconst 0, 1) := by decide +kernel
theorem dL_isDay_551 : decode cL_isDay 551 = .ok (.iload 14, 2) := by decide +kernel
theorem dL_isDay_553 : decode cL_isDay 553 = .ok (.iconst 1, 1) := by decide +kernel
theorem dL_isDay_554 : decode cL_isDay 554 = .ok (.invokevirtual 29, 3) := by decide +kernel
theorem dL_isDay_557 : decode cL_isDay 557 = .ok (.isub, 1) := by decide +kernel
theorem dL_isDay_558 : decode cL_isDay 558 = .ok (.aload_n 2, 1) := by decide +kernel
theorem dL_isDay_559 : decode cL_isDay 559 = .ok (.bipush 12, 2) := by decide +kernel
theorem dL_isDay_561 : decode cL_isDay 561 = .ok (.iload 14, 2) := by decide +kernel
theorem dL_isDay_563 : decode cL_isDay 563 = .ok (.iadd, 1) := by decide +kernel
theorem dL_isDay_564 : decode cL_isDay 564 = .ok (.iaload, 1) := by decide +kernel
theorem dL_isDay_565 : decode cL_isDay 565 = .ok (.if_icmp .eq 5, 3) := by decide +kernel
theorem dL_isDay_568 : decode cL_isDay 568 = .ok (.iconst 0, 1) := by decide +kernel
theorem dL_isDay_569 : decode cL_isDay 569 = .ok (.ireturn, 1) := by decide +kernel
theorem dL_isDay_570 : decode cL_isDay 570 = .ok (.iinc 14 1, 3) := by decide +kernel
theorem dL_isDay_573 : decode cL_isDay 573 = .ok (.goto (-95), 3) := by decide +kernel
theorem dL_isDay_576 : decode cL_isDay 576 = .ok (.iload_n 3, 1) := by decide +kernel
theorem dL_isDay_577 : decode cL_isDay 577 = .ok (.bipush 19, 2) := by decide +kernel
theorem dL_isDay_579 : decode cL_isDay 579 = .ok (.if_icmp .ne 7, 3) := by decide +kernel
theorem dL_isDay_582 : decode cL_isDay 582 = .ok (.iconst 1, 1) := by decide +kernel
theorem dL_isDay_583 : decode cL_isDay 583 = .ok (.goto 4, 3) := by decide +kernel
theorem dL_isDay_586 : decode cL_isDay 586 = .ok (.iconst 0, 1) := by decide +kernel
theorem dL_isDay_587 : decode cL_isDay 587 = .ok (.istore 14, 2) := by decide +kernel
theorem dL_isDay_589 : decode cL_isDay 589 = .ok (.aload_n 0, 1) := by decide +kernel
theorem dL_isDay_590 : decode cL_isDay 590 = .ok (.bipush 9, 2) := by decide +kernel
theorem dL_isDay_592 : decode cL_isDay 592 = .ok (.invokevirtual 8, 3) := by decide +kernel
theorem dL_isDay_595 : decode cL_isDay 595 = .ok (.iload 8, 2) := by decide +kernel
theorem dL_isDay_597 : decode cL_isDay 597 = .ok (.iload 13, 2) := by decide +kernel
theorem dL_isDay_599 : decode cL_isDay 599 = .ok (.isub, 1) := by decide +kernel
theorem dL_isDay_600 : decode cL_isDay 600 = .ok (.if_icmp .ne 130, 3) := by decide +kernel
theorem dL_isDay_603 : decode cL_isDay 603 = .ok (.aload_n 0, 1) := by decide +kernel
theorem dL_isDay_604 : decode cL_isDay 604 = .ok (.iconst 4, 1) := by decide +kernel
theorem dL_isDay_605 : decode cL_isDay 605 = .ok (.invokevirtual 8, 3) := by decide +kernel
theorem dL_isDay_608 : decode cL_isDay 608 = .ok (.iload 10, 2) := by decide +kernel
theorem dL_isDay_610 : decode cL_isDay 610 = .ok (.iload 6, 2) := by decide +kernel
theorem dL_isDay_612 : decode cL_isDay 612 = .ok (.ifCond .eq 13, 3) := by decide +kernel
theorem dL_isDay_615 : decode cL_isDay 615 = .ok (.iload 5, 2) := by decide +kernel
theorem dL_isDay_617 : decode cL_isDay 617 = .ok (.iconst 1, 1) := by decide +kernel
theorem dL_isDay_618 : decode cL_isDay 618 = .ok (.if_icmp .ne 7, 3) := by decide +kernel
theorem dL_isDay_621 : decode cL_isDay 621 = .ok (.iconst 1, 1) := by decide +kernel
theorem dL_isDay_622 : decode cL_isDay 622 = .ok (.goto 4, 3) := by decide +kernel
theorem dL_isDay_625 : decode cL_isDay 625 = .ok (.iconst 0, 1) := by decide +kernel
theorem dL_isDay_626 : decode cL_isDay 626 = .ok (.iadd, 1) := by decide +kernel
theorem dL_isDay_627 : decode cL_isDay 627 = .ok (.if_icmp .ne 103, 3) := by decide +kernel
theorem dL_isDay_630 : decode cL_isDay 630 = .ok (.aload_n 0, 1) := by decide +kernel
theorem dL_isDay_631 : decode cL_isDay 631 = .ok (.iconst 5, 1) := by decide +kernel
theorem dL_isDay_632 : decode cL_isDay 632 = .ok (.invokevirtual 8, 3) := by decide +kernel
theorem dL_isDay_635 : decode cL_isDay 635 = .ok (.iload 11, 2) := by decide +kernel
theorem dL_isDay_637 : decode cL_isDay 637 = .ok (.iload 6, 2) := by decide +kernel
theorem dL_isDay_639 : decode cL_isDay 639 = .ok (.ifCond .eq 12, 3) := by decide +kernel
theorem dL_isDay_642 : decode cL_isDay 642 = .ok (.iload 5, 2) := by decide +kernel
theorem dL_isDay_644 : decode cL_isDay 644 = .ok (.ifCond .ne 7, 3) := by decide +kernel
theorem dL_isDay_647 : decode cL_isDay 647 = .ok (.iconst 1, 1) := by decide +kernel
theorem dL_isDay_648 : decode cL_isDay 648 = .ok (.goto 4, 3) := by decide +kernel
theorem dL_isDay_651 : decode cL_isDay 651 = .ok (.iconst 0, 1) := by decide +kernel
theorem dL_isDay_652 : decode cL_isDay 652 = .ok (.iadd, 1) := by decide +kernel
theorem dL_isDay_653 : decode cL_isDay 653 = .ok (.if_icmp .ne 77, 3) := by decide +kernel
theorem dL_isDay_656 : decode cL_isDay 656 = .ok (.aload_n 0, 1) := by decide +kernel
theorem dL_isDay_657 : decode cL_isDay 657 = .ok (.bipush 6, 2) := by decide +kernel
theorem dL_isDay_659 : decode cL_isDay 659 = .ok (.invokevirtual 8, 3) := by decide +kernel
theorem dL_isDay_662 : decode cL_isDay 662 = .ok (.iload 12, 2) := by decide +kernel
theorem dL_isDay_664 : decode cL_isDay 664 = .ok (.iload 6, 2) := by decide +kernel
theorem dL_isDay_666 : decode cL_isDay 666 = .ok (.ifCond .ne 13, 3) := by decide +kernel
theorem dL_isDay_669 : decode cL_isDay 669 = .ok (.iload 5, 2) := by decide +kernel
theorem dL_isDay_671 : decode cL_isDay 671 = .ok (.iconst 1, 1) := by decide +kernel
theorem dL_isDay_672 : decode cL_isDay 672 = .ok (.if_icmp .ne 7, 3) := by decide +kernel
theorem dL_isDay_675 : decode cL_isDay 675 = .ok (.iconst 1, 1) := by decide +kernel
theorem dL_isDay_676 : decode cL_isDay 676 = .ok (.goto 4, 3) := by decide +kernel
theorem dL_isDay_679 : decode cL_isDay 679 = .ok (.iconst 0, 1) := by decide +kernel
theorem dL_isDay_680 : decode cL_isDay 680 = .ok (.iadd, 1) := by decide +kernel
theorem dL_isDay_681 : decode cL_isDay 681 = .ok (.if_icmp .ne 49, 3) := by decide +kernel
theorem dL_isDay_684 : decode cL_isDay 684 = .ok (.aload_n 0, 1) := by decide +kernel
theorem dL_isDay_685 : decode cL_isDay 685 = .ok (.iconst 0, 1) := by decide +kernel
theorem dL_isDay_686 : decode cL_isDay 686 = .ok (.invokevirtual 8, 3) := by decide +kernel
theorem dL_isDay_689 : decode cL_isDay 689 = .ok (.iload 14, 2) := by decide +kernel
theorem dL_isDay_691 : decode cL_isDay 691 = .ok (.ifCond .eq 10, 3) := by decide +kernel
theorem dL_isDay_694 : decode cL_isDay 694 = .ok (.iload 9, 2) := by decide +kernel
theorem dL_isDay_696 : decode cL_isDay 696 = .ok (.iconst 1, 1) := by decide +kernel
theorem dL_isDay_697 : decode cL_isDay 697 = .ok (.iadd, 1) := by decide +kernel
theorem dL_isDay_698 : decode cL_isDay 698 = .ok (.goto 5, 3) := by decide +kernel
theorem dL_isDay_701 : decode cL_isDay 701 = .ok (.iload 9, 2) := by decide +kernel
theorem dL_isDay_703 : decode cL_isDay 703 = .ok (.if_icmp .ne 27, 3) := by decide +kernel
theorem dL_isDay_706 : decode cL_isDay 706 = .ok (.aload_n 0, 1) := by decide +kernel
theorem dL_isDay_707 : decode cL_isDay 707 = .ok (.iconst 1, 1) := by decide +kernel
theorem dL_isDay_708 : decode cL_isDay 708 = .ok (.invokevirtual 8, 3) := by decide +kernel
theorem dL_isDay_711 : decode cL_isDay 711 = .ok (.iload 14, 2) := by decide +kernel
theorem dL_isDay_713 : decode cL_isDay 713 = .ok (.ifCond .eq 7, 3) := by decide +kernel
theorem dL_isDay_716 : decode cL_isDay 716 = .ok (.iconst 0, 1) := by decide +kernel
theorem dL_isDay_717 : decode cL_isDay 717 = .ok (.goto 6, 3) := by decide +kernel
theorem dL_isDay_720 : decode cL_isDay 720 = .ok (.iload_n 3, 1) := by decide +kernel
theorem dL_isDay_721 : decode cL_isDay 721 = .ok (.iconst 1, 1) := by decide +kernel
theorem dL_isDay_722 : decode cL_isDay 722 = .ok (.iadd, 1) := by decide +kernel
theorem dL_isDay_723 : decode cL_isDay 723 = .ok (.if_icmp .ne 7, 3) := by decide +kernel
theorem dL_isDay_726 : decode cL_isDay 726 = .ok (.iconst 1, 1) := by decide +kernel
theorem dL_isDay_727 : decode cL_isDay 727 = .ok (.goto 4, 3) := by decide +kernel
theorem dL_isDay_730 : decode cL_isDay 730 = .ok (.iconst 0, 1) := by decide +kernel
theorem dL_isDay_731 : decode cL_isDay 731 = .ok (.ireturn, 1) := by decide +kernel
theorem dL_nextBase_0 : decode cL_nextBase 0 = .ok (.iconst 0, 1) := by decide +kernel
theorem dL_nextBase_1 : decode cL_nextBase 1 = .ok (.istore_n 3, 1) := by decide +kernel
theorem dL_nextBase_2 : decode cL_nextBase 2 = .ok (.iconst 0, 1) := by decide +kernel
theorem dL_nextBase_3 : decode cL_nextBase 3 = .ok (.istore 4, 2) := by decide +kernel
theorem dL_nextBase_5 : decode cL_nextBase 5 = .ok (.aload_n 0, 1) := by decide +kernel
theorem dL_nextBase_6 : decode cL_nextBase 6 = .ok (.bipush 12, 2) := by decide +kernel
theorem dL_nextBase_8 : decode cL_nextBase 8 = .ok (.invokevirtual 8, 3) := by decide +kernel
theorem dL_nextBase_11 : decode cL_nextBase 11 = .ok (.sipush 1000, 3) := by decide +kernel
theorem dL_nextBase_14 : decode cL_nextBase 14 = .ok (.isub, 1) := by decide +kernel
theorem dL_nextBase_15 : decode cL_nextBase 15 = .ok (.istore 5, 2) := by decide +kernel
theorem dL_nextBase_17 : decode cL_nextBase 17 = .ok (.iconst 0, 1) := by decide +kernel
theorem dL_nextBase_18 : decode cL_nextBase 18 = .ok (.istore 6, 2) := by decide +kernel
theorem dL_nextBase_20 : decode cL_nextBase 20 = .ok (.iload 6, 2) := by decide +kernel
theorem dL_nextBase_22 : decode cL_nextBase 22 = .ok (.bipush 20, 2) := by decide +kernel
theorem dL_nextBase_24 : decode cL_nextBase 24 = .ok (.if_icmp .ge 88, 3) := by decide +kernel
theorem dL_nextBase_27 : decode cL_nextBase 27 = .ok (.iload 6, 2) := by decide +kernel
theorem dL_nextBase_29 : decode cL_nextBase 29 = .ok (.bipush 19, 2) := by decide +kernel
theorem dL_nextBase_31 : decode cL_nextBase 31 = .ok (.if_icmp .ge 17, 3) := by decide +kernel
theorem dL_nextBase_34 : decode cL_nextBase 34 = .ok (.aload_n 0, 1) := by decide +kernel
theorem dL_nextBase_35 : decode cL_nextBase 35 = .ok (.iload 6, 2) := by decide +kernel
theorem dL_nextBase_37 : decode cL_nextBase 37 = .ok (.iconst 3, 1) := by decide +kernel
theorem dL_nextBase_38 : decode cL_nextBase 38 = .ok (.invokevirtual 14, 3) := by decide +kernel
theorem dL_nextBase_41 : decode cL_nextBase 41 = .ok (.sipush 1000, 3) := by decide +kernel
theorem dL_nextBase_44 : decode cL_nextBase 44 = .ok (.isub, 1) := by decide +kernel
theorem dL_nextBase_45 : decode cL_nextBase 45 = .ok (.goto 16, 3) := by decide +kernel
theorem dL_nextBase_48 : decode cL_nextBase 48 = .ok (.iload_n 2, 1) := by decide +kernel
theorem dL_nextBase_49 : decode cL_nextBase 49 = .ok (.aload_n 0, 1) := by decide +kernel
theorem dL_nextBase_50 : decode cL_nextBase 50 = .ok (.bipush 19, 2) := by decide +kernel
theorem dL_nextBase_52 : decode cL_nextBase 52 = .ok (.iconst 1, 1) := by decide +kernel
theorem dL_nextBase_53 : decode cL_nextBase 53 = .ok (.invokevirtual 14, 3) := by decide +kernel
theorem dL_nextBase_56 : decode cL_nextBase 56 = .ok (.sipush 1000, 3) := by decide +kernel
theorem dL_nextBase_59 : decode cL_nextBase 59 = .ok (.isub, 1) := by decide +kernel
theorem dL_nextBase_60 : decode cL_nextBase 60 = .ok (.isub, 1) := by decide +kernel
theorem dL_nextBase_61 : decode cL_nextBase 61 = .ok (.istore 7, 2) := by decide +kernel
theorem dL_nextBase_63 : decode cL_nextBase 63 = .ok (.iload_n 3, 1) := by decide +kernel
theorem dL_nextBase_64 : decode cL_nextBase 64 = .ok (.iload 6, 2) := by decide +kernel
theorem dL_nextBase_66 : decode cL_nextBase 66 = .ok (.iload_n 1, 1) := by decide +kernel
theorem dL_nextBase_67 : decode cL_nextBase 67 = .ok (.isub, 1) := by decide +kernel
theorem dL_nextBase_68 : decode cL_nextBase 68 = .ok (.invokestatic 26, 3) := by decide +kernel
theorem dL_nextBase_71 : decode cL_nextBase 71 = .ok (.iload 5, 2) := by decide +kernel
theorem dL_nextBase_73 : decode cL_nextBase 73 = .ok (.if_icmp .gt 8, 3) := by decide +kernel
theorem dL_nextBase_76 : decode cL_nextBase 76 = .ok (.iload 7, 2) := by decide +kernel
theorem dL_nextBase_78 : decode cL_nextBase 78 = .ok (.goto 4, 3) := by decide +kernel
theorem dL_nextBase_81 : decode cL_nextBase 81 = .ok (.iconst 0, 1) := by decide +kernel
theorem dL_nextBase_82 : decode cL_nextBase 82 = .ok (.iadd, 1) := by decide +kernel
theorem dL_nextBase_83 : decode cL_nextBase 83 = .ok (.istore_n 3, 1) := by decide +kernel
theorem dL_nextBase_84 : decode cL_nextBase 84 = .ok (.iload 4, 2) := by decide +kernel
theorem dL_nextBase_86 : decode cL_nextBase 86 = .ok (.iload 6, 2) := by decide +kernel
theorem dL_nextBase_88 : decode cL_nextBase 88 = .ok (.iload_n 1, 1) := by decide +kernel
theorem dL_nextBase_89 : decode cL_nextBase 89 = .ok (.isub, 1) := by decide +kernel
theorem dL_nextBase_90 : decode cL_nextBase 90 = .ok (.invokestatic 26, 3) := by decide +kernel
theorem dL_nextBase_93 : decode cL_nextBase 93 = .ok (.iload 5, 2) := by decide +kernel
theorem dL_nextBase_95 : decode cL_nextBase 95 = .ok (.if_icmp .gt 7, 3) := by decide +kernel
theorem dL_nextBase_98 : decode cL_nextBase 98 = .ok (.iconst 1, 1) := by decide +kernel
theorem dL_nextBase_99 : decode cL_nextBase 99 = .ok (.goto 4, 3) := by decide +kernel
theorem dL_nextBase_102 : decode cL_nextBase 102 = .ok (.iconst 0, 1) := by decide +kernel
theorem dL_nextBase_103 : decode cL_nextBase 103 = .ok (.iadd, 1) := by decide +kernel
theorem dL_nextBase_104 : decode cL_nextBase 104 = .ok (.istore 4, 2) := by decide +kernel
theorem dL_nextBase_106 : decode cL_nextBase 106 = .ok (.iinc 6 1, 3) := by decide +kernel
theorem dL_nextBase_109 : decode cL_nextBase 109 = .ok (.goto (-89), 3) := by decide +kernel
theorem dL_nextBase_112 : decode cL_nextBase 112 = .ok (.aload_n 0, 1) := by decide +kernel
theorem dL_nextBase_113 : decode cL_nextBase 113 = .ok (.iload_n 1, 1) := by decide +kernel
theorem dL_nextBase_114 : decode cL_nextBase 114 = .ok (.iconst 0, 1) := by decide +kernel
theorem dL_nextBase_115 : decode cL_nextBase 115 = .ok (.invokevirtual 14, 3) := by decide +kernel
theorem dL_nextBase_118 : decode cL_nextBase 118 = .ok (.sipush 1000, 3) := by decide +kernel
theorem dL_nextBase_121 : decode cL_nextBase 121 = .ok (.isub, 1) := by decide +kernel
theorem dL_nextBase_122 : decode cL_nextBase 122 = .ok (.iload_n 3, 1) := by decide +kernel
theorem dL_nextBase_123 : decode cL_nextBase 123 = .ok (.iload 4, 2) := by decide +kernel
theorem dL_nextBase_125 : decode cL_nextBase 125 = .ok (.idiv, 1) := by decide +kernel
theorem dL_nextBase_126 : decode cL_nextBase 126 = .ok (.aload_n 0, 1) := by decide +kernel
theorem dL_nextBase_127 : decode cL_nextBase 127 = .ok (.bipush 13, 2) := by decide +kernel
theorem dL_nextBase_129 : decode cL_nextBase 129 = .ok (.invokevirtual 8, 3) := by decide +kernel
theorem dL_nextBase_132 : decode cL_nextBase 132 = .ok (.sipush 1000, 3) := by decide +kernel
theorem dL_nextBase_135 : decode cL_nextBase 135 = .ok (.isub, 1) := by decide +kernel
theorem dL_nextBase_136 : decode cL_nextBase 136 = .ok (.imul, 1) := by decide +kernel
theorem dL_nextBase_137 : decode cL_nextBase 137 = .ok (.bipush 100, 2) := by decide +kernel
theorem dL_nextBase_139 : decode cL_nextBase 139 = .ok (.idiv, 1) := by decide +kernel
theorem dL_nextBase_140 : decode cL_nextBase 140 = .ok (.iadd, 1) := by decide +kernel
theorem dL_nextBase_141 : decode cL_nextBase 141 = .ok (.invokestatic 21, 3) := by decide +kernel
theorem dL_nextBase_144 : decode cL_nextBase 144 = .ok (.sipush 1000, 3) := by decide +kernel
theorem dL_nextBase_147 : decode cL_nextBase 147 = .ok (.iadd, 1) := by decide +kernel
theorem dL_nextBase_148 : decode cL_nextBase 148 = .ok (.ireturn, 1) := by decide +kernel
theorem dL_isNext_0 : decode cL_isNext 0 = .ok (.aload_n 0, 1) := by decide +kernel
theorem dL_isNext_1 : decode cL_isNext 1 = .ok (.invokevirtual 52, 3) := by decide +kernel
theorem dL_isNext_4 : decode cL_isNext 4 = .ok (.istore_n 2, 1) := by decide +kernel
theorem dL_isNext_5 : decode cL_isNext 5 = .ok (.aload_n 0, 1) := by decide +kernel
theorem dL_isNext_6 : decode cL_isNext 6 = .ok (.iconst 0, 1) := by decide +kernel
theorem dL_isNext_7 : decode cL_isNext 7 = .ok (.invokevirtual 8, 3) := by decide +kernel
theorem dL_isNext_10 : decode cL_isNext 10 = .ok (.istore_n 3, 1) := by decide +kernel
theorem dL_isNext_11 : decode cL_isNext 11 = .ok (.iconst 0, 1) := by decide +kernel
theorem dL_isNext_12 : decode cL_isNext 12 = .ok (.istore 4, 2) := by decide +kernel
theorem dL_isNext_14 : decode cL_isNext 14 = .ok (.iload 4, 2) := by decide +kernel
theorem dL_isNext_16 : decode cL_isNext 16 = .ok (.bipush 20, 2) := by decide +kernel
theorem dL_isNext_18 : decode cL_isNext 18 = .ok (.if_icmp .ge 33, 3) := by decide +kernel
theorem dL_isNext_21 : decode cL_isNext 21 = .ok (.aload_n 1, 1) := by decide +kernel
theorem dL_isNext_22 : decode cL_isNext 22 = .ok (.iload 4, 2) := by decide +kernel
theorem dL_isNext_24 : decode cL_isNext 24 = .ok (.aload_n 0, 1) := by decide +kernel
theorem dL_isNext_25 : decode cL_isNext 25 = .ok (.iload 4, 2) := by decide +kernel
theorem dL_isNext_27 : decode cL_isNext 27 = .ok (.invokevirtual 56, 3) := by decide +kernel
theorem dL_isNext_30 : decode cL_isNext 30 = .ok (.iastore, 1) := by decide +kernel
theorem dL_isNext_31 : decode cL_isNext 31 = .ok (.aload_n 1, 1) := by decide +kernel
theorem dL_isNext_32 : decode cL_isNext 32 = .ok (.bipush 20, 2) := by decide +kernel
theorem dL_isNext_34 : decode cL_isNext 34 = .ok (.iload 4, 2) := by decide +kernel
theorem dL_isNext_36 : decode cL_isNext 36 = .ok (.iadd, 1) := by decide +kernel
theorem dL_isNext_37 : decode cL_isNext 37 = .ok (.aload_n 0, 1) := by decide +kernel
theorem dL_isNext_38 : decode cL_isNext 38 = .ok (.iload 4, 2) := by decide +kernel
theorem dL_isNext_40 : decode cL_isNext 40 = .ok (.iconst 1, 1) := by decide +kernel
theorem dL_isNext_41 : decode cL_isNext 41 = .ok (.invokevirtual 14, 3) := by decide +kernel
theorem dL_isNext_44 : decode cL_isNext 44 = .ok (.iastore, 1) := by decide +kernel
theorem dL_isNext_45 : decode cL_isNext 45 = .ok (.iinc 4 1, 3) := by decide +kernel
theorem dL_isNext_48 : decode cL_isNext 48 = .ok (.goto (-34), 3) := by decide +kernel
theorem dL_isNext_51 : decode cL_isNext 51 = .ok (.aload_n 0, 1) := by decide +kernel
theorem dL_isNext_52 : decode cL_isNext 52 = .ok (.iconst 3, 1) := by decide +kernel
theorem dL_isNext_53 : decode cL_isNext 53 = .ok (.invokevirtual 8, 3) := by decide +kernel
theorem dL_isNext_56 : decode cL_isNext 56 = .ok (.ifCond .ne 7, 3) := by decide +kernel
theorem dL_isNext_59 : decode cL_isNext 59 = .ok (.iconst 1, 1) := by decide +kernel
theorem dL_isNext_60 : decode cL_isNext 60 = .ok (.goto 4, 3) := by decide +kernel
theorem dL_isNext_63 : decode cL_isNext 63 = .ok (.iconst 0, 1) := by decide +kernel
theorem dL_isNext_64 : decode cL_isNext 64 = .ok (.istore 4, 2) := by decide +kernel
theorem dL_isNext_66 : decode cL_isNext 66 = .ok (.aload_n 0, 1) := by decide +kernel
theorem dL_isNext_67 : decode cL_isNext 67 = .ok (.iconst 0, 1) := by decide +kernel
theorem dL_isNext_68 : decode cL_isNext 68 = .ok (.invokevirtual 8, 3) := by decide +kernel
theorem dL_isNext_71 : decode cL_isNext 71 = .ok (.iload_n 3, 1) := by decide +kernel
theorem dL_isNext_72 : decode cL_isNext 72 = .ok (.if_icmp .ne 36, 3) := by decide +kernel
theorem dL_isNext_75 : decode cL_isNext 75 = .ok (.aload_n 0, 1) := by decide +kernel
theorem dL_isNext_76 : decode cL_isNext 76 = .ok (.aload_n 0, 1) := by decide +kernel
theorem dL_isNext_77 : decode cL_isNext 77 = .ok (.iconst 1, 1) := by decide +kernel
theorem dL_isNext_78 : decode cL_isNext 78 = .ok (.invokevirtual 8, 3) := by decide +kernel
theorem dL_isNext_81 : decode cL_isNext 81 = .ok (.iconst 1, 1) := by decide +kernel
theorem dL_isNext_82 : decode cL_isNext 82 = .ok (.invokevirtual 14, 3) := by decide +kernel
theorem dL_isNext_85 : decode cL_isNext 85 = .ok (.sipush 1000, 3) := by decide +kernel
theorem dL_isNext_88 : decode cL_isNext 88 = .ok (.isub, 1) := by decide +kernel
theorem dL_isNext_89 : decode cL_isNext 89 = .ok (.istore 5, 2) := by decide +kernel
theorem dL_isNext_91 : decode cL_isNext 91 = .ok (.aload_n 0, 1) := by decide +kernel
theorem dL_isNext_92 : decode cL_isNext 92 = .ok (.iload 5, 2) := by decide +kernel
theorem dL_isNext_94 : decode cL_isNext 94 = .ok (.invokevirtual 49, 3) := by decide +kernel
theorem dL_isNext_97 : decode cL_isNext 97 = .ok (.sipush 1000, 3) := by decide +kernel
theorem dL_isNext_100 : decode cL_isNext 100 = .ok (.if_icmp .eq 5, 3) := by decide +kernel
theorem dL_isNext_103 : decode cL_isNext 103 = .ok (.iconst 0, 1) := by decide +kernel
theorem dL_isNext_104 : decode cL_isNext 104 = .ok (.ireturn, 1) := by decide +kernel
theorem dL_isNext_105 : decode cL_isNext 105 = .ok (.goto (-39), 3) := by decide +kernel
theorem dL_isNext_108 : decode cL_isNext 108 = .ok (.iconst 0, 1) := by decide +kernel
theorem dL_isNext_109 : decode cL_isNext 109 = .ok (.istore 5, 2) := by decide +kernel
theorem dL_isNext_111 : decode cL_isNext 111 = .ok (.iload 5, 2) := by decide +kernel
theorem dL_isNext_113 : decode cL_isNext 113 = .ok (.bipush 20, 2) := by decide +kernel
theorem dL_isNext_115 : decode cL_isNext 115 = .ok (.if_icmp .ge 61, 3) := by decide +kernel
theorem dL_isNext_118 : decode cL_isNext 118 = .ok (.aload_n 0, 1) := by decide +kernel
theorem dL_isNext_119 : decode cL_isNext 119 = .ok (.iload 5, 2) := by decide +kernel
theorem dL_isNext_121 : decode cL_isNext 121 = .ok (.iconst 0, 1) := by decide +kernel
theorem dL_isNext_122 : decode cL_isNext 122 = .ok (.invokevirtual 14, 3) := by decide +kernel
theorem dL_isNext_125 : decode cL_isNext 125 = .ok (.aload_n 1, 1) := by decide +kernel
theorem dL_isNext_126 : decode cL_isNext 126 = .ok (.iload 5, 2) := by decide +kernel
theorem dL_isNext_128 : decode cL_isNext 128 = .ok (.iaload, 1) := by decide +kernel
theorem dL_isNext_129 : decode cL_isNext 129 = .ok (.if_icmp .ne 39, 3) := by decide +kernel
theorem dL_isNext_132 : decode cL_isNext 132 = .ok (.iload 4, 2) := by decide +kernel
theorem dL_isNext_134 : decode cL_isNext 134 = .ok (.ifCond .eq 36, 3) := by decide +kernel
theorem dL_isNext_137 : decode cL_isNext 137 = .ok (.aload_n 0, 1) := by decide +kernel
theorem dL_isNext_138 : decode cL_isNext 138 = .ok (.iconst 0, 1) := by decide +kernel
theorem dL_isNext_139 : decode cL_isNext 139 = .ok (.iload 5, 2) := by decide +kernel
theorem dL_isNext_141 : decode cL_isNext 141 = .ok (.iconst 0, 1) := by decide +kernel
theorem dL_isNext_142 : decode cL_isNext 142 = .ok (.invokevirtual 29, 3) := by decide +kernel
theorem dL_isNext_145 : decode cL_isNext 145 = .ok (.aload_n 0, 1) := by decide +kernel
theorem dL_isNext_146 : decode cL_isNext 146 = .ok (.iconst 0, 1) := by decide +kernel
theorem dL_isNext_147 : decode cL_isNext 147 = .ok (.iload 5, 2) := by decide +kernel
theorem dL_isNext_149 : decode cL_isNext 149 = .ok (.iconst 1, 1) := by decide +kernel
theorem dL_isNext_150 : decode cL_isNext 150 = .ok (.invokevirtual 29, 3) := by decide +kernel
theorem dL_isNext_153 : decode cL_isNext 153 = .ok (.isub, 1) := by decide +kernel
theorem dL_isNext_154 : decode cL_isNext 154 = .ok (.sipush 1000, 3) := by decide +kernel
theorem dL_isNext_157 : decode cL_isNext 157 = .ok (.iadd, 1) := by decide +kernel
theorem dL_isNext_158 : decode cL_isNext 158 = .ok (.aload_n 1, 1) := by decide +kernel
theorem dL_isNext_159 : decode cL_isNext 159 = .ok (.bipush 20, 2) := by decide +kernel
theorem dL_isNext_161 : decode cL_isNext 161 = .ok (.iload 5, 2) := by decide +kernel
theorem dL_isNext_163 : decode cL_isNext 163 = .ok (.iadd, 1) := by decide +kernel
theorem dL_isNext_164 : decode cL_isNext 164 = .ok (.iaload, 1) := by decide +kernel
theorem dL_isNext_165 : decode cL_isNext 165 = .ok (.if_icmp .eq 5, 3) := by decide +kernel
theorem dL_isNext_168 : decode cL_isNext 168 = .ok (.iconst 0, 1) := by decide +kernel
theorem dL_isNext_169 : decode cL_isNext 169 = .ok (.ireturn, 1) := by decide +kernel
theorem dL_isNext_170 : decode cL_isNext 170 = .ok (.iinc 5 1, 3) := by decide +kernel
theorem dL_isNext_173 : decode cL_isNext 173 = .ok (.goto (-62), 3) := by decide +kernel
theorem dL_isNext_176 : decode cL_isNext 176 = .ok (.aload_n 0, 1) := by decide +kernel
theorem dL_isNext_177 : decode cL_isNext 177 = .ok (.invokevirtual 58, 3) := by decide +kernel
theorem dL_isNext_180 : decode cL_isNext 180 = .ok (.iload_n 2, 1) := by decide +kernel
theorem dL_isNext_181 : decode cL_isNext 181 = .ok (.if_icmp .ne 7, 3) := by decide +kernel
theorem dL_isNext_184 : decode cL_isNext 184 = .ok (.iconst 1, 1) := by decide +kernel
theorem dL_isNext_185 : decode cL_isNext 185 = .ok (.goto 4, 3) := by decide +kernel
theorem dL_isNext_188 : decode cL_isNext 188 = .ok (.iconst 0, 1) := by decide +kernel
theorem dL_isNext_189 : decode cL_isNext 189 = .ok (.ireturn, 1) := by decide +kernel
theorem dL_isBound_0 : decode cL_isBound 0 = .ok (.iconst 0, 1) := by decide +kernel
theorem dL_isBound_1 : decode cL_isBound 1 = .ok (.istore_n 1, 1) := by decide +kernel
theorem dL_isBound_2 : decode cL_isBound 2 = .ok (.bipush 100, 2) := by decide +kernel
theorem dL_isBound_4 : decode cL_isBound 4 = .ok (.istore_n 2, 1) := by decide +kernel
theorem dL_isBound_5 : decode cL_isBound 5 = .ok (.bipush (-20), 2) := by decide +kernel
theorem dL_isBound_7 : decode cL_isBound 7 = .ok (.istore_n 3, 1) := by decide +kernel
theorem dL_isBound_8 : decode cL_isBound 8 = .ok (.iload_n 3, 1) := by decide +kernel
theorem dL_isBound_9 : decode cL_isBound 9 = .ok (.bipush 20, 2) := by decide +kernel
theorem dL_isBound_11 : decode cL_isBound 11 = .ok (.if_icmp .gt 150, 3) := by decide +kernel
theorem dL_isBound_14 : decode cL_isBound 14 = .ok (.aload_n 0, 1) := by decide +kernel
theorem dL_isBound_15 : decode cL_isBound 15 = .ok (.iconst 2, 1) := by decide +kernel
theorem dL_isBound_16 : decode cL_isBound 16 = .ok (.invokevirtual 8, 3) := by decide +kernel
theorem dL_isBound_19 : decode cL_isBound 19 = .ok (.ifCond .le 142, 3) := by decide +kernel
theorem dL_isBound_22 : decode cL_isBound 22 = .ok (.iconst 0, 1) := by decide +kernel
theorem dL_isBound_23 : decode cL_isBound 23 = .ok (.istore 4, 2) := by decide +kernel
theorem dL_isBound_25 : decode cL_isBound 25 = .ok (.iconst 0, 1) := by decide +kernel
theorem dL_isBound_26 : decode cL_isBound 26 = .ok (.istore 5, 2) := by decide +kernel
theorem dL_isBound_28 : decode cL_isBound 28 = .ok (.iload 5, 2) := by decide +kernel
theorem dL_isBound_30 : decode cL_isBound 30 = .ok (.bipush 20, 2) := by decide +kernel
theorem dL_isBound_32 : decode cL_isBound 32 = .ok (.if_icmp .ge 69, 3) := by decide +kernel
theorem dL_isBound_35 : decode cL_isBound 35 = .ok (.aload_n 0, 1) := by decide +kernel
theorem dL_isBound_36 : decode cL_isBound 36 = .ok (.iconst 0, 1) := by decide +kernel
theorem dL_isBound_37 : decode cL_isBound 37 = .ok (.iload 5, 2) := by decide +kernel
theorem dL_isBound_39 : decode cL_isBound 39 = .ok (.iconst 0, 1) := by decide +kernel
theorem dL_isBound_40 : decode cL_isBound 40 = .ok (.invokevirtual 29, 3) := by decide +kernel
theorem dL_isBound_43 : decode cL_isBound 43 = .ok (.istore 6, 2) := by decide +kernel
theorem dL_isBound_45 : decode cL_isBound 45 = .ok (.iload 6, 2) := by decide +kernel
theorem dL_isBound_47 : decode cL_isBound 47 = .ok (.aload_n 0, 1) := by decide +kernel
theorem dL_isBound_48 : decode cL_isBound 48 = .ok (.iconst 0, 1) := by decide +kernel
theorem dL_isBound_49 : decode cL_isBound 49 = .ok (.iload 5, 2) := by decide +kernel
theorem dL_isBound_51 : decode cL_isBound 51 = .ok (.iconst 1, 1) := by decide +kernel
theorem dL_isBound_52 : decode cL_isBound 52 = .ok (.invokevirtual 29, 3) := by decide +kernel
theorem dL_isBound_55 : decode cL_isBound 55 = .ok (.isub, 1) := by decide +kernel
theorem dL_isBound_56 : decode cL_isBound 56 = .ok (.iload_n 3, 1) := by decide +kernel
theorem dL_isBound_57 : decode cL_isBound 57 = .ok (.if_icmp .gt 7, 3) := by decide +kernel
theorem dL_isBound_60 : decode cL_isBound 60 = .ok (.iconst 1, 1) := by decide +kernel
theorem dL_isBound_61 : decode cL_isBound 61 = .ok (.goto 4, 3) := by decide +kernel
theorem dL_isBound_64 : decode cL_isBound 64 = .ok (.iconst 0, 1) := by decide +kernel
theorem dL_isBound_65 : decode cL_isBound 65 = .ok (.istore 7, 2) := by decide +kernel
theorem dL_isBound_67 : decode cL_isBound 67 = .ok (.iload 4, 2) := by decide +kernel
theorem dL_isBound_69 : decode cL_isBound 69 = .ok (.iload 7, 2) := by decide +kernel
theorem dL_isBound_71 : decode cL_isBound 71 = .ok (.iload 6, 2) := by decide +kernel
theorem dL_isBound_73 : decode cL_isBound 73 = .ok (.sipush 1000, 3) := by decide +kernel
theorem dL_isBound_76 : decode cL_isBound 76 = .ok (.if_icmp .gt 7, 3) := by decide +kernel
theorem dL_isBound_79 : decode cL_isBound 79 = .ok (.iconst 1, 1) := by decide +kernel
theorem dL_isBound_80 : decode cL_isBound 80 = .ok (.goto 4, 3) := by decide +kernel
theorem dL_isBound_83 : decode cL_isBound 83 = .ok (.iconst 0, 1) := by decide +kernel
theorem dL_isBound_84 : decode cL_isBound 84 = .ok (.if_icmp .ne 7, 3) := by decide +kernel
theorem dL_isBound_87 : decode cL_isBound 87 = .ok (.iconst 0, 1) := by decide +kernel
theorem dL_isBound_88 : decode cL_isBound 88 = .ok (.goto 4, 3) := by decide +kernel
theorem dL_isBound_91 : decode cL_isBound 91 = .ok (.iconst 1, 1) := by decide +kernel
theorem dL_isBound_92 : decode cL_isBound 92 = .ok (.iadd, 1) := by decide +kernel
theorem dL_isBound_93 : decode cL_isBound 93 = .ok (.istore 4, 2) := by decide +kernel
theorem dL_isBound_95 : decode cL_isBound 95 = .ok (.iinc 5 1, 3) := by decide +kernel
theorem dL_isBound_98 : decode cL_isBound 98 = .ok (.goto (-70), 3) := by decide +kernel
theorem dL_isBound_101 : decode cL_isBound 101 = .ok (.iload 4, 2) := by decide +kernel
theorem dL_isBound_103 : decode cL_isBound 103 = .ok (.iload_n 2, 1) := by decide +kernel
theorem dL_isBound_104 : decode cL_isBound 104 = .ok (.if_icmp .ne 18, 3) := by decide +kernel
theorem dL_isBound_107 : decode cL_isBound 107 = .ok (.iload_n 3, 1) := by decide +kernel
theorem dL_isBound_108 : decode cL_isBound 108 = .ok (.invokestatic 26, 3) := by decide +kernel
theorem dL_isBound_111 : decode cL_isBound 111 = .ok (.iload_n 1, 1) := by decide +kernel
theorem dL_isBound_112 : decode cL_isBound 112 = .ok (.invokestatic 26, 3) := by decide +kernel
theorem dL_isBound_115 : decode cL_isBound 115 = .ok (.if_icmp .ge 7, 3) := by decide +kernel
theorem dL_isBound_118 : decode cL_isBound 118 = .ok (.iconst 1, 1) := by decide +kernel
theorem dL_isBound_119 : decode cL_isBound 119 = .ok (.goto 4, 3) := by decide +kernel
theorem dL_isBound_122 : decode cL_isBound 122 = .ok (.iconst 0, 1) := by decide +kernel
theorem dL_isBound_123 : decode cL_isBound 123 = .ok (.istore 5, 2) := by decide +kernel
theorem dL_isBound_125 : decode cL_isBound 125 = .ok (.iload 4, 2) := by decide +kernel
theorem dL_isBound_127 : decode cL_isBound 127 = .ok (.iload_n 2, 1) := by decide +kernel
theorem dL_isBound_128 : decode cL_isBound 128 = .ok (.if_icmp .lt 8, 3) := by decide +kernel
theorem dL_isBound_131 : decode cL_isBound 131 = .ok (.iload 5, 2) := by decide +kernel
theorem dL_isBound_133 : decode cL_isBound 133 = .ok (.ifCond .eq 7, 3) := by decide +kernel
theorem dL_isBound_136 : decode cL_isBound 136 = .ok (.iload_n 3, 1) := by decide +kernel
theorem dL_isBound_137 : decode cL_isBound 137 = .ok (.goto 4, 3) := by decide +kernel
theorem dL_isBound_140 : decode cL_isBound 140 = .ok (.iload_n 1, 1) := by decide +kernel
theorem dL_isBound_141 : decode cL_isBound 141 = .ok (.istore_n 1, 1) := by decide +kernel
theorem dL_isBound_142 : decode cL_isBound 142 = .ok (.iload 4, 2) := by decide +kernel
theorem dL_isBound_144 : decode cL_isBound 144 = .ok (.iload_n 2, 1) := by decide +kernel
theorem dL_isBound_145 : decode cL_isBound 145 = .ok (.if_icmp .ge 8, 3) := by decide +kernel
theorem dL_isBound_148 : decode cL_isBound 148 = .ok (.iload 4, 2) := by decide +kernel
theorem dL_isBound_150 : decode cL_isBound 150 = .ok (.goto 4, 3) := by decide +kernel
theorem dL_isBound_153 : decode cL_isBound 153 = .ok (.iload_n 2, 1) := by decide +kernel
theorem dL_isBound_154 : decode cL_isBound 154 = .ok (.istore_n 2, 1) := by decide +kernel
theorem dL_isBound_155 : decode cL_isBound 155 = .ok (.iinc 3 1, 3) := by decide +kernel
theorem dL_isBound_158 : decode cL_isBound 158 = .ok (.goto (-150), 3) := by decide +kernel
theorem dL_isBound_161 : decode cL_isBound 161 = .ok (.aload_n 0, 1) := by decide +kernel
theorem dL_isBound_162 : decode cL_isBound 162 = .ok (.iconst 2, 1) := by decide +kernel
theorem dL_isBound_163 : decode cL_isBound 163 = .ok (.invokevirtual 8, 3) := by decide +kernel
theorem dL_isBound_166 : decode cL_isBound 166 = .ok (.ifCond .ne 7, 3) := by decide +kernel
theorem dL_isBound_169 : decode cL_isBound 169 = .ok (.iconst 1, 1) := by decide +kernel
theorem dL_isBound_170 : decode cL_isBound 170 = .ok (.goto 4, 3) := by decide +kernel
theorem dL_isBound_173 : decode cL_isBound 173 = .ok (.iconst 0, 1) := by decide +kernel
theorem dL_isBound_174 : decode cL_isBound 174 = .ok (.istore_n 3, 1) := by decide +kernel
theorem dL_isBound_175 : decode cL_isBound 175 = .ok (.aload_n 0, 1) := by decide +kernel
theorem dL_isBound_176 : decode cL_isBound 176 = .ok (.iconst 0, 1) := by decide +kernel
theorem dL_isBound_177 : decode cL_isBound 177 = .ok (.invokevirtual 61, 3) := by decide +kernel
theorem dL_isBound_180 : decode cL_isBound 180 = .ok (.istore 4, 2) := by decide +kernel
theorem dL_isBound_182 : decode cL_isBound 182 = .ok (.aload_n 0, 1) := by decide +kernel
theorem dL_isBound_183 : decode cL_isBound 183 = .ok (.iconst 1, 1) := by decide +kernel
theorem dL_isBound_184 : decode cL_isBound 184 = .ok (.invokevirtual 61, 3) := by decide +kernel
theorem dL_isBound_187 : decode cL_isBound 187 = .ok (.istore 5, 2) := by decide +kernel
theorem dL_isBound_189 : decode cL_isBound 189 = .ok (.aload_n 0, 1) := by decide +kernel
theorem dL_isBound_190 : decode cL_isBound 190 = .ok (.iconst 2, 1) := by decide +kernel
theorem dL_isBound_191 : decode cL_isBound 191 = .ok (.invokevirtual 8, 3) := by decide +kernel
theorem dL_isBound_194 : decode cL_isBound 194 = .ok (.iconst 2, 1) := by decide +kernel
theorem dL_isBound_195 : decode cL_isBound 195 = .ok (.if_icmp .ge 25, 3) := by decide +kernel
theorem dL_isBound_198 : decode cL_isBound 198 = .ok (.iload 4, 2) := by decide +kernel
theorem dL_isBound_200 : decode cL_isBound 200 = .ok (.bipush (-5), 2) := by decide +kernel
theorem dL_isBound_202 : decode cL_isBound 202 = .ok (.if_icmp .ne 14, 3) := by decide +kernel
theorem dL_isBound_205 : decode cL_isBound 205 = .ok (.iload 5, 2) := by decide +kernel
theorem dL_isBound_207 : decode cL_isBound 207 = .ok (.bipush (-5), 2) := by decide +kernel
theorem dL_isBound_209 : decode cL_isBound 209 = .ok (.if_icmp .ne 7, 3) := by decide +kernel
theorem dL_isBound_212 : decode cL_isBound 212 = .ok (.iconst 1, 1) := by decide +kernel
theorem dL_isBound_213 : decode cL_isBound 213 = .ok (.goto 37, 3) := by decide +kernel
theorem dL_isBound_216 : decode cL_isBound 216 = .ok (.iconst 0, 1) := by decide +kernel
theorem dL_isBound_217 : decode cL_isBound 217 = .ok (.goto 33, 3) := by decide +kernel
theorem dL_isBound_220 : decode cL_isBound 220 = .ok (.iload 4, 2) := by decide +kernel
theorem dL_isBound_222 : decode cL_isBound 222 = .ok (.ifCond .lt 27, 3) := by decide +kernel
theorem dL_isBound_225 : decode cL_isBound 225 = .ok (.iload 4, 2) := by decide +kernel
theorem dL_isBound_227 : decode cL_isBound 227 = .ok (.bipush 100, 2) := by decide +kernel
theorem dL_isBound_229 : decode cL_isBound 229 = .ok (.if_icmp .gt 20, 3) := by decide +kernel
theorem dL_isBound_232 : decode cL_isBound 232 = .ok (.iload 5, 2) := by decide +kernel
theorem dL_isBound_234 : decode cL_isBound 234 = .ok (.ifCond .lt 15, 3) := by decide +kernel
theorem dL_isBound_237 : decode cL_isBound 237 = .ok (.iload 5, 2) := by decide +kernel
theorem dL_isBound_239 : decode cL_isBound 239 = .ok (.sipush 1600, 3) := by decide +kernel
theorem dL_isBound_242 : decode cL_isBound 242 = .ok (.if_icmp .gt 7, 3) := by decide +kernel
theorem dL_isBound_245 : decode cL_isBound 245 = .ok (.iconst 1, 1) := by decide +kernel
theorem dL_isBound_246 : decode cL_isBound 246 = .ok (.goto 4, 3) := by decide +kernel
theorem dL_isBound_249 : decode cL_isBound 249 = .ok (.iconst 0, 1) := by decide +kernel
theorem dL_isBound_250 : decode cL_isBound 250 = .ok (.istore 6, 2) := by decide +kernel
theorem dL_isBound_252 : decode cL_isBound 252 = .ok (.iload 6, 2) := by decide +kernel
theorem dL_isBound_254 : decode cL_isBound 254 = .ok (.ifCond .eq 47, 3) := by decide +kernel
theorem dL_isBound_257 : decode cL_isBound 257 = .ok (.aload_n 0, 1) := by decide +kernel
theorem dL_isBound_258 : decode cL_isBound 258 = .ok (.iconst 0, 1) := by decide +kernel
theorem dL_isBound_259 : decode cL_isBound 259 = .ok (.invokevirtual 36, 3) := by decide +kernel
theorem dL_isBound_262 : decode cL_isBound 262 = .ok (.iload_n 3, 1) := by decide +kernel
theorem dL_isBound_263 : decode cL_isBound 263 = .ok (.ifCond .eq 8, 3) := by decide +kernel
theorem dL_isBound_266 : decode cL_isBound 266 = .ok (.bipush (-5), 2) := by decide +kernel
theorem dL_isBound_268 : decode cL_isBound 268 = .ok (.goto 8, 3) := by decide +kernel
theorem dL_isBound_271 : decode cL_isBound 271 = .ok (.iload_n 1, 1) := by decide +kernel
theorem dL_isBound_272 : decode cL_isBound 272 = .ok (.sipush 1000, 3) := by decide +kernel
theorem dL_isBound_275 : decode cL_isBound 275 = .ok (.iadd, 1) := by decide +kernel
theorem dL_isBound_276 : decode cL_isBound 276 = .ok (.if_icmp .ne 25, 3) := by decide +kernel
theorem dL_isBound_279 : decode cL_isBound 279 = .ok (.aload_n 0, 1) := by decide +kernel
theorem dL_isBound_280 : decode cL_isBound 280 = .ok (.iconst 1, 1) := by decide +kernel
theorem dL_isBound_281 : decode cL_isBound 281 = .ok (.invokevirtual 36, 3) := by decide +kernel
theorem dL_isBound_284 : decode cL_isBound 284 = .ok (.iload_n 3, 1) := by decide +kernel
theorem dL_isBound_285 : decode cL_isBound 285 = .ok (.ifCond .eq 8, 3) := by decide +kernel
theorem dL_isBound_288 : decode cL_isBound 288 = .ok (.bipush (-5), 2) := by decide +kernel
theorem dL_isBound_290 : decode cL_isBound 290 = .ok (.goto 4, 3) := by decide +kernel
theorem dL_isBound_293 : decode cL_isBound 293 = .ok (.iload_n 2, 1) := by decide +kernel
theorem dL_isBound_294 : decode cL_isBound 294 = .ok (.if_icmp .ne 7, 3) := by decide +kernel
theorem dL_isBound_297 : decode cL_isBound 297 = .ok (.iconst 1, 1) := by decide +kernel
theorem dL_isBound_298 : decode cL_isBound 298 = .ok (.goto 4, 3) := by decide +kernel
theorem dL_isBound_301 : decode cL_isBound 301 = .ok (.iconst 0, 1) := by decide +kernel
theorem dL_isBound_302 : decode cL_isBound 302 = .ok (.ireturn, 1) := by decide +kernel
theorem dL_does_0 : decode cL_does 0 = .ok (.iload_n 2, 1) := by decide +kernel
theorem dL_does_1 : decode cL_does 1 = .ok (.bipush 20, 2) := by decide +kernel
theorem dL_does_3 : decode cL_does 3 = .ok (.invokestatic 64, 3) := by decide +kernel
theorem dL_does_6 : decode cL_does 6 = .ok (.istore 4, 2) := by decide +kernel
theorem dL_does_8 : decode cL_does 8 = .ok (.iload_n 1, 1) := by decide +kernel
theorem dL_does_9 : decode cL_does 9 = .ok (.bipush 20, 2) := by decide +kernel
theorem dL_does_11 : decode cL_does 11 = .ok (.invokestatic 64, 3) := by decide +kernel
theorem dL_does_14 : decode cL_does 14 = .ok (.tableswitch 620 0 8 #[50, 126, 238, 291, 421, 421, 421, 551, 614], 50) := by decide +kernel
theorem dL_does_64 : decode cL_does 64 = .ok (.aload_n 0, 1) := by decide +kernel
theorem dL_does_65 : decode cL_does 65 = .ok (.iload 4, 2) := by decide +kernel
theorem dL_does_67 : decode cL_does 67 = .ok (.iconst 0, 1) := by decide +kernel
theorem dL_does_68 : decode cL_does 68 = .ok (.invokevirtual 14, 3) := by decide +kernel
theorem dL_does_71 : decode cL_does 71 = .ok (.sipush 1000, 3) := by decide +kernel
theorem dL_does_74 : decode cL_does 74 = .ok (.isub, 1) := by decide +kernel
theorem dL_does_75 : decode cL_does 75 = .ok (.istore 5, 2) := by decide +kernel
theorem dL_does_77 : decode cL_does 77 = .ok (.iload_n 2, 1) := by decide +kernel
theorem dL_does_78 : decode cL_does 78 = .ok (.iconst 5, 1) := by decide +kernel
theorem dL_does_79 : decode cL_does 79 = .ok (.ishr, 1) := by decide +kernel
theorem dL_does_80 : decode cL_does 80 = .ok (.bipush 81, 2) := by decide +kernel
theorem dL_does_82 : decode cL_does 82 = .ok (.invokestatic 64, 3) := by decide +kernel
theorem dL_does_85 : decode cL_does 85 = .ok (.bipush 40, 2) := by decide +kernel
theorem dL_does_87 : decode cL_does 87 = .ok (.isub, 1) := by decide +kernel
theorem dL_does_88 : decode cL_does 88 = .ok (.istore 6, 2) := by decide +kernel
theorem dL_does_90 : decode cL_does 90 = .ok (.aload_n 0, 1) := by decide +kernel
theorem dL_does_91 : decode cL_does 91 = .ok (.iload 4, 2) := by decide +kernel
theorem dL_does_93 : decode cL_does 93 = .ok (.iload 6, 2) := by decide +kernel
theorem dL_does_95 : decode cL_does 95 = .ok (.invokevirtual 67, 3) := by decide +kernel
theorem dL_does_98 : decode cL_does 98 = .ok (.iload 4, 2) := by decide +kernel
theorem dL_does_100 : decode cL_does 100 = .ok (.aload_n 0, 1) := by decide +kernel
theorem dL_does_101 : decode cL_does 101 = .ok (.iconst 1, 1) := by decide +kernel
theorem dL_does_102 : decode cL_does 102 = .ok (.invokevirtual 8, 3) := by decide +kernel
theorem dL_does_105 : decode cL_does 105 = .ok (.if_icmp .ge 8, 3) := by decide +kernel
theorem dL_does_108 : decode cL_does 108 = .ok (.bipush (-4), 2) := by decide +kernel
theorem dL_does_110 : decode cL_does 110 = .ok (.goto 21, 3) := by decide +kernel
theorem dL_does_113 : decode cL_does 113 = .ok (.iload 5, 2) := by decide +kernel
theorem dL_does_115 : decode cL_does 115 = .ok (.iload 6, 2) := by decide +kernel
theorem dL_does_117 : decode cL_does 117 = .ok (.if_icmp .ne 8, 3) := by decide +kernel
theorem dL_does_120 : decode cL_does 120 = .ok (.bipush (-5), 2) := by decide +kernel
theorem dL_does_122 : decode cL_does 122 = .ok (.goto 9, 3) := by decide +kernel
theorem dL_does_125 : decode cL_does 125 = .ok (.iload 5, 2) := by decide +kernel
theorem dL_does_127 : decode cL_does 127 = .ok (.sipush 1000, 3) := by decide +kernel
theorem dL_does_130 : decode cL_does 130 = .ok (.iadd, 1) := by decide +kernel
theorem dL_does_131 : decode cL_does 131 = .ok (.if_icmp .ne 7, 3) := by decide +kernel
theorem dL_does_134 : decode cL_does 134 = .ok (.iconst 1, 1) := by decide +kernel
theorem dL_does_135 : decode cL_does 135 = .ok (.goto 4, 3) := by decide +kernel
theorem dL_does_138 : decode cL_does 138 = .ok (.iconst 0, 1) := by decide +kernel
theorem dL_does_139 : decode cL_does 139 = .ok (.ireturn, 1) := by decide +kernel
theorem dL_does_140 : decode cL_does 140 = .ok (.aload_n 0, 1) := by decide +kernel
theorem dL_does_141 : decode cL_does 141 = .ok (.iconst 3, 1) := by decide +kernel
theorem dL_does_142 : decode cL_does 142 = .ok (.invokevirtual 8, 3) := by decide +kernel
theorem dL_does_145 : decode cL_does 145 = .ok (.istore 7, 2) := by decide +kernel
theorem dL_does_147 : decode cL_does 147 = .ok (.aload_n 0, 1) := by decide +kernel
theorem dL_does_148 : decode cL_does 148 = .ok (.iload 4, 2) := by decide +kernel
theorem dL_does_150 : decode cL_does 150 = .ok (.iload_n 2, 1) := by decide +kernel
theorem dL_does_151 : decode cL_does 151 = .ok (.iconst 5, 1) := by decide +kernel
theorem dL_does_152 : decode cL_does 152 = .ok (.ishr, 1) := by decide +kernel
theorem dL_does_153 : decode cL_does 153 = .ok (.bipush 81, 2) := by decide +kernel
theorem dL_does_155 : decode cL_does 155 = .ok (.invokestatic 64, 3) := by decide +kernel
theorem dL_does_158 : decode cL_does 158 = .ok (.bipush 40, 2) := by decide +kernel
theorem dL_does_160 : decode cL_does 160 = .ok (.isub, 1) := by decide +kernel
theorem dL_does_161 : decode cL_does 161 = .ok (.iload_n 2, 1) := by decide +kernel
theorem dL_does_162 : decode cL_does 162 = .ok (.bipush 12, 2) := by decide +kernel
theorem dL_does_164 : decode cL_does 164 = .ok (.ishr, 1) := by decide +kernel
theorem dL_does_165 : decode cL_does 165 = .ok (.bipush 41, 2) := by decide +kernel
theorem dL_does_167 : decode cL_does 167 = .ok (.invokestatic 64, 3) := by decide +kernel
theorem dL_does_170 : decode cL_does 170 = .ok (.bipush 20, 2) := by decide +kernel
theorem dL_does_172 : decode cL_does 172 = .ok (.isub, 1) := by decide +kernel
theorem dL_does_173 : decode cL_does 173 = .ok (.iconst 1, 1) := by decide +kernel
theorem dL_does_174 : decode cL_does 174 = .ok (.iload_n 2, 1) := by decide +kernel
theorem dL_does_175 : decode cL_does 175 = .ok (.bipush 18, 2) := by decide +kernel
theorem dL_does_177 : decode cL_does 177 = .ok (.ishr, 1) := by decide +kernel
theorem dL_does_178 : decode cL_does 178 = .ok (.bipush 9, 2) := by decide +kernel
theorem dL_does_180 : decode cL_does 180 = .ok (.invokestatic 64, 3) := by decide +kernel
theorem dL_does_183 : decode cL_does 183 = .ok (.iadd, 1) := by decide +kernel
theorem dL_does_184 : decode cL_does 184 = .ok (.invokevirtual 70, 3) := by decide +kernel
theorem dL_does_187 : decode cL_does 187 = .ok (.istore 8, 2) := by decide +kernel
theorem dL_does_189 : decode cL_does 189 = .ok (.iload 8, 2) := by decide +kernel
theorem dL_does_191 : decode cL_does 191 = .ok (.iload 7, 2) := by decide +kernel
theorem dL_does_193 : decode cL_does 193 = .ok (.iconst 5, 1) := by decide +kernel
theorem dL_does_194 : decode cL_does 194 = .ok (.if_icmp .ne 8, 3) := by decide +kernel
theorem dL_does_197 : decode cL_does 197 = .ok (.bipush (-3), 2) := by decide +kernel
theorem dL_does_199 : decode cL_does 199 = .ok (.goto 5, 3) := by decide +kernel
theorem dL_does_202 : decode cL_does 202 = .ok (.iload 7, 2) := by decide +kernel
theorem dL_does_204 : decode cL_does 204 = .ok (.if_icmp .ne 46, 3) := by decide +kernel
theorem dL_does_207 : decode cL_does 207 = .ok (.iload 7, 2) := by decide +kernel
theorem dL_does_209 : decode cL_does 209 = .ok (.iconst 5, 1) := by decide +kernel
theorem dL_does_210 : decode cL_does 210 = .ok (.if_icmp .eq 36, 3) := by decide +kernel
theorem dL_does_213 : decode cL_does 213 = .ok (.aload_n 0, 1) := by decide +kernel
theorem dL_does_214 : decode cL_does 214 = .ok (.iload 7, 2) := by decide +kernel
theorem dL_does_216 : decode cL_does 216 = .ok (.iconst 0, 1) := by decide +kernel
theorem dL_does_217 : decode cL_does 217 = .ok (.invokevirtual 18, 3) := by decide +kernel
theorem dL_does_220 : decode cL_does 220 = .ok (.iload 4, 2) := by decide +kernel
theorem dL_does_222 : decode cL_does 222 = .ok (.if_icmp .ne 28, 3) := by decide +kernel
theorem dL_does_225 : decode cL_does 225 = .ok (.aload_n 0, 1) := by decide +kernel
theorem dL_does_226 : decode cL_does 226 = .ok (.iload 7, 2) := by decide +kernel
theorem dL_does_228 : decode cL_does 228 = .ok (.iconst 3, 1) := by decide +kernel
theorem dL_does_229 : decode cL_does 229 = .ok (.invokevirtual 18, 3) := by decide +kernel
theorem dL_does_232 : decode cL_does 232 = .ok (.iconst 1, 1) := by decide +kernel
theorem dL_does_233 : decode cL_does 233 = .ok (.iload_n 2, 1) := by decide +kernel
theorem dL_does_234 : decode cL_does 234 = .ok (.bipush 18, 2) := by decide +kernel
theorem dL_does_236 : decode cL_does 236 = .ok (.ishr, 1) := by decide +kernel
theorem dL_does_237 : decode cL_does 237 = .ok (.bipush 9, 2) := by decide +kernel
theorem dL_does_239 : decode cL_does 239 = .ok (.invokestatic 64, 3) := by decide +kernel
theorem dL_does_242 : decode cL_does 242 = .ok (.iadd, 1) := by decide +kernel
theorem dL_does_243 : decode cL_does 243 = .ok (.if_icmp .ne 7, 3) := by decide +kernel
theorem dL_does_246 : decode cL_does 246 = .ok (.iconst 1, 1) := by decide +kernel
theorem dL_does_247 : decode cL_does 247 = .ok (.goto 4, 3) := by decide +kernel
theorem dL_does_250 : decode cL_does 250 = .ok (.iconst 0, 1) := by decide +kernel
theorem dL_does_251 : decode cL_does 251 = .ok (.ireturn, 1) := by decide +kernel
theorem dL_does_252 : decode cL_does 252 = .ok (.aload_n 0, 1) := by decide +kernel
theorem dL_does_253 : decode cL_does 253 = .ok (.iconst 3, 1) := by decide +kernel
theorem dL_does_254 : decode cL_does 254 = .ok (.invokevirtual 8, 3) := by decide +kernel
theorem dL_does_257 : decode cL_does 257 = .ok (.istore 9, 2) := by decide +kernel
theorem dL_does_259 : decode cL_does 259 = .ok (.iload_n 2, 1) := by decide +kernel
theorem dL_does_260 : decode cL_does 260 = .ok (.bipush 6, 2) := by decide +kernel
theorem dL_does_262 : decode cL_does 262 = .ok (.invokestatic 64, 3) := by decide +kernel
theorem dL_does_265 : decode cL_does 265 = .ok (.istore 10, 2) := by decide +kernel
theorem dL_does_267 : decode cL_does 267 = .ok (.iload_n 1, 1) := by decide +kernel
theorem dL_does_268 : decode cL_does 268 = .ok (.iconst 5, 1) := by decide +kernel
theorem dL_does_269 : decode cL_does 269 = .ok (.ishr, 1) := by decide +kernel
theorem dL_does_270 : decode cL_does 270 = .ok (.iconst 1, 1) := by decide +kernel
theorem dL_does_271 : decode cL_does 271 = .ok (.iand, 1) := by decide +kernel
theorem dL_does_272 : decode cL_does 272 = .ok (.ifCond .eq 27, 3) := by decide +kernel
theorem dL_does_275 : decode cL_does 275 = .ok (.aload_n 0, 1) := by decide +kernel
theorem dL_does_276 : decode cL_does 276 = .ok (.iload 10, 2) := by decide +kernel
theorem dL_does_278 : decode cL_does 278 = .ok (.invokevirtual 74, 3) := by decide +kernel
theorem dL_does_281 : decode cL_does 281 = .ok (.iload 10, 2) := by decide +kernel
theorem dL_does_283 : decode cL_does 283 = .ok (.iload 9, 2) := by decide +kernel
theorem dL_does_285 : decode cL_does 285 = .ok (.if_icmp .ge 10, 3) := by decide +kernel
theorem dL_does_288 : decode cL_does 288 = .ok (.iload 9, 2) := by decide +kernel
theorem dL_does_290 : decode cL_does 290 = .ok (.iconst 1, 1) := by decide +kernel
theorem dL_does_291 : decode cL_does 291 = .ok (.isub, 1) := by decide +kernel
theorem dL_does_292 : decode cL_does 292 = .ok (.goto 4, 3) := by decide +kernel
theorem dL_does_295 : decode cL_does 295 = .ok (.iconst (-1), 1) := by decide +kernel
theorem dL_does_296 : decode cL_does 296 = .ok (.if_icmp .ne 7, 3) := by decide +kernel
theorem dL_does_299 : decode cL_does 299 = .ok (.iconst 1, 1) := by decide +kernel
theorem dL_does_300 : decode cL_does 300 = .ok (.goto 4, 3) := by decide +kernel
theorem dL_does_303 : decode cL_does 303 = .ok (.iconst 0, 1) := by decide +kernel
theorem dL_does_304 : decode cL_does 304 = .ok (.ireturn, 1) := by decide +kernel
theorem dL_does_305 : decode cL_does 305 = .ok (.iload_n 1, 1) := by decide +kernel
theorem dL_does_306 : decode cL_does 306 = .ok (.iconst 5, 1) := by decide +kernel
theorem dL_does_307 : decode cL_does 307 = .ok (.ishr, 1) := by decide +kernel
theorem dL_does_308 : decode cL_does 308 = .ok (.iconst 4, 1) := by decide +kernel
theorem dL_does_309 : decode cL_does 309 = .ok (.invokestatic 64, 3) := by decide +kernel
theorem dL_does_312 : decode cL_does 312 = .ok (.istore 11, 2) := by decide +kernel
theorem dL_does_314 : decode cL_does 314 = .ok (.iload 11, 2) := by decide +kernel
theorem dL_does_316 : decode cL_does 316 = .ok (.ifCond .ne 12, 3) := by decide +kernel
theorem dL_does_319 : decode cL_does 319 = .ok (.iload_n 2, 1) := by decide +kernel
theorem dL_does_320 : decode cL_does 320 = .ok (.bipush 10, 2) := by decide +kernel
theorem dL_does_322 : decode cL_does 322 = .ok (.invokestatic 64, 3) := by decide +kernel
theorem dL_does_325 : decode cL_does 325 = .ok (.goto 44, 3) := by decide +kernel
theorem dL_does_328 : decode cL_does 328 = .ok (.iload 11, 2) := by decide +kernel
theorem dL_does_330 : decode cL_does 330 = .ok (.iconst 1, 1) := by decide +kernel
theorem dL_does_331 : decode cL_does 331 = .ok (.if_icmp .ne 12, 3) := by decide +kernel
theorem dL_does_334 : decode cL_does 334 = .ok (.iload_n 2, 1) := by decide +kernel
theorem dL_does_335 : decode cL_does 335 = .ok (.bipush 101, 2) := by decide +kernel
theorem dL_does_337 : decode cL_does 337 = .ok (.invokestatic 64, 3) := by decide +kernel
theorem dL_does_340 : decode cL_does 340 = .ok (.goto 29, 3) := by decide +kernel
theorem dL_does_343 : decode cL_does 343 = .ok (.iload 11, 2) := by decide +kernel
theorem dL_does_345 : decode cL_does 345 = .ok (.iconst 2, 1) := by decide +kernel
theorem dL_does_346 : decode cL_does 346 = .ok (.if_icmp .ne 15, 3) := by decide +kernel
theorem dL_does_349 : decode cL_does 349 = .ok (.iload_n 2, 1) := by decide +kernel
theorem dL_does_350 : decode cL_does 350 = .ok (.bipush 41, 2) := by decide +kernel
theorem dL_does_352 : decode cL_does 352 = .ok (.invokestatic 64, 3) := by decide +kernel
theorem dL_does_355 : decode cL_does 355 = .ok (.bipush 20, 2) := by decide +kernel
theorem dL_does_357 : decode cL_does 357 = .ok (.isub, 1) := by decide +kernel
theorem dL_does_358 : decode cL_does 358 = .ok (.goto 11, 3) := by decide +kernel
theorem dL_does_361 : decode cL_does 361 = .ok (.iconst 1, 1) := by decide +kernel
theorem dL_does_362 : decode cL_does 362 = .ok (.iload_n 2, 1) := by decide +kernel
theorem dL_does_363 : decode cL_does 363 = .ok (.bipush 9, 2) := by decide +kernel
theorem dL_does_365 : decode cL_does 365 = .ok (.invokestatic 64, 3) := by decide +kernel
theorem dL_does_368 : decode cL_does 368 = .ok (.iadd, 1) := by decide +kernel
theorem dL_does_369 : decode cL_does 369 = .ok (.istore 12, 2) := by decide +kernel
theorem dL_does_371 : decode cL_does 371 = .ok (.aload_n 0, 1) := by decide +kernel
theorem dL_does_372 : decode cL_does 372 = .ok (.bipush 12, 2) := by decide +kernel
theorem dL_does_374 : decode cL_does 374 = .ok (.iload 11, 2) := by decide +kernel
theorem dL_does_376 : decode cL_does 376 = .ok (.iadd, 1) := by decide +kernel
theorem dL_does_377 : decode cL_does 377 = .ok (.invokevirtual 8, 3) := by decide +kernel
theorem dL_does_380 : decode cL_does 380 = .ok (.istore 13, 2) := by decide +kernel
theorem dL_does_382 : decode cL_does 382 = .ok (.aload_n 0, 1) := by decide +kernel
theorem dL_does_383 : decode cL_does 383 = .ok (.iload 11, 2) := by decide +kernel
theorem dL_does_385 : decode cL_does 385 = .ok (.iload 12, 2) := by decide +kernel
theorem dL_does_387 : decode cL_does 387 = .ok (.invokevirtual 77, 3) := by decide +kernel
theorem dL_does_390 : decode cL_does 390 = .ok (.iload 13, 2) := by decide +kernel
theorem dL_does_392 : decode cL_does 392 = .ok (.iload 12, 2) := by decide +kernel
theorem dL_does_394 : decode cL_does 394 = .ok (.sipush 1000, 3) := by decide +kernel
theorem dL_does_397 : decode cL_does 397 = .ok (.iadd, 1) := by decide +kernel
theorem dL_does_398 : decode cL_does 398 = .ok (.if_icmp .ne 8, 3) := by decide +kernel
theorem dL_does_401 : decode cL_does 401 = .ok (.bipush (-5), 2) := by decide +kernel
theorem dL_does_403 : decode cL_does 403 = .ok (.goto 5, 3) := by decide +kernel
theorem dL_does_406 : decode cL_does 406 = .ok (.iload 13, 2) := by decide +kernel
theorem dL_does_408 : decode cL_does 408 = .ok (.if_icmp .ne 25, 3) := by decide +kernel
theorem dL_does_411 : decode cL_does 411 = .ok (.aload_n 0, 1) := by decide +kernel
theorem dL_does_412 : decode cL_does 412 = .ok (.bipush 12, 2) := by decide +kernel
theorem dL_does_414 : decode cL_does 414 = .ok (.iload 11, 2) := by decide +kernel
theorem dL_does_416 : decode cL_does 416 = .ok (.iadd, 1) := by decide +kernel
theorem dL_does_417 : decode cL_does 417 = .ok (.invokevirtual 8, 3) := by decide +kernel
theorem dL_does_420 : decode cL_does 420 = .ok (.iload 12, 2) := by decide +kernel
theorem dL_does_422 : decode cL_does 422 = .ok (.sipush 1000, 3) := by decide +kernel
theorem dL_does_425 : decode cL_does 425 = .ok (.iadd, 1) := by decide +kernel
theorem dL_does_426 : decode cL_does 426 = .ok (.if_icmp .ne 7, 3) := by decide +kernel
theorem dL_does_429 : decode cL_does 429 = .ok (.iconst 1, 1) := by decide +kernel
theorem dL_does_430 : decode cL_does 430 = .ok (.goto 4, 3) := by decide +kernel
theorem dL_does_433 : decode cL_does 433 = .ok (.iconst 0, 1) := by decide +kernel
theorem dL_does_434 : decode cL_does 434 = .ok (.ireturn, 1) := by decide +kernel
theorem dL_does_435 : decode cL_does 435 = .ok (.iload_n 2, 1) := by decide +kernel
theorem dL_does_436 : decode cL_does 436 = .ok (.iconst 3, 1) := by decide +kernel
theorem dL_does_437 : decode cL_does 437 = .ok (.iand, 1) := by decide +kernel
theorem dL_does_438 : decode cL_does 438 = .ok (.istore 14, 2) := by decide +kernel
theorem dL_does_440 : decode cL_does 440 = .ok (.aload_n 0, 1) := by decide +kernel
theorem dL_does_441 : decode cL_does 441 = .ok (.iload 14, 2) := by decide +kernel
theorem dL_does_443 : decode cL_does 443 = .ok (.iconst 0, 1) := by decide +kernel
theorem dL_does_444 : decode cL_does 444 = .ok (.invokevirtual 39, 3) := by decide +kernel
theorem dL_does_447 : decode cL_does 447 = .ok (.istore 15, 2) := by decide +kernel
theorem dL_does_449 : decode cL_does 449 = .ok (.iconst 1, 1) := by decide +kernel
theorem dL_does_450 : decode cL_does 450 = .ok (.iload_n 2, 1) := by decide +kernel
theorem dL_does_451 : decode cL_does 451 = .ok (.iconst 2, 1) := by decide +kernel
theorem dL_does_452 : decode cL_does 452 = .ok (.ishr, 1) := by decide +kernel
theorem dL_does_453 : decode cL_does 453 = .ok (.bipush 60, 2) := by decide +kernel
theorem dL_does_455 : decode cL_does 455 = .ok (.invokestatic 64, 3) := by decide +kernel
theorem dL_does_458 : decode cL_does 458 = .ok (.iadd, 1) := by decide +kernel
theorem dL_does_459 : decode cL_does 459 = .ok (.istore 16, 2) := by decide +kernel
theorem dL_does_461 : decode cL_does 461 = .ok (.aload_n 0, 1) := by decide +kernel
theorem dL_does_462 : decode cL_does 462 = .ok (.iload 14, 2) := by decide +kernel
theorem dL_does_464 : decode cL_does 464 = .ok (.iconst 1, 1) := by decide +kernel
theorem dL_does_465 : decode cL_does 465 = .ok (.invokevirtual 39, 3) := by decide +kernel
theorem dL_does_468 : decode cL_does 468 = .ok (.ifCond .ne 14, 3) := by decide +kernel
theorem dL_does_471 : decode cL_does 471 = .ok (.iload 15, 2) := by decide +kernel
theorem dL_does_473 : decode cL_does 473 = .ok (.iload 16, 2) := by decide +kernel
theorem dL_does_475 : decode cL_does 475 = .ok (.if_icmp .lt 7, 3) := by decide +kernel
theorem dL_does_478 : decode cL_does 478 = .ok (.iconst 1, 1) := by decide +kernel
theorem dL_does_479 : decode cL_does 479 = .ok (.goto 4, 3) := by decide +kernel
theorem dL_does_482 : decode cL_does 482 = .ok (.iconst 0, 1) := by decide +kernel
theorem dL_does_483 : decode cL_does 483 = .ok (.istore 17, 2) := by decide +kernel
theorem dL_does_485 : decode cL_does 485 = .ok (.aload_n 0, 1) := by decide +kernel
theorem dL_does_486 : decode cL_does 486 = .ok (.iload 14, 2) := by decide +kernel
theorem dL_does_488 : decode cL_does 488 = .ok (.iload_n 2, 1) := by decide +kernel
theorem dL_does_489 : decode cL_does 489 = .ok (.bipush 9, 2) := by decide +kernel
theorem dL_does_491 : decode cL_does 491 = .ok (.ishr, 1) := by decide +kernel
theorem dL_does_492 : decode cL_does 492 = .ok (.iconst 1, 1) := by decide +kernel
theorem dL_does_493 : decode cL_does 493 = .ok (.iand, 1) := by decide +kernel
theorem dL_does_494 : decode cL_does 494 = .ok (.iconst 1, 1) := by decide +kernel
theorem dL_does_495 : decode cL_does 495 = .ok (.if_icmp .ne 7, 3) := by decide +kernel
theorem dL_does_498 : decode cL_does 498 = .ok (.iconst 1, 1) := by decide +kernel
theorem dL_does_499 : decode cL_does 499 = .ok (.goto 4, 3) := by decide +kernel
theorem dL_does_502 : decode cL_does 502 = .ok (.iconst 0, 1) := by decide +kernel
theorem dL_does_503 : decode cL_does 503 = .ok (.iload 16, 2) := by decide +kernel
theorem dL_does_505 : decode cL_does 505 = .ok (.invokevirtual 80, 3) := by decide +kernel
theorem dL_does_508 : decode cL_does 508 = .ok (.iload 17, 2) := by decide +kernel
theorem dL_does_510 : decode cL_does 510 = .ok (.ifCond .eq 11, 3) := by decide +kernel
theorem dL_does_513 : decode cL_does 513 = .ok (.iload 15, 2) := by decide +kernel
theorem dL_does_515 : decode cL_does 515 = .ok (.iload 16, 2) := by decide +kernel
theorem dL_does_517 : decode cL_does 517 = .ok (.isub, 1) := by decide +kernel
theorem dL_does_518 : decode cL_does 518 = .ok (.goto 5, 3) := by decide +kernel
theorem dL_does_521 : decode cL_does 521 = .ok (.bipush (-4), 2) := by decide +kernel
theorem dL_does_523 : decode cL_does 523 = .ok (.if_icmp .ne 40, 3) := by decide +kernel
theorem dL_does_526 : decode cL_does 526 = .ok (.iload 17, 2) := by decide +kernel
theorem dL_does_528 : decode cL_does 528 = .ok (.ifCond .eq 31, 3) := by decide +kernel
theorem dL_does_531 : decode cL_does 531 = .ok (.aload_n 0, 1) := by decide +kernel
theorem dL_does_532 : decode cL_does 532 = .ok (.iload 14, 2) := by decide +kernel
theorem dL_does_534 : decode cL_does 534 = .ok (.iconst 1, 1) := by decide +kernel
theorem dL_does_535 : decode cL_does 535 = .ok (.invokevirtual 39, 3) := by decide +kernel
theorem dL_does_538 : decode cL_does 538 = .ok (.iload 16, 2) := by decide +kernel
theorem dL_does_540 : decode cL_does 540 = .ok (.if_icmp .ne 23, 3) := by decide +kernel
theorem dL_does_543 : decode cL_does 543 = .ok (.aload_n 0, 1) := by decide +kernel
theorem dL_does_544 : decode cL_does 544 = .ok (.iload 14, 2) := by decide +kernel
theorem dL_does_546 : decode cL_does 546 = .ok (.iconst 2, 1) := by decide +kernel
theorem dL_does_547 : decode cL_does 547 = .ok (.invokevirtual 39, 3) := by decide +kernel
theorem dL_does_550 : decode cL_does 550 = .ok (.iload_n 2, 1) := by decide +kernel
theorem dL_does_551 : decode cL_does 551 = .ok (.bipush 9, 2) := by decide +kernel
theorem dL_does_553 : decode cL_does 553 = .ok (.ishr, 1) := by decide +kernel
theorem dL_does_554 : decode cL_does 554 = .ok (.iconst 1, 1) := by decide +kernel
theorem dL_does_555 : decode cL_does 555 = .ok (.iand, 1) := by decide +kernel
theorem dL_does_556 : decode cL_does 556 = .ok (.if_icmp .ne 7, 3) := by decide +kernel
theorem dL_does_559 : decode cL_does 559 = .ok (.iconst 1, 1) := by decide +kernel
theorem dL_does_560 : decode cL_does 560 = .ok (.goto 4, 3) := by decide +kernel
theorem dL_does_563 : decode cL_does 563 = .ok (.iconst 0, 1) := by decide +kernel
theorem dL_does_564 : decode cL_does 564 = .ok (.ireturn, 1) := by decide +kernel
theorem dL_does_565 : decode cL_does 565 = .ok (.iload_n 2, 1) := by decide +kernel
theorem dL_does_566 : decode cL_does 566 = .ok (.iconst 3, 1) := by decide +kernel
theorem dL_does_567 : decode cL_does 567 = .ok (.iand, 1) := by decide +kernel
theorem dL_does_568 : decode cL_does 568 = .ok (.istore 18, 2) := by decide +kernel
theorem dL_does_570 : decode cL_does 570 = .ok (.aload_n 0, 1) := by decide +kernel
theorem dL_does_571 : decode cL_does 571 = .ok (.iload 18, 2) := by decide +kernel
theorem dL_does_573 : decode cL_does 573 = .ok (.iconst 1, 1) := by decide +kernel
theorem dL_does_574 : decode cL_does 574 = .ok (.invokevirtual 39, 3) := by decide +kernel
theorem dL_does_577 : decode cL_does 577 = .ok (.istore 19, 2) := by decide +kernel
theorem dL_does_579 : decode cL_does 579 = .ok (.aload_n 0, 1) := by decide +kernel
theorem dL_does_580 : decode cL_does 580 = .ok (.iload 18, 2) := by decide +kernel
theorem dL_does_582 : decode cL_does 582 = .ok (.iconst 0, 1) := by decide +kernel
theorem dL_does_583 : decode cL_does 583 = .ok (.invokevirtual 39, 3) := by decide +kernel
theorem dL_does_586 : decode cL_does 586 = .ok (.istore 20, 2) := by decide +kernel
theorem dL_does_588 : decode cL_does 588 = .ok (.aload_n 0, 1) := by decide +kernel
theorem dL_does_589 : decode cL_does 589 = .ok (.iload 18, 2) := by decide +kernel
theorem dL_does_591 : decode cL_does 591 = .ok (.invokevirtual 84, 3) := by decide +kernel
theorem dL_does_594 : decode cL_does 594 = .ok (.iload 19, 2) := by decide +kernel
theorem dL_does_596 : decode cL_does 596 = .ok (.ifCond .ne 8, 3) := by decide +kernel
theorem dL_does_599 : decode cL_does 599 = .ok (.bipush (-5), 2) := by decide +kernel
theorem dL_does_601 : decode cL_does 601 = .ok (.goto 8, 3) := by decide +kernel
theorem dL_does_604 : decode cL_does 604 = .ok (.iload 20, 2) := by decide +kernel
theorem dL_does_606 : decode cL_does 606 = .ok (.iload 19, 2) := by decide +kernel
theorem dL_does_608 : decode cL_does 608 = .ok (.iadd, 1) := by decide +kernel
theorem dL_does_609 : decode cL_does 609 = .ok (.if_icmp .ne 17, 3) := by decide +kernel
theorem dL_does_612 : decode cL_does 612 = .ok (.aload_n 0, 1) := by decide +kernel
theorem dL_does_613 : decode cL_does 613 = .ok (.iload 18, 2) := by decide +kernel
theorem dL_does_615 : decode cL_does 615 = .ok (.iconst 1, 1) := by decide +kernel
theorem dL_does_616 : decode cL_does 616 = .ok (.invokevirtual 39, 3) := by decide +kernel
theorem dL_does_619 : decode cL_does 619 = .ok (.ifCond .ne 7, 3) := by decide +kernel
theorem dL_does_622 : decode cL_does 622 = .ok (.iconst 1, 1) := by decide +kernel
theorem dL_does_623 : decode cL_does 623 = .ok (.goto 4, 3) := by decide +kernel
theorem dL_does_626 : decode cL_does 626 = .ok (.iconst 0, 1) := by decide +kernel
theorem dL_does_627 : decode cL_does 627 = .ok (.ireturn, 1) := by decide +kernel
theorem dL_does_628 : decode cL_does 628 = .ok (.aload_n 0, 1) := by decide +kernel
theorem dL_does_629 : decode cL_does 629 = .ok (.aload_n 3, 1) := by decide +kernel
theorem dL_does_630 : decode cL_does 630 = .ok (.invokestatic 87, 3) := by decide +kernel
theorem dL_does_633 : decode cL_does 633 = .ok (.ireturn, 1) := by decide +kernel
theorem dL_does_634 : decode cL_does 634 = .ok (.aload_n 0, 1) := by decide +kernel
theorem dL_does_635 : decode cL_does 635 = .ok (.iload_n 2, 1) := by decide +kernel
theorem dL_does_636 : decode cL_does 636 = .ok (.bipush 61, 2) := by decide +kernel
theorem dL_does_638 : decode cL_does 638 = .ok (.invokestatic 64, 3) := by decide +kernel
theorem dL_does_641 : decode cL_does 641 = .ok (.bipush 30, 2) := by decide +kernel
theorem dL_does_643 : decode cL_does 643 = .ok (.isub, 1) := by decide +kernel
theorem dL_does_644 : decode cL_does 644 = .ok (.aload_n 3, 1) := by decide +kernel
theorem dL_does_645 : decode cL_does 645 = .ok (.invokestatic 91, 3) := by decide +kernel
theorem dL_does_648 : decode cL_does 648 = .ok (.ireturn, 1) := by decide +kernel
theorem dL_law_0 : decode cL_law 0 = .ok (.new 9, 3) := by decide +kernel
theorem dL_law_3 : decode cL_law 3 = .ok (.dup, 1) := by decide +kernel
theorem dL_law_4 : decode cL_law 4 = .ok (.invokespecial 95, 3) := by decide +kernel
theorem dL_law_7 : decode cL_law 7 = .ok (.astore_n 1, 1) := by decide +kernel
theorem dL_law_8 : decode cL_law 8 = .ok (.bipush 52, 2) := by decide +kernel
theorem dL_law_10 : decode cL_law 10 = .ok (.newarray .int, 2) := by decide +kernel
theorem dL_law_12 : decode cL_law 12 = .ok (.astore_n 2, 1) := by decide +kernel
theorem dL_law_13 : decode cL_law 13 = .ok (.aload_n 1, 1) := by decide +kernel
theorem dL_law_14 : decode cL_law 14 = .ok (.invokestatic 96, 3) := by decide +kernel
theorem dL_law_17 : decode cL_law 17 = .ok (.ifCond .eq 47, 3) := by decide +kernel
theorem dL_law_20 : decode cL_law 20 = .ok (.aload_n 1, 1) := by decide +kernel
theorem dL_law_21 : decode cL_law 21 = .ok (.iconst 0, 1) := by decide +kernel
theorem dL_law_22 : decode cL_law 22 = .ok (.invokestatic 100, 3) := by decide +kernel
theorem dL_law_25 : decode cL_law 25 = .ok (.ifCond .eq 39, 3) := by decide +kernel
theorem dL_law_28 : decode cL_law 28 = .ok (.aload_n 1, 1) := by decide +kernel
theorem dL_law_29 : decode cL_law 29 = .ok (.invokevirtual 104, 3) := by decide +kernel
theorem dL_law_32 : decode cL_law 32 = .ok (.fconst 0, 1) := by decide +kernel
theorem dL_law_33 : decode cL_law 33 = .ok (.fcmp .l, 1) := by decide +kernel
theorem dL_law_34 : decode cL_law 34 = .ok (.ifCond .ne 30, 3) := by decide +kernel
theorem dL_law_37 : decode cL_law 37 = .ok (.aload_n 1, 1) := by decide +kernel
theorem dL_law_38 : decode cL_law 38 = .ok (.invokevirtual 108, 3) := by decide +kernel
theorem dL_law_41 : decode cL_law 41 = .ok (.bipush (-5), 2) := by decide +kernel
theorem dL_law_43 : decode cL_law 43 = .ok (.if_icmp .ne 21, 3) := by decide +kernel
theorem dL_law_46 : decode cL_law 46 = .ok (.aload_n 1, 1) := by decide +kernel
theorem dL_law_47 : decode cL_law 47 = .ok (.invokevirtual 58, 3) := by decide +kernel
theorem dL_law_50 : decode cL_law 50 = .ok (.bipush (-5), 2) := by decide +kernel
theorem dL_law_52 : decode cL_law 52 = .ok (.if_icmp .ne 12, 3) := by decide +kernel
theorem dL_law_55 : decode cL_law 55 = .ok (.aload_n 1, 1) := by decide +kernel
theorem dL_law_56 : decode cL_law 56 = .ok (.invokevirtual 111, 3) := by decide +kernel
theorem dL_law_59 : decode cL_law 59 = .ok (.bipush (-100), 2) := by decide +kernel
theorem dL_law_61 : decode cL_law 61 = .ok (.if_icmp .eq 5, 3) := by decide +kernel
theorem dL_law_64 : decode cL_law 64 = .ok (.iconst 0, 1) := by decide +kernel
theorem dL_law_65 : decode cL_law 65 = .ok (.ireturn, 1) := by decide +kernel
theorem dL_law_66 : decode cL_law 66 = .ok (.iconst 0, 1) := by decide +kernel
theorem dL_law_67 : decode cL_law 67 = .ok (.istore_n 3, 1) := by decide +kernel
theorem dL_law_68 : decode cL_law 68 = .ok (.iload_n 3, 1) := by decide +kernel
theorem dL_law_69 : decode cL_law 69 = .ok (.sipush 130, 3) := by decide +kernel
theorem dL_law_72 : decode cL_law 72 = .ok (.if_icmp .ge 85, 3) := by decide +kernel
theorem dL_law_75 : decode cL_law 75 = .ok (.aload_n 0, 1) := by decide +kernel
theorem dL_law_76 : decode cL_law 76 = .ok (.iconst 2, 1) := by decide +kernel
theorem dL_law_77 : decode cL_law 77 = .ok (.iload_n 3, 1) := by decide +kernel
theorem dL_law_78 : decode cL_law 78 = .ok (.imul, 1) := by decide +kernel
theorem dL_law_79 : decode cL_law 79 = .ok (.invokestatic 114, 3) := by decide +kernel
theorem dL_law_82 : decode cL_law 82 = .ok (.istore 4, 2) := by decide +kernel
theorem dL_law_84 : decode cL_law 84 = .ok (.aload_n 1, 1) := by decide +kernel
theorem dL_law_85 : decode cL_law 85 = .ok (.iload 4, 2) := by decide +kernel
theorem dL_law_87 : decode cL_law 87 = .ok (.aload_n 0, 1) := by decide +kernel
theorem dL_law_88 : decode cL_law 88 = .ok (.iconst 2, 1) := by decide +kernel
theorem dL_law_89 : decode cL_law 89 = .ok (.iload_n 3, 1) := by decide +kernel
theorem dL_law_90 : decode cL_law 90 = .ok (.imul, 1) := by decide +kernel
theorem dL_law_91 : decode cL_law 91 = .ok (.iconst 1, 1) := by decide +kernel
theorem dL_law_92 : decode cL_law 92 = .ok (.iadd, 1) := by decide +kernel
theorem dL_law_93 : decode cL_law 93 = .ok (.invokestatic 114, 3) := by decide +kernel
theorem dL_law_96 : decode cL_law 96 = .ok (.aload_n 2, 1) := by decide +kernel
theorem dL_law_97 : decode cL_law 97 = .ok (.invokestatic 118, 3) := by decide +kernel
theorem dL_law_100 : decode cL_law 100 = .ok (.ifCond .eq 49, 3) := by decide +kernel
theorem dL_law_103 : decode cL_law 103 = .ok (.aload_n 1, 1) := by decide +kernel
theorem dL_law_104 : decode cL_law 104 = .ok (.invokestatic 96, 3) := by decide +kernel
theorem dL_law_107 : decode cL_law 107 = .ok (.ifCond .eq 42, 3) := by decide +kernel
theorem dL_law_110 : decode cL_law 110 = .ok (.iload_n 3, 1) := by decide +kernel
theorem dL_law_111 : decode cL_law 111 = .ok (.bipush 7, 2) := by decide +kernel
theorem dL_law_113 : decode cL_law 113 = .ok (.irem, 1) := by decide +kernel
theorem dL_law_114 : decode cL_law 114 = .ok (.iconst 3, 1) := by decide +kernel
theorem dL_law_115 : decode cL_law 115 = .ok (.if_icmp .ne 18, 3) := by decide +kernel
theorem dL_law_118 : decode cL_law 118 = .ok (.aload_n 1, 1) := by decide +kernel
theorem dL_law_119 : decode cL_law 119 = .ok (.iload 4, 2) := by decide +kernel
theorem dL_law_121 : decode cL_law 121 = .ok (.iconst 5, 1) := by decide +kernel
theorem dL_law_122 : decode cL_law 122 = .ok (.ishr, 1) := by decide +kernel
theorem dL_law_123 : decode cL_law 123 = .ok (.iconst 4, 1) := by decide +kernel
theorem dL_law_124 : decode cL_law 124 = .ok (.invokestatic 64, 3) := by decide +kernel
theorem dL_law_127 : decode cL_law 127 = .ok (.invokestatic 100, 3) := by decide +kernel
theorem dL_law_130 : decode cL_law 130 = .ok (.ifCond .eq 19, 3) := by decide +kernel
theorem dL_law_133 : decode cL_law 133 = .ok (.iload_n 3, 1) := by decide +kernel
theorem dL_law_134 : decode cL_law 134 = .ok (.bipush 25, 2) := by decide +kernel
theorem dL_law_136 : decode cL_law 136 = .ok (.irem, 1) := by decide +kernel
theorem dL_law_137 : decode cL_law 137 = .ok (.bipush 19, 2) := by decide +kernel
theorem dL_law_139 : decode cL_law 139 = .ok (.if_icmp .ne 12, 3) := by decide +kernel
theorem dL_law_142 : decode cL_law 142 = .ok (.aload_n 1, 1) := by decide +kernel
theorem dL_law_143 : decode cL_law 143 = .ok (.invokestatic 122, 3) := by decide +kernel
theorem dL_law_146 : decode cL_law 146 = .ok (.ifCond .ne 5, 3) := by decide +kernel
theorem dL_law_149 : decode cL_law 149 = .ok (.iconst 0, 1) := by decide +kernel
theorem dL_law_150 : decode cL_law 150 = .ok (.ireturn, 1) := by decide +kernel
theorem dL_law_151 : decode cL_law 151 = .ok (.iinc 3 1, 3) := by decide +kernel
theorem dL_law_154 : decode cL_law 154 = .ok (.goto (-86), 3) := by decide +kernel
theorem dL_law_157 : decode cL_law 157 = .ok (.aload_n 1, 1) := by decide +kernel
theorem dL_law_158 : decode cL_law 158 = .ok (.bipush 41, 2) := by decide +kernel
theorem dL_law_160 : decode cL_law 160 = .ok (.invokevirtual 49, 3) := by decide +kernel
theorem dL_law_163 : decode cL_law 163 = .ok (.bipush (-2), 2) := by decide +kernel
theorem dL_law_165 : decode cL_law 165 = .ok (.if_icmp .ne 99, 3) := by decide +kernel
theorem dL_law_168 : decode cL_law 168 = .ok (.aload_n 1, 1) := by decide +kernel
theorem dL_law_169 : decode cL_law 169 = .ok (.bipush 20, 2) := by decide +kernel
theorem dL_law_171 : decode cL_law 171 = .ok (.iconst 0, 1) := by decide +kernel
theorem dL_law_172 : decode cL_law 172 = .ok (.invokevirtual 67, 3) := by decide +kernel
theorem dL_law_175 : decode cL_law 175 = .ok (.iconst (-1), 1) := by decide +kernel
theorem dL_law_176 : decode cL_law 176 = .ok (.if_icmp .ne 88, 3) := by decide +kernel
theorem dL_law_179 : decode cL_law 179 = .ok (.aload_n 1, 1) := by decide +kernel
theorem dL_law_180 : decode cL_law 180 = .ok (.iconst 0, 1) := by decide +kernel
theorem dL_law_181 : decode cL_law 181 = .ok (.bipush 41, 2) := by decide +kernel
theorem dL_law_183 : decode cL_law 183 = .ok (.iconst 0, 1) := by decide +kernel
theorem dL_law_184 : decode cL_law 184 = .ok (.iconst 1, 1) := by decide +kernel
theorem dL_law_185 : decode cL_law 185 = .ok (.invokevirtual 70, 3) := by decide +kernel
theorem dL_law_188 : decode cL_law 188 = .ok (.bipush (-2), 2) := by decide +kernel
theorem dL_law_190 : decode cL_law 190 = .ok (.if_icmp .ne 74, 3) := by decide +kernel
theorem dL_law_193 : decode cL_law 193 = .ok (.aload_n 1, 1) := by decide +kernel
theorem dL_law_194 : decode cL_law 194 = .ok (.iconst 3, 1) := by decide +kernel
theorem dL_law_195 : decode cL_law 195 = .ok (.iconst 0, 1) := by decide +kernel
theorem dL_law_196 : decode cL_law 196 = .ok (.invokevirtual 77, 3) := by decide +kernel
theorem dL_law_199 : decode cL_law 199 = .ok (.bipush (-2), 2) := by decide +kernel
theorem dL_law_201 : decode cL_law 201 = .ok (.if_icmp .ne 63, 3) := by decide +kernel
theorem dL_law_204 : decode cL_law 204 = .ok (.aload_n 1, 1) := by decide +kernel
theorem dL_law_205 : decode cL_law 205 = .ok (.iconst 4, 1) := by decide +kernel
theorem dL_law_206 : decode cL_law 206 = .ok (.iconst 1, 1) := by decide +kernel
theorem dL_law_207 : decode cL_law 207 = .ok (.iconst 1, 1) := by decide +kernel
theorem dL_law_208 : decode cL_law 208 = .ok (.invokevirtual 80, 3) := by decide +kernel
theorem dL_law_211 : decode cL_law 211 = .ok (.iconst (-1), 1) := by decide +kernel
theorem dL_law_212 : decode cL_law 212 = .ok (.if_icmp .ne 52, 3) := by decide +kernel
theorem dL_law_215 : decode cL_law 215 = .ok (.aload_n 1, 1) := by decide +kernel
theorem dL_law_216 : decode cL_law 216 = .ok (.iconst 0, 1) := by decide +kernel
theorem dL_law_217 : decode cL_law 217 = .ok (.iconst 1, 1) := by decide +kernel
theorem dL_law_218 : decode cL_law 218 = .ok (.sipush 1001, 3) := by decide +kernel
theorem dL_law_221 : decode cL_law 221 = .ok (.invokevirtual 80, 3) := by decide +kernel
theorem dL_law_224 : decode cL_law 224 = .ok (.bipush (-2), 2) := by decide +kernel
theorem dL_law_226 : decode cL_law 226 = .ok (.if_icmp .ne 38, 3) := by decide +kernel
theorem dL_law_229 : decode cL_law 229 = .ok (.aload_n 1, 1) := by decide +kernel
theorem dL_law_230 : decode cL_law 230 = .ok (.iconst 2, 1) := by decide +kernel
theorem dL_law_231 : decode cL_law 231 = .ok (.invokevirtual 61, 3) := by decide +kernel
theorem dL_law_234 : decode cL_law 234 = .ok (.bipush (-2), 2) := by decide +kernel
theorem dL_law_236 : decode cL_law 236 = .ok (.if_icmp .ne 28, 3) := by decide +kernel
theorem dL_law_239 : decode cL_law 239 = .ok (.aload_n 1, 1) := by decide +kernel
theorem dL_law_240 : decode cL_law 240 = .ok (.bipush 20, 2) := by decide +kernel
theorem dL_law_242 : decode cL_law 242 = .ok (.invokevirtual 56, 3) := by decide +kernel
theorem dL_law_245 : decode cL_law 245 = .ok (.iconst (-1), 1) := by decide +kernel
theorem dL_law_246 : decode cL_law 246 = .ok (.if_icmp .ne 18, 3) := by decide +kernel
theorem dL_law_249 : decode cL_law 249 = .ok (.aload_n 1, 1) := by decide +kernel
theorem dL_law_250 : decode cL_law 250 = .ok (.bipush 16, 2) := by decide +kernel
theorem dL_law_252 : decode cL_law 252 = .ok (.invokevirtual 8, 3) := by decide +kernel
theorem dL_law_255 : decode cL_law 255 = .ok (.bipush (-2), 2) := by decide +kernel
theorem dL_law_257 : decode cL_law 257 = .ok (.if_icmp .ne 7, 3) := by decide +kernel
theorem dL_law_260 : decode cL_law 260 = .ok (.iconst 1, 1) := by decide +kernel
theorem dL_law_261 : decode cL_law 261 = .ok (.goto 4, 3) := by decide +kernel
theorem dL_law_264 : decode cL_law 264 = .ok (.iconst 0, 1) := by decide +kernel
theorem dL_law_265 : decode cL_law 265 = .ok (.ireturn, 1) := by decide +kernel
end
section
def AW : List Cond := lw_tbl.filter goodWord
theorem aw_mem {w : Cond} (i : Nat) (h : lw_tbl[i]? = some w ∧ goodWord w = true) : w ∈ AW := List.mem_filter.mpr ⟨List.mem_of_getElem? h.1, h.2⟩
theorem aw_tbl {w : Cond} (h : w ∈ AW) : w ∈ lw_tbl := (List.mem_filter.mp h).1
theorem aw_good {w : Cond} (h : w ∈ AW) : goodWord w = true := (List.mem_filter.mp h).2
def ws_ (y : MethodName) (c : ByteArray) (n : Nat) (ret : Option FieldType) : List Cond := .code y c n ret :: AW
theorem ws_good {y : MethodName} {c : ByteArray} {n : Nat} {ret : Option FieldType} (h : Cond.code y c n ret ∈ AW) : GoodIn AW (ws_ y c n ret) := by
  intro w hw
  rcases List.mem_cons.mp hw with rfl | hw
  · exact ⟨h, good_of_word (aw_good h)⟩
  · exact ⟨hw, good_of_word (aw_good hw)⟩
def yW (y : MethodName) (n : Nat) : Prop := y.cls ≠ "java/lang/invoke/MethodHandle" ∧ y.cls ≠ "java/lang/invoke/VarHandle" ∧ (parseMethodDescriptor y.desc).map (fun d => d.parameters.length) = some n
/-- a call's words: of an instance's method, of a static one, of a nest mate's static one, of a constructor, of a nest mate's constructor -/
def VW (own : String) (idx : Nat) (y : MethodName) (c : ByteArray) (n : Nat) (ret : Option FieldType) (k : Nat) : Prop := Cond.code y c n ret ∈ AW ∧ Cond.methodLink own idx y ∈ AW ∧ Cond.instanceMethod y ∈ AW ∧ Cond.selects y.cls y y ∈ AW ∧ Cond.initialized y.cls ∈ AW ∧ yW y k
def SW (own : String) (idx : Nat) (y : MethodName) (c : ByteArray) (n : Nat) (ret : Option FieldType) (k : Nat) : Prop := Cond.code y c n ret ∈ AW ∧ Cond.methodLink own idx y ∈ AW ∧ Cond.static y ∈ AW ∧ Cond.initialized y.cls ∈ AW ∧ yW y k
def NW (y : MethodName) (c : ByteArray) (n : Nat) (ret : Option FieldType) (k : Nat) : Prop := Cond.code y c n ret ∈ AW ∧ Cond.static y ∈ AW ∧ Cond.initialized y.cls ∈ AW ∧ yW y k
def IW (own : String) (idx : Nat) (y : MethodName) (c : ByteArray) (n : Nat) (k : Nat) : Prop := Cond.code y c n none ∈ AW ∧ Cond.methodLink own idx y ∈ AW ∧ Cond.instanceMethod y ∈ AW ∧ Cond.initialized y.cls ∈ AW ∧ yW y k
def JW (y : MethodName) (c : ByteArray) (n : Nat) (k : Nat) : Prop := Cond.code y c n none ∈ AW ∧ Cond.instanceMethod y ∈ AW ∧ Cond.initialized y.cls ∈ AW ∧ yW y k
theorem uw_X0 : ∀ w ∈ u_ws RX0 TX0 6, w ∈ AW := by
  intro w hw
  obtain ⟨k, hk, rfl⟩ := List.mem_map.mp hw
  have hk := List.mem_range.mp hk
  rcases (show k = 0 ∨ k = 1 ∨ k = 2 ∨ k = 3 ∨ k = 4 ∨ k = 5 by omega) with rfl | rfl | rfl | rfl | rfl | rfl
  · exact aw_mem 41 (by decide +kernel)
  · exact aw_mem 43 (by decide +kernel)
  · exact aw_mem 45 (by decide +kernel)
  · exact aw_mem 47 (by decide +kernel)
  · exact aw_mem 49 (by decide +kernel)
  · exact aw_mem 51 (by decide +kernel)
theorem uw_X1 : ∀ w ∈ u_ws RX1 TX1 5, w ∈ AW := by
  intro w hw
  obtain ⟨k, hk, rfl⟩ := List.mem_map.mp hw
  have hk := List.mem_range.mp hk
  rcases (show k = 0 ∨ k = 1 ∨ k = 2 ∨ k = 3 ∨ k = 4 by omega) with rfl | rfl | rfl | rfl | rfl
  · exact aw_mem 148 (by decide +kernel)
  · exact aw_mem 150 (by decide +kernel)
  · exact aw_mem 152 (by decide +kernel)
  · exact aw_mem 154 (by decide +kernel)
  · exact aw_mem 156 (by decide +kernel)
theorem uw_X2 : ∀ w ∈ u_ws RX2 TX2 4, w ∈ AW := by
  intro w hw
  obtain ⟨k, hk, rfl⟩ := List.mem_map.mp hw
  have hk := List.mem_range.mp hk
  rcases (show k = 0 ∨ k = 1 ∨ k = 2 ∨ k = 3 by omega) with rfl | rfl | rfl | rfl
  · exact aw_mem 118 (by decide +kernel)
  · exact aw_mem 120 (by decide +kernel)
  · exact aw_mem 122 (by decide +kernel)
  · exact aw_mem 124 (by decide +kernel)
theorem uw_X3 : ∀ w ∈ u_ws RX3 TX3 13, w ∈ AW := by
  intro w hw
  obtain ⟨k, hk, rfl⟩ := List.mem_map.mp hw
  have hk := List.mem_range.mp hk
  rcases (show k = 0 ∨ k = 1 ∨ k = 2 ∨ k = 3 ∨ k = 4 ∨ k = 5 ∨ k = 6 ∨ k = 7 ∨ k = 8 ∨ k = 9 ∨ k = 10 ∨ k = 11 ∨ k = 12 by omega) with rfl | rfl | rfl | rfl | rfl | rfl | rfl | rfl | rfl | rfl | rfl | rfl | rfl
  · exact aw_mem 184 (by decide +kernel)
  · exact aw_mem 186 (by decide +kernel)
  · exact aw_mem 188 (by decide +kernel)
  · exact aw_mem 190 (by decide +kernel)
  · exact aw_mem 192 (by decide +kernel)
  · exact aw_mem 194 (by decide +kernel)
  · exact aw_mem 196 (by decide +kernel)
  · exact aw_mem 198 (by decide +kernel)
  · exact aw_mem 200 (by decide +kernel)
  · exact aw_mem 202 (by decide +kernel)
  · exact aw_mem 204 (by decide +kernel)
  · exact aw_mem 206 (by decide +kernel)
  · exact aw_mem 208 (by decide +kernel)
theorem uw_X4 : ∀ w ∈ u_ws RX4 TX4 5, w ∈ AW := by
  intro w hw
  obtain ⟨k, hk, rfl⟩ := List.mem_map.mp hw
  have hk := List.mem_range.mp hk
  rcases (show k = 0 ∨ k = 1 ∨ k = 2 ∨ k = 3 ∨ k = 4 by omega) with rfl | rfl | rfl | rfl | rfl
  · exact aw_mem 88 (by decide +kernel)
  · exact aw_mem 90 (by decide +kernel)
  · exact aw_mem 92 (by decide +kernel)
  · exact aw_mem 94 (by decide +kernel)
  · exact aw_mem 96 (by decide +kernel)
theorem uw_X5 : ∀ w ∈ u_ws RX5 TX5 7, w ∈ AW := by
  intro w hw
  obtain ⟨k, hk, rfl⟩ := List.mem_map.mp hw
  have hk := List.mem_range.mp hk
  rcases (show k = 0 ∨ k = 1 ∨ k = 2 ∨ k = 3 ∨ k = 4 ∨ k = 5 ∨ k = 6 by omega) with rfl | rfl | rfl | rfl | rfl | rfl | rfl
  · exact aw_mem 218 (by decide +kernel)
  · exact aw_mem 220 (by decide +kernel)
  · exact aw_mem 222 (by decide +kernel)
  · exact aw_mem 224 (by decide +kernel)
  · exact aw_mem 226 (by decide +kernel)
  · exact aw_mem 228 (by decide +kernel)
  · exact aw_mem 230 (by decide +kernel)
theorem in_L : Cond.initialized RL ∈ AW := aw_mem 9 (by decide +kernel)
theorem in_X5 : Cond.initialized RX5 ∈ AW := aw_mem 10 (by decide +kernel)
theorem in_X0 : Cond.initialized RX0 ∈ AW := aw_mem 11 (by decide +kernel)
theorem in_X3 : Cond.initialized RX3 ∈ AW := aw_mem 12 (by decide +kernel)
theorem in_J10 : Cond.initialized RJ10 ∈ AW := aw_mem 13 (by decide +kernel)
theorem in_X4 : Cond.initialized RX4 ∈ AW := aw_mem 14 (by decide +kernel)
theorem in_X2 : Cond.initialized RX2 ∈ AW := aw_mem 15 (by decide +kernel)
theorem in_X1 : Cond.initialized RX1 ∈ AW := aw_mem 16 (by decide +kernel)
theorem in_J9 : Cond.initialized RJ9 ∈ AW := aw_mem 17 (by decide +kernel)
theorem kl_L_9 : Cond.classLink RL 9 RX5 ∈ AW := aw_mem 18 (by decide +kernel)
theorem ib_X5 : Cond.instantiable RX5 7 ∈ AW := aw_mem 19 (by decide +kernel)
theorem kl_X5_9 : Cond.classLink RX5 9 RX0 ∈ AW := aw_mem 26 (by decide +kernel)
theorem ib_X0 : Cond.instantiable RX0 6 ∈ AW := aw_mem 27 (by decide +kernel)
theorem ar_char : Cond.arrayClass .char ∈ AW := aw_mem 54 (by decide +kernel)
theorem kl_X5_16 : Cond.classLink RX5 16 RX3 ∈ AW := aw_mem 55 (by decide +kernel)
theorem ib_X3 : Cond.instantiable RX3 13 ∈ AW := aw_mem 57 (by decide +kernel)
theorem kl_X3_24 : Cond.classLink RX3 24 RX4 ∈ AW := aw_mem 67 (by decide +kernel)
theorem ib_X4 : Cond.instantiable RX4 5 ∈ AW := aw_mem 69 (by decide +kernel)
theorem ar_int : Cond.arrayClass .int ∈ AW := aw_mem 99 (by decide +kernel)
theorem kl_X3_31 : Cond.classLink RX3 31 RX2 ∈ AW := aw_mem 100 (by decide +kernel)
theorem ib_X2 : Cond.instantiable RX2 4 ∈ AW := aw_mem 102 (by decide +kernel)
theorem kl_X3_38 : Cond.classLink RX3 38 RX1 ∈ AW := aw_mem 127 (by decide +kernel)
theorem ib_X1 : Cond.instantiable RX1 5 ∈ AW := aw_mem 129 (by decide +kernel)
theorem kc_X5_209 : Cond.constant RX5 209 100000 ∈ AW := aw_mem 414 (by decide +kernel)
theorem kc_L_7 : Cond.constant RL 7 2147483647 ∈ AW := aw_mem 440 (by decide +kernel)
theorem fl_X0_9 : Cond.fieldLink RX0 9 RX0 (TX0 0).2.1 (TX0 0).2.2.1 ∈ AW := aw_mem 32 (by decide +kernel)
theorem fl_X0_15 : Cond.fieldLink RX0 15 RX0 (TX0 1).2.1 (TX0 1).2.2.1 ∈ AW := aw_mem 33 (by decide +kernel)
theorem fl_X5_143 : Cond.fieldLink RX5 143 RX0 (TX0 1).2.1 (TX0 1).2.2.1 ∈ AW := aw_mem 34 (by decide +kernel)
theorem fl_X0_19 : Cond.fieldLink RX0 19 RX0 (TX0 2).2.1 (TX0 2).2.2.1 ∈ AW := aw_mem 35 (by decide +kernel)
theorem fl_X0_40 : Cond.fieldLink RX0 40 RX0 (TX0 3).2.1 (TX0 3).2.2.1 ∈ AW := aw_mem 36 (by decide +kernel)
theorem fl_X5_70 : Cond.fieldLink RX5 70 RX0 (TX0 4).2.1 (TX0 4).2.2.1 ∈ AW := aw_mem 37 (by decide +kernel)
theorem fl_X0_43 : Cond.fieldLink RX0 43 RX0 (TX0 4).2.1 (TX0 4).2.2.1 ∈ AW := aw_mem 38 (by decide +kernel)
theorem fl_X5_67 : Cond.fieldLink RX5 67 RX0 (TX0 5).2.1 (TX0 5).2.2.1 ∈ AW := aw_mem 39 (by decide +kernel)
theorem fl_X0_46 : Cond.fieldLink RX0 46 RX0 (TX0 5).2.1 (TX0 5).2.2.1 ∈ AW := aw_mem 40 (by decide +kernel)
theorem fl_X4_9 : Cond.fieldLink RX4 9 RX4 (TX4 0).2.1 (TX4 0).2.2.1 ∈ AW := aw_mem 74 (by decide +kernel)
theorem fl_X5_86 : Cond.fieldLink RX5 86 RX4 (TX4 0).2.1 (TX4 0).2.2.1 ∈ AW := aw_mem 75 (by decide +kernel)
theorem fl_X3_106 : Cond.fieldLink RX3 106 RX4 (TX4 0).2.1 (TX4 0).2.2.1 ∈ AW := aw_mem 76 (by decide +kernel)
theorem fl_X4_15 : Cond.fieldLink RX4 15 RX4 (TX4 1).2.1 (TX4 1).2.2.1 ∈ AW := aw_mem 77 (by decide +kernel)
theorem fl_X3_103 : Cond.fieldLink RX3 103 RX4 (TX4 1).2.1 (TX4 1).2.2.1 ∈ AW := aw_mem 78 (by decide +kernel)
theorem fl_X4_18 : Cond.fieldLink RX4 18 RX4 (TX4 2).2.1 (TX4 2).2.2.1 ∈ AW := aw_mem 79 (by decide +kernel)
theorem fl_X3_97 : Cond.fieldLink RX3 97 RX4 (TX4 2).2.1 (TX4 2).2.2.1 ∈ AW := aw_mem 80 (by decide +kernel)
theorem fl_X5_155 : Cond.fieldLink RX5 155 RX4 (TX4 2).2.1 (TX4 2).2.2.1 ∈ AW := aw_mem 81 (by decide +kernel)
theorem fl_X4_21 : Cond.fieldLink RX4 21 RX4 (TX4 3).2.1 (TX4 3).2.2.1 ∈ AW := aw_mem 82 (by decide +kernel)
theorem fl_X3_127 : Cond.fieldLink RX3 127 RX4 (TX4 3).2.1 (TX4 3).2.2.1 ∈ AW := aw_mem 83 (by decide +kernel)
theorem fl_X5_158 : Cond.fieldLink RX5 158 RX4 (TX4 3).2.1 (TX4 3).2.2.1 ∈ AW := aw_mem 84 (by decide +kernel)
theorem fl_X4_24 : Cond.fieldLink RX4 24 RX4 (TX4 4).2.1 (TX4 4).2.2.1 ∈ AW := aw_mem 85 (by decide +kernel)
theorem fl_X3_130 : Cond.fieldLink RX3 130 RX4 (TX4 4).2.1 (TX4 4).2.2.1 ∈ AW := aw_mem 86 (by decide +kernel)
theorem fl_X5_205 : Cond.fieldLink RX5 205 RX4 (TX4 4).2.1 (TX4 4).2.2.1 ∈ AW := aw_mem 87 (by decide +kernel)
theorem fl_X2_7 : Cond.fieldLink RX2 7 RX2 (TX2 0).2.1 (TX2 0).2.2.1 ∈ AW := aw_mem 107 (by decide +kernel)
theorem fl_X5_98 : Cond.fieldLink RX5 98 RX2 (TX2 0).2.1 (TX2 0).2.2.1 ∈ AW := aw_mem 108 (by decide +kernel)
theorem fl_X3_90 : Cond.fieldLink RX3 90 RX2 (TX2 0).2.1 (TX2 0).2.2.1 ∈ AW := aw_mem 109 (by decide +kernel)
theorem fl_X2_13 : Cond.fieldLink RX2 13 RX2 (TX2 1).2.1 (TX2 1).2.2.1 ∈ AW := aw_mem 110 (by decide +kernel)
theorem fl_X5_103 : Cond.fieldLink RX5 103 RX2 (TX2 1).2.1 (TX2 1).2.2.1 ∈ AW := aw_mem 111 (by decide +kernel)
theorem fl_X3_100 : Cond.fieldLink RX3 100 RX2 (TX2 1).2.1 (TX2 1).2.2.1 ∈ AW := aw_mem 112 (by decide +kernel)
theorem fl_X2_16 : Cond.fieldLink RX2 16 RX2 (TX2 2).2.1 (TX2 2).2.2.1 ∈ AW := aw_mem 113 (by decide +kernel)
theorem fl_X5_106 : Cond.fieldLink RX5 106 RX2 (TX2 2).2.1 (TX2 2).2.2.1 ∈ AW := aw_mem 114 (by decide +kernel)
theorem fl_X3_117 : Cond.fieldLink RX3 117 RX2 (TX2 2).2.1 (TX2 2).2.2.1 ∈ AW := aw_mem 115 (by decide +kernel)
theorem fl_X2_19 : Cond.fieldLink RX2 19 RX2 (TX2 3).2.1 (TX2 3).2.2.1 ∈ AW := aw_mem 116 (by decide +kernel)
theorem fl_X5_109 : Cond.fieldLink RX5 109 RX2 (TX2 3).2.1 (TX2 3).2.2.1 ∈ AW := aw_mem 117 (by decide +kernel)
theorem fl_X3_45 : Cond.fieldLink RX3 45 RX1 (TX1 0).2.1 (TX1 0).2.2.1 ∈ AW := aw_mem 134 (by decide +kernel)
theorem fl_X1_7 : Cond.fieldLink RX1 7 RX1 (TX1 0).2.1 (TX1 0).2.2.1 ∈ AW := aw_mem 135 (by decide +kernel)
theorem fl_X5_134 : Cond.fieldLink RX5 134 RX1 (TX1 0).2.1 (TX1 0).2.2.1 ∈ AW := aw_mem 136 (by decide +kernel)
theorem fl_X1_13 : Cond.fieldLink RX1 13 RX1 (TX1 1).2.1 (TX1 1).2.2.1 ∈ AW := aw_mem 137 (by decide +kernel)
theorem fl_X5_129 : Cond.fieldLink RX5 129 RX1 (TX1 1).2.1 (TX1 1).2.2.1 ∈ AW := aw_mem 138 (by decide +kernel)
theorem fl_X3_150 : Cond.fieldLink RX3 150 RX1 (TX1 1).2.1 (TX1 1).2.2.1 ∈ AW := aw_mem 139 (by decide +kernel)
theorem fl_X1_16 : Cond.fieldLink RX1 16 RX1 (TX1 2).2.1 (TX1 2).2.2.1 ∈ AW := aw_mem 140 (by decide +kernel)
theorem fl_X5_137 : Cond.fieldLink RX5 137 RX1 (TX1 2).2.1 (TX1 2).2.2.1 ∈ AW := aw_mem 141 (by decide +kernel)
theorem fl_X1_20 : Cond.fieldLink RX1 20 RX1 (TX1 3).2.1 (TX1 3).2.2.1 ∈ AW := aw_mem 142 (by decide +kernel)
theorem fl_X3_157 : Cond.fieldLink RX3 157 RX1 (TX1 3).2.1 (TX1 3).2.2.1 ∈ AW := aw_mem 143 (by decide +kernel)
theorem fl_X5_187 : Cond.fieldLink RX5 187 RX1 (TX1 3).2.1 (TX1 3).2.2.1 ∈ AW := aw_mem 144 (by decide +kernel)
theorem fl_X1_23 : Cond.fieldLink RX1 23 RX1 (TX1 4).2.1 (TX1 4).2.2.1 ∈ AW := aw_mem 145 (by decide +kernel)
theorem fl_X3_160 : Cond.fieldLink RX3 160 RX1 (TX1 4).2.1 (TX1 4).2.2.1 ∈ AW := aw_mem 146 (by decide +kernel)
theorem fl_X5_190 : Cond.fieldLink RX5 190 RX1 (TX1 4).2.1 (TX1 4).2.2.1 ∈ AW := aw_mem 147 (by decide +kernel)
theorem fl_X3_9 : Cond.fieldLink RX3 9 RX3 (TX3 0).2.1 (TX3 0).2.2.1 ∈ AW := aw_mem 159 (by decide +kernel)
theorem fl_X5_122 : Cond.fieldLink RX5 122 RX3 (TX3 0).2.1 (TX3 0).2.2.1 ∈ AW := aw_mem 160 (by decide +kernel)
theorem fl_X3_26 : Cond.fieldLink RX3 26 RX3 (TX3 1).2.1 (TX3 1).2.2.1 ∈ AW := aw_mem 161 (by decide +kernel)
theorem fl_X3_33 : Cond.fieldLink RX3 33 RX3 (TX3 2).2.1 (TX3 2).2.2.1 ∈ AW := aw_mem 162 (by decide +kernel)
theorem fl_X5_94 : Cond.fieldLink RX5 94 RX3 (TX3 2).2.1 (TX3 2).2.2.1 ∈ AW := aw_mem 163 (by decide +kernel)
theorem fl_X3_40 : Cond.fieldLink RX3 40 RX3 (TX3 3).2.1 (TX3 3).2.2.1 ∈ AW := aw_mem 164 (by decide +kernel)
theorem fl_X5_125 : Cond.fieldLink RX5 125 RX3 (TX3 3).2.1 (TX3 3).2.2.1 ∈ AW := aw_mem 165 (by decide +kernel)
theorem fl_X3_59 : Cond.fieldLink RX3 59 RX3 (TX3 4).2.1 (TX3 4).2.2.1 ∈ AW := aw_mem 166 (by decide +kernel)
theorem fl_X5_91 : Cond.fieldLink RX5 91 RX3 (TX3 4).2.1 (TX3 4).2.2.1 ∈ AW := aw_mem 167 (by decide +kernel)
theorem fl_X3_62 : Cond.fieldLink RX3 62 RX3 (TX3 5).2.1 (TX3 5).2.2.1 ∈ AW := aw_mem 168 (by decide +kernel)
theorem fl_X5_193 : Cond.fieldLink RX5 193 RX3 (TX3 5).2.1 (TX3 5).2.2.1 ∈ AW := aw_mem 169 (by decide +kernel)
theorem fl_X3_65 : Cond.fieldLink RX3 65 RX3 (TX3 6).2.1 (TX3 6).2.2.1 ∈ AW := aw_mem 170 (by decide +kernel)
theorem fl_X5_79 : Cond.fieldLink RX5 79 RX3 (TX3 6).2.1 (TX3 6).2.2.1 ∈ AW := aw_mem 171 (by decide +kernel)
theorem fl_X3_68 : Cond.fieldLink RX3 68 RX3 (TX3 7).2.1 (TX3 7).2.2.1 ∈ AW := aw_mem 172 (by decide +kernel)
theorem fl_X5_57 : Cond.fieldLink RX5 57 RX3 (TX3 7).2.1 (TX3 7).2.2.1 ∈ AW := aw_mem 173 (by decide +kernel)
theorem fl_X3_71 : Cond.fieldLink RX3 71 RX3 (TX3 8).2.1 (TX3 8).2.2.1 ∈ AW := aw_mem 174 (by decide +kernel)
theorem fl_X5_210 : Cond.fieldLink RX5 210 RX3 (TX3 8).2.1 (TX3 8).2.2.1 ∈ AW := aw_mem 175 (by decide +kernel)
theorem fl_X3_74 : Cond.fieldLink RX3 74 RX3 (TX3 9).2.1 (TX3 9).2.2.1 ∈ AW := aw_mem 176 (by decide +kernel)
theorem fl_X5_196 : Cond.fieldLink RX5 196 RX3 (TX3 9).2.1 (TX3 9).2.2.1 ∈ AW := aw_mem 177 (by decide +kernel)
theorem fl_X3_77 : Cond.fieldLink RX3 77 RX3 (TX3 10).2.1 (TX3 10).2.2.1 ∈ AW := aw_mem 178 (by decide +kernel)
theorem fl_X5_199 : Cond.fieldLink RX5 199 RX3 (TX3 10).2.1 (TX3 10).2.2.1 ∈ AW := aw_mem 179 (by decide +kernel)
theorem fl_X3_80 : Cond.fieldLink RX3 80 RX3 (TX3 11).2.1 (TX3 11).2.2.1 ∈ AW := aw_mem 180 (by decide +kernel)
theorem fl_X5_202 : Cond.fieldLink RX5 202 RX3 (TX3 11).2.1 (TX3 11).2.2.1 ∈ AW := aw_mem 181 (by decide +kernel)
theorem fl_X3_83 : Cond.fieldLink RX3 83 RX3 (TX3 12).2.1 (TX3 12).2.2.1 ∈ AW := aw_mem 182 (by decide +kernel)
theorem fl_X5_208 : Cond.fieldLink RX5 208 RX3 (TX3 12).2.1 (TX3 12).2.2.1 ∈ AW := aw_mem 183 (by decide +kernel)
theorem fl_X5_12 : Cond.fieldLink RX5 12 RX5 (TX5 0).2.1 (TX5 0).2.2.1 ∈ AW := aw_mem 211 (by decide +kernel)
theorem fl_X5_18 : Cond.fieldLink RX5 18 RX5 (TX5 1).2.1 (TX5 1).2.2.1 ∈ AW := aw_mem 212 (by decide +kernel)
theorem fl_X5_23 : Cond.fieldLink RX5 23 RX5 (TX5 2).2.1 (TX5 2).2.2.1 ∈ AW := aw_mem 213 (by decide +kernel)
theorem fl_X5_27 : Cond.fieldLink RX5 27 RX5 (TX5 3).2.1 (TX5 3).2.2.1 ∈ AW := aw_mem 214 (by decide +kernel)
theorem fl_X5_31 : Cond.fieldLink RX5 31 RX5 (TX5 4).2.1 (TX5 4).2.2.1 ∈ AW := aw_mem 215 (by decide +kernel)
theorem fl_X5_34 : Cond.fieldLink RX5 34 RX5 (TX5 5).2.1 (TX5 5).2.2.1 ∈ AW := aw_mem 216 (by decide +kernel)
theorem fl_X5_38 : Cond.fieldLink RX5 38 RX5 (TX5 6).2.1 (TX5 6).2.2.1 ∈ AW := aw_mem 217 (by decide +kernel)
theorem fl_X5_116 : Cond.fieldLink RX5 116 RX5 "LOWEST_SETTINGS" "[I" ∈ AW := aw_mem 385 (by decide +kernel)
theorem fl_X5_119 : Cond.fieldLink RX5 119 RX5 "HIGHEST_SETTINGS" "[I" ∈ AW := aw_mem 387 (by decide +kernel)
theorem cw_X5_init : Cond.code yX5_init cX5_init 2 none ∈ AW := aw_mem 22 (by decide +kernel)
theorem im_X5_init : Cond.instanceMethod yX5_init ∈ AW := aw_mem 21 (by decide +kernel)
theorem yw_X5_init : yW yX5_init 0 := by unfold yW; decide +kernel
theorem cl_L_95 : IW RL 95 yX5_init cX5_init 2 0 := ⟨cw_X5_init, aw_mem 20 (by decide +kernel), im_X5_init, in_X5, yw_X5_init⟩
theorem jm_obj : Cond.instanceMethod objectInit ∈ AW ∧ Cond.code objectInit ⟨#[0xb1]⟩ 1 none ∈ AW := ⟨aw_mem 24 (by decide +kernel), aw_mem 25 (by decide +kernel)⟩
theorem ml_X5_3 : Cond.methodLink RX5 3 objectInit ∈ AW := aw_mem 23 (by decide +kernel)
theorem cw_X0_init : Cond.code yX0_init cX0_init 1 none ∈ AW := aw_mem 30 (by decide +kernel)
theorem im_X0_init : Cond.instanceMethod yX0_init ∈ AW := aw_mem 29 (by decide +kernel)
theorem yw_X0_init : yW yX0_init 0 := by unfold yW; decide +kernel
theorem cl_X5_11 : IW RX5 11 yX0_init cX0_init 1 0 := ⟨cw_X0_init, aw_mem 28 (by decide +kernel), im_X0_init, in_X0, yw_X0_init⟩
theorem ml_X0_3 : Cond.methodLink RX0 3 objectInit ∈ AW := aw_mem 31 (by decide +kernel)
theorem cw_X3_init : Cond.code yX3_init cX3_init 2 none ∈ AW := aw_mem 60 (by decide +kernel)
theorem im_X3_init : Cond.instanceMethod yX3_init ∈ AW := aw_mem 59 (by decide +kernel)
theorem yw_X3_init : yW yX3_init 0 := by unfold yW; decide +kernel
theorem cl_X5_22 : IW RX5 22 yX3_init cX3_init 2 0 := ⟨cw_X3_init, aw_mem 58 (by decide +kernel), im_X3_init, in_X3, yw_X3_init⟩
theorem ml_X3_3 : Cond.methodLink RX3 3 objectInit ∈ AW := aw_mem 61 (by decide +kernel)
theorem jm_copy : Cond.native arraycopyName ∈ AW ∧ Cond.static arraycopyName ∈ AW ∧ Cond.initialized "java/lang/System" ∈ AW := ⟨aw_mem 66 (by decide +kernel), aw_mem 65 (by decide +kernel), aw_mem 13 (by decide +kernel)⟩
theorem ml_X3_18 : Cond.methodLink RX3 18 arraycopyName ∈ AW := aw_mem 64 (by decide +kernel)
theorem cw_X4_init : Cond.code yX4_init cX4_init 1 none ∈ AW := aw_mem 72 (by decide +kernel)
theorem im_X4_init : Cond.instanceMethod yX4_init ∈ AW := aw_mem 71 (by decide +kernel)
theorem yw_X4_init : yW yX4_init 0 := by unfold yW; decide +kernel
theorem cl_X3_30 : IW RX3 30 yX4_init cX4_init 1 0 := ⟨cw_X4_init, aw_mem 70 (by decide +kernel), im_X4_init, in_X4, yw_X4_init⟩
theorem ml_X4_3 : Cond.methodLink RX4 3 objectInit ∈ AW := aw_mem 73 (by decide +kernel)
theorem cw_X2_init : Cond.code yX2_init cX2_init 1 none ∈ AW := aw_mem 105 (by decide +kernel)
theorem im_X2_init : Cond.instanceMethod yX2_init ∈ AW := aw_mem 104 (by decide +kernel)
theorem yw_X2_init : yW yX2_init 0 := by unfold yW; decide +kernel
theorem cl_X3_37 : JW yX2_init cX2_init 1 0 := ⟨cw_X2_init, im_X2_init, in_X2, yw_X2_init⟩
theorem ml_X2_1 : Cond.methodLink RX2 1 objectInit ∈ AW := aw_mem 106 (by decide +kernel)
theorem cw_X1_init : Cond.code yX1_init cX1_init 1 none ∈ AW := aw_mem 132 (by decide +kernel)
theorem im_X1_init : Cond.instanceMethod yX1_init ∈ AW := aw_mem 131 (by decide +kernel)
theorem yw_X1_init : yW yX1_init 0 := by unfold yW; decide +kernel
theorem cl_X3_44 : JW yX1_init cX1_init 1 0 := ⟨cw_X1_init, im_X1_init, in_X1, yw_X1_init⟩
theorem ml_X1_1 : Cond.methodLink RX1 1 objectInit ∈ AW := aw_mem 133 (by decide +kernel)
theorem cw_X5_measure : Cond.code yX5_measure cX5_measure 2 (some .int) ∈ AW := aw_mem 236 (by decide +kernel)
theorem im_X5_measure : Cond.instanceMethod yX5_measure ∈ AW := aw_mem 234 (by decide +kernel)
theorem se_X5_measure : Cond.selects yX5_measure.cls yX5_measure yX5_measure ∈ AW := aw_mem 235 (by decide +kernel)
theorem yw_X5_measure : yW yX5_measure 1 := by unfold yW; decide +kernel
theorem cl_L_49 : VW RL 49 yX5_measure cX5_measure 2 (some .int) 1 := ⟨cw_X5_measure, aw_mem 233 (by decide +kernel), im_X5_measure, se_X5_measure, in_X5, yw_X5_measure⟩
theorem cw_X5_isWithin : Cond.code yX5_isWithin cX5_isWithin 2 (some .boolean) ∈ AW := aw_mem 239 (by decide +kernel)
theorem sm_X5_isWithin : Cond.static yX5_isWithin ∈ AW := aw_mem 238 (by decide +kernel)
theorem yw_X5_isWithin : yW yX5_isWithin 2 := by unfold yW; decide +kernel
theorem cl_X5_42 : SW RX5 42 yX5_isWithin cX5_isWithin 2 (some .boolean) 2 := ⟨cw_X5_isWithin, aw_mem 237 (by decide +kernel), sm_X5_isWithin, in_X5, yw_X5_isWithin⟩
theorem cw_X5_remember : Cond.code yX5_remember cX5_remember 3 none ∈ AW := aw_mem 243 (by decide +kernel)
theorem im_X5_remember : Cond.instanceMethod yX5_remember ∈ AW := aw_mem 242 (by decide +kernel)
theorem se_X5_remember : Cond.selects yX5_remember.cls yX5_remember yX5_remember ∈ AW := aw_mem 0 (by decide +kernel)
theorem yw_X5_remember : yW yX5_remember 0 := by unfold yW; decide +kernel
theorem cl_X5_46 : VW RX5 46 yX5_remember cX5_remember 3 none 0 := ⟨cw_X5_remember, aw_mem 240 (by decide +kernel), im_X5_remember, se_X5_remember, in_X5, yw_X5_remember⟩
theorem cw_X3_copyFrom : Cond.code yX3_copyFrom cX3_copyFrom 3 none ∈ AW := aw_mem 247 (by decide +kernel)
theorem im_X3_copyFrom : Cond.instanceMethod yX3_copyFrom ∈ AW := aw_mem 245 (by decide +kernel)
theorem se_X3_copyFrom : Cond.selects yX3_copyFrom.cls yX3_copyFrom yX3_copyFrom ∈ AW := aw_mem 246 (by decide +kernel)
theorem yw_X3_copyFrom : yW yX3_copyFrom 1 := by unfold yW; decide +kernel
theorem cl_X5_148 : VW RX5 148 yX3_copyFrom cX3_copyFrom 3 none 1 := ⟨cw_X3_copyFrom, aw_mem 244 (by decide +kernel), im_X3_copyFrom, se_X3_copyFrom, in_X3, yw_X3_copyFrom⟩
theorem cw_X4_copyFrom : Cond.code yX4_copyFrom cX4_copyFrom 2 none ∈ AW := aw_mem 251 (by decide +kernel)
theorem im_X4_copyFrom : Cond.instanceMethod yX4_copyFrom ∈ AW := aw_mem 249 (by decide +kernel)
theorem se_X4_copyFrom : Cond.selects yX4_copyFrom.cls yX4_copyFrom yX4_copyFrom ∈ AW := aw_mem 250 (by decide +kernel)
theorem yw_X4_copyFrom : yW yX4_copyFrom 1 := by unfold yW; decide +kernel
theorem cl_X3_49 : VW RX3 49 yX4_copyFrom cX4_copyFrom 2 none 1 := ⟨cw_X4_copyFrom, aw_mem 248 (by decide +kernel), im_X4_copyFrom, se_X4_copyFrom, in_X4, yw_X4_copyFrom⟩
theorem ml_X4_28 : Cond.methodLink RX4 28 arraycopyName ∈ AW := aw_mem 252 (by decide +kernel)
theorem cw_X2_copyFrom : Cond.code yX2_copyFrom cX2_copyFrom 2 none ∈ AW := aw_mem 256 (by decide +kernel)
theorem im_X2_copyFrom : Cond.instanceMethod yX2_copyFrom ∈ AW := aw_mem 254 (by decide +kernel)
theorem se_X2_copyFrom : Cond.selects yX2_copyFrom.cls yX2_copyFrom yX2_copyFrom ∈ AW := aw_mem 255 (by decide +kernel)
theorem yw_X2_copyFrom : yW yX2_copyFrom 1 := by unfold yW; decide +kernel
theorem cl_X3_53 : VW RX3 53 yX2_copyFrom cX2_copyFrom 2 none 1 := ⟨cw_X2_copyFrom, aw_mem 253 (by decide +kernel), im_X2_copyFrom, se_X2_copyFrom, in_X2, yw_X2_copyFrom⟩
theorem cw_X1_copyFrom : Cond.code yX1_copyFrom cX1_copyFrom 2 none ∈ AW := aw_mem 260 (by decide +kernel)
theorem im_X1_copyFrom : Cond.instanceMethod yX1_copyFrom ∈ AW := aw_mem 258 (by decide +kernel)
theorem se_X1_copyFrom : Cond.selects yX1_copyFrom.cls yX1_copyFrom yX1_copyFrom ∈ AW := aw_mem 259 (by decide +kernel)
theorem yw_X1_copyFrom : yW yX1_copyFrom 1 := by unfold yW; decide +kernel
theorem cl_X3_56 : VW RX3 56 yX1_copyFrom cX1_copyFrom 2 none 1 := ⟨cw_X1_copyFrom, aw_mem 257 (by decide +kernel), im_X1_copyFrom, se_X1_copyFrom, in_X1, yw_X1_copyFrom⟩
theorem cw_X3_passDay : Cond.code yX3_passDay cX3_passDay 5 (some .int) ∈ AW := aw_mem 264 (by decide +kernel)
theorem im_X3_passDay : Cond.instanceMethod yX3_passDay ∈ AW := aw_mem 262 (by decide +kernel)
theorem se_X3_passDay : Cond.selects yX3_passDay.cls yX3_passDay yX3_passDay ∈ AW := aw_mem 263 (by decide +kernel)
theorem yw_X3_passDay : yW yX3_passDay 1 := by unfold yW; decide +kernel
theorem cl_X5_49 : VW RX5 49 yX3_passDay cX3_passDay 5 (some .int) 1 := ⟨cw_X3_passDay, aw_mem 261 (by decide +kernel), im_X3_passDay, se_X3_passDay, in_X3, yw_X3_passDay⟩
theorem cw_X3_yearOfNow : Cond.code yX3_yearOfNow cX3_yearOfNow 1 (some (.object "MistakeAlmanac$Year")) ∈ AW := aw_mem 268 (by decide +kernel)
theorem im_X3_yearOfNow : Cond.instanceMethod yX3_yearOfNow ∈ AW := aw_mem 266 (by decide +kernel)
theorem se_X3_yearOfNow : Cond.selects yX3_yearOfNow.cls yX3_yearOfNow yX3_yearOfNow ∈ AW := aw_mem 267 (by decide +kernel)
theorem yw_X3_yearOfNow : yW yX3_yearOfNow 0 := by unfold yW; decide +kernel
theorem cl_X3_93 : VW RX3 93 yX3_yearOfNow cX3_yearOfNow 1 (some (.object "MistakeAlmanac$Year")) 0 := ⟨cw_X3_yearOfNow, aw_mem 265 (by decide +kernel), im_X3_yearOfNow, se_X3_yearOfNow, in_X3, yw_X3_yearOfNow⟩
theorem cw_X3_foretoldOf : Cond.code yX3_foretoldOf cX3_foretoldOf 4 (some .int) ∈ AW := aw_mem 272 (by decide +kernel)
theorem im_X3_foretoldOf : Cond.instanceMethod yX3_foretoldOf ∈ AW := aw_mem 270 (by decide +kernel)
theorem se_X3_foretoldOf : Cond.selects yX3_foretoldOf.cls yX3_foretoldOf yX3_foretoldOf ∈ AW := aw_mem 271 (by decide +kernel)
theorem yw_X3_foretoldOf : yW yX3_foretoldOf 1 := by unfold yW; decide +kernel
theorem cl_X3_124 : VW RX3 124 yX3_foretoldOf cX3_foretoldOf 4 (some .int) 1 := ⟨cw_X3_foretoldOf, aw_mem 269 (by decide +kernel), im_X3_foretoldOf, se_X3_foretoldOf, in_X3, yw_X3_foretoldOf⟩
theorem cw_X2_reaches : Cond.code yX2_reaches cX2_reaches 2 (some .boolean) ∈ AW := aw_mem 276 (by decide +kernel)
theorem im_X2_reaches : Cond.instanceMethod yX2_reaches ∈ AW := aw_mem 274 (by decide +kernel)
theorem se_X2_reaches : Cond.selects yX2_reaches.cls yX2_reaches yX2_reaches ∈ AW := aw_mem 275 (by decide +kernel)
theorem yw_X2_reaches : yW yX2_reaches 1 := by unfold yW; decide +kernel
theorem cl_X3_109 : VW RX3 109 yX2_reaches cX2_reaches 2 (some .boolean) 1 := ⟨cw_X2_reaches, aw_mem 273 (by decide +kernel), im_X2_reaches, se_X2_reaches, in_X2, yw_X2_reaches⟩
theorem cw_X3_isTelling : Cond.code yX3_isTelling cX3_isTelling 2 (some .boolean) ∈ AW := aw_mem 280 (by decide +kernel)
theorem im_X3_isTelling : Cond.instanceMethod yX3_isTelling ∈ AW := aw_mem 278 (by decide +kernel)
theorem se_X3_isTelling : Cond.selects yX3_isTelling.cls yX3_isTelling yX3_isTelling ∈ AW := aw_mem 279 (by decide +kernel)
theorem yw_X3_isTelling : yW yX3_isTelling 1 := by unfold yW; decide +kernel
theorem cl_X3_113 : VW RX3 113 yX3_isTelling cX3_isTelling 2 (some .boolean) 1 := ⟨cw_X3_isTelling, aw_mem 277 (by decide +kernel), im_X3_isTelling, se_X3_isTelling, in_X3, yw_X3_isTelling⟩
theorem cw_X5_clampWarmth : Cond.code yX5_clampWarmth cX5_clampWarmth 1 (some .int) ∈ AW := aw_mem 283 (by decide +kernel)
theorem sm_X5_clampWarmth : Cond.static yX5_clampWarmth ∈ AW := aw_mem 282 (by decide +kernel)
theorem yw_X5_clampWarmth : yW yX5_clampWarmth 1 := by unfold yW; decide +kernel
theorem cl_X3_120 : NW yX5_clampWarmth cX5_clampWarmth 1 (some .int) 1 := ⟨cw_X5_clampWarmth, sm_X5_clampWarmth, in_X5, yw_X5_clampWarmth⟩
theorem jm_min : Cond.static Lib.Math.min.name ∈ AW ∧ Cond.initialized "java/lang/Math" ∈ AW ∧ Cond.code Lib.Math.min.name Lib.Math.min.code 2 (some .int) ∈ AW := ⟨aw_mem 285 (by decide +kernel), aw_mem 17 (by decide +kernel), aw_mem 286 (by decide +kernel)⟩
theorem ml_X5_234 : Cond.methodLink RX5 234 Lib.Math.min.name ∈ AW := aw_mem 284 (by decide +kernel)
theorem jm_max : Cond.static Lib.Math.max.name ∈ AW ∧ Cond.initialized "java/lang/Math" ∈ AW ∧ Cond.code Lib.Math.max.name Lib.Math.max.code 2 (some .int) ∈ AW := ⟨aw_mem 288 (by decide +kernel), aw_mem 17 (by decide +kernel), aw_mem 289 (by decide +kernel)⟩
theorem ml_X5_237 : Cond.methodLink RX5 237 Lib.Math.max.name ∈ AW := aw_mem 287 (by decide +kernel)
theorem jm_abs : Cond.static Lib.Math.abs.name ∈ AW ∧ Cond.initialized "java/lang/Math" ∈ AW ∧ Cond.code Lib.Math.abs.name Lib.Math.abs.code 1 (some .int) ∈ AW := ⟨aw_mem 291 (by decide +kernel), aw_mem 17 (by decide +kernel), aw_mem 292 (by decide +kernel)⟩
theorem ml_X3_131 : Cond.methodLink RX3 131 Lib.Math.abs.name ∈ AW := aw_mem 290 (by decide +kernel)
theorem cw_X5_isFrost : Cond.code yX5_isFrost cX5_isFrost 1 (some .boolean) ∈ AW := aw_mem 295 (by decide +kernel)
theorem sm_X5_isFrost : Cond.static yX5_isFrost ∈ AW := aw_mem 294 (by decide +kernel)
theorem yw_X5_isFrost : yW yX5_isFrost 1 := by unfold yW; decide +kernel
theorem cl_X3_134 : NW yX5_isFrost cX5_isFrost 1 (some .boolean) 1 := ⟨cw_X5_isFrost, sm_X5_isFrost, in_X5, yw_X5_isFrost⟩
theorem cw_X3_isFrostForetold : Cond.code yX3_isFrostForetold cX3_isFrostForetold 2 (some .boolean) ∈ AW := aw_mem 299 (by decide +kernel)
theorem im_X3_isFrostForetold : Cond.instanceMethod yX3_isFrostForetold ∈ AW := aw_mem 297 (by decide +kernel)
theorem se_X3_isFrostForetold : Cond.selects yX3_isFrostForetold.cls yX3_isFrostForetold yX3_isFrostForetold ∈ AW := aw_mem 298 (by decide +kernel)
theorem yw_X3_isFrostForetold : yW yX3_isFrostForetold 1 := by unfold yW; decide +kernel
theorem cl_X3_137 : VW RX3 137 yX3_isFrostForetold cX3_isFrostForetold 2 (some .boolean) 1 := ⟨cw_X3_isFrostForetold, aw_mem 296 (by decide +kernel), im_X3_isFrostForetold, se_X3_isFrostForetold, in_X3, yw_X3_isFrostForetold⟩
theorem cw_X3_countFrost : Cond.code yX3_countFrost cX3_countFrost 3 none ∈ AW := aw_mem 303 (by decide +kernel)
theorem im_X3_countFrost : Cond.instanceMethod yX3_countFrost ∈ AW := aw_mem 302 (by decide +kernel)
theorem se_X3_countFrost : Cond.selects yX3_countFrost.cls yX3_countFrost yX3_countFrost ∈ AW := aw_mem 1 (by decide +kernel)
theorem yw_X3_countFrost : yW yX3_countFrost 2 := by unfold yW; decide +kernel
theorem cl_X3_140 : VW RX3 140 yX3_countFrost cX3_countFrost 3 none 2 := ⟨cw_X3_countFrost, aw_mem 300 (by decide +kernel), im_X3_countFrost, se_X3_countFrost, in_X3, yw_X3_countFrost⟩
theorem cw_X3_settleBets : Cond.code yX3_settleBets cX3_settleBets 6 none ∈ AW := aw_mem 307 (by decide +kernel)
theorem im_X3_settleBets : Cond.instanceMethod yX3_settleBets ∈ AW := aw_mem 306 (by decide +kernel)
theorem se_X3_settleBets : Cond.selects yX3_settleBets.cls yX3_settleBets yX3_settleBets ∈ AW := aw_mem 2 (by decide +kernel)
theorem yw_X3_settleBets : yW yX3_settleBets 2 := by unfold yW; decide +kernel
theorem cl_X3_144 : VW RX3 144 yX3_settleBets cX3_settleBets 6 none 2 := ⟨cw_X3_settleBets, aw_mem 304 (by decide +kernel), im_X3_settleBets, se_X3_settleBets, in_X3, yw_X3_settleBets⟩
theorem cw_X1_winnings : Cond.code yX1_winnings cX1_winnings 4 (some .int) ∈ AW := aw_mem 311 (by decide +kernel)
theorem im_X1_winnings : Cond.instanceMethod yX1_winnings ∈ AW := aw_mem 309 (by decide +kernel)
theorem se_X1_winnings : Cond.selects yX1_winnings.cls yX1_winnings yX1_winnings ∈ AW := aw_mem 310 (by decide +kernel)
theorem yw_X1_winnings : yW yX1_winnings 3 := by unfold yW; decide +kernel
theorem cl_X3_153 : VW RX3 153 yX1_winnings cX1_winnings 4 (some .int) 3 := ⟨cw_X1_winnings, aw_mem 308 (by decide +kernel), im_X1_winnings, se_X1_winnings, in_X1, yw_X1_winnings⟩
theorem cw_X1_dropBet : Cond.code yX1_dropBet cX1_dropBet 1 none ∈ AW := aw_mem 315 (by decide +kernel)
theorem im_X1_dropBet : Cond.instanceMethod yX1_dropBet ∈ AW := aw_mem 313 (by decide +kernel)
theorem se_X1_dropBet : Cond.selects yX1_dropBet.cls yX1_dropBet yX1_dropBet ∈ AW := aw_mem 314 (by decide +kernel)
theorem yw_X1_dropBet : yW yX1_dropBet 0 := by unfold yW; decide +kernel
theorem cl_X3_163 : VW RX3 163 yX1_dropBet cX1_dropBet 1 none 0 := ⟨cw_X1_dropBet, aw_mem 312 (by decide +kernel), im_X1_dropBet, se_X1_dropBet, in_X1, yw_X1_dropBet⟩
theorem cw_X3_endYear : Cond.code yX3_endYear cX3_endYear 2 none ∈ AW := aw_mem 319 (by decide +kernel)
theorem im_X3_endYear : Cond.instanceMethod yX3_endYear ∈ AW := aw_mem 318 (by decide +kernel)
theorem se_X3_endYear : Cond.selects yX3_endYear.cls yX3_endYear yX3_endYear ∈ AW := aw_mem 3 (by decide +kernel)
theorem yw_X3_endYear : yW yX3_endYear 0 := by unfold yW; decide +kernel
theorem cl_X3_147 : VW RX3 147 yX3_endYear cX3_endYear 2 none 0 := ⟨cw_X3_endYear, aw_mem 316 (by decide +kernel), im_X3_endYear, se_X3_endYear, in_X3, yw_X3_endYear⟩
theorem cw_X4_beginBehind : Cond.code yX4_beginBehind cX4_beginBehind 5 none ∈ AW := aw_mem 323 (by decide +kernel)
theorem im_X4_beginBehind : Cond.instanceMethod yX4_beginBehind ∈ AW := aw_mem 321 (by decide +kernel)
theorem se_X4_beginBehind : Cond.selects yX4_beginBehind.cls yX4_beginBehind yX4_beginBehind ∈ AW := aw_mem 322 (by decide +kernel)
theorem yw_X4_beginBehind : yW yX4_beginBehind 3 := by unfold yW; decide +kernel
theorem cl_X3_166 : VW RX3 166 yX4_beginBehind cX4_beginBehind 5 none 3 := ⟨cw_X4_beginBehind, aw_mem 320 (by decide +kernel), im_X4_beginBehind, se_X4_beginBehind, in_X4, yw_X4_beginBehind⟩
theorem cw_X4_meanByDays : Cond.code yX4_meanByDays cX4_meanByDays 8 (some .int) ∈ AW := aw_mem 327 (by decide +kernel)
theorem im_X4_meanByDays : Cond.instanceMethod yX4_meanByDays ∈ AW := aw_mem 325 (by decide +kernel)
theorem se_X4_meanByDays : Cond.selects yX4_meanByDays.cls yX4_meanByDays yX4_meanByDays ∈ AW := aw_mem 326 (by decide +kernel)
theorem yw_X4_meanByDays : yW yX4_meanByDays 2 := by unfold yW; decide +kernel
theorem cl_X4_34 : VW RX4 34 yX4_meanByDays cX4_meanByDays 8 (some .int) 2 := ⟨cw_X4_meanByDays, aw_mem 324 (by decide +kernel), im_X4_meanByDays, se_X4_meanByDays, in_X4, yw_X4_meanByDays⟩
theorem ml_X4_42 : Cond.methodLink RX4 42 Lib.Math.max.name ∈ AW := aw_mem 328 (by decide +kernel)
theorem ml_X4_47 : Cond.methodLink RX4 47 Lib.Math.min.name ∈ AW := aw_mem 329 (by decide +kernel)
theorem cw_X5_mended : Cond.code yX5_mended cX5_mended 3 (some .int) ∈ AW := aw_mem 332 (by decide +kernel)
theorem sm_X5_mended : Cond.static yX5_mended ∈ AW := aw_mem 331 (by decide +kernel)
theorem yw_X5_mended : yW yX5_mended 3 := by unfold yW; decide +kernel
theorem cl_X4_38 : NW yX5_mended cX5_mended 3 (some .int) 3 := ⟨cw_X5_mended, sm_X5_mended, in_X5, yw_X5_mended⟩
theorem cl_X5_240 : SW RX5 240 yX5_clampWarmth cX5_clampWarmth 1 (some .int) 1 := ⟨cw_X5_clampWarmth, aw_mem 333 (by decide +kernel), sm_X5_clampWarmth, in_X5, yw_X5_clampWarmth⟩
theorem cw_X5_measureAll : Cond.code yX5_measureAll cX5_measureAll 5 (some .int) ∈ AW := aw_mem 337 (by decide +kernel)
theorem im_X5_measureAll : Cond.instanceMethod yX5_measureAll ∈ AW := aw_mem 335 (by decide +kernel)
theorem se_X5_measureAll : Cond.selects yX5_measureAll.cls yX5_measureAll yX5_measureAll ∈ AW := aw_mem 336 (by decide +kernel)
theorem yw_X5_measureAll : yW yX5_measureAll 0 := by unfold yW; decide +kernel
theorem cl_L_111 : VW RL 111 yX5_measureAll cX5_measureAll 5 (some .int) 0 := ⟨cw_X5_measureAll, aw_mem 334 (by decide +kernel), im_X5_measureAll, se_X5_measureAll, in_X5, yw_X5_measureAll⟩
theorem cw_X0_findFault : Cond.code yX0_findFault cX0_findFault 2 (some .int) ∈ AW := aw_mem 341 (by decide +kernel)
theorem im_X0_findFault : Cond.instanceMethod yX0_findFault ∈ AW := aw_mem 339 (by decide +kernel)
theorem se_X0_findFault : Cond.selects yX0_findFault.cls yX0_findFault yX0_findFault ∈ AW := aw_mem 340 (by decide +kernel)
theorem yw_X0_findFault : yW yX0_findFault 0 := by unfold yW; decide +kernel
theorem cl_X5_53 : VW RX5 53 yX0_findFault cX0_findFault 2 (some .int) 0 := ⟨cw_X0_findFault, aw_mem 338 (by decide +kernel), im_X0_findFault, se_X0_findFault, in_X0, yw_X0_findFault⟩
theorem cw_X0_goToStart : Cond.code yX0_goToStart cX0_goToStart 1 none ∈ AW := aw_mem 345 (by decide +kernel)
theorem im_X0_goToStart : Cond.instanceMethod yX0_goToStart ∈ AW := aw_mem 343 (by decide +kernel)
theorem se_X0_goToStart : Cond.selects yX0_goToStart.cls yX0_goToStart yX0_goToStart ∈ AW := aw_mem 344 (by decide +kernel)
theorem yw_X0_goToStart : yW yX0_goToStart 0 := by unfold yW; decide +kernel
theorem cl_X0_22 : VW RX0 22 yX0_goToStart cX0_goToStart 1 none 0 := ⟨cw_X0_goToStart, aw_mem 342 (by decide +kernel), im_X0_goToStart, se_X0_goToStart, in_X0, yw_X0_goToStart⟩
theorem cw_X0_readEntry : Cond.code yX0_readEntry cX0_readEntry 2 (some .boolean) ∈ AW := aw_mem 349 (by decide +kernel)
theorem im_X0_readEntry : Cond.instanceMethod yX0_readEntry ∈ AW := aw_mem 347 (by decide +kernel)
theorem se_X0_readEntry : Cond.selects yX0_readEntry.cls yX0_readEntry yX0_readEntry ∈ AW := aw_mem 348 (by decide +kernel)
theorem yw_X0_readEntry : yW yX0_readEntry 0 := by unfold yW; decide +kernel
theorem cl_X0_25 : VW RX0 25 yX0_readEntry cX0_readEntry 2 (some .boolean) 0 := ⟨cw_X0_readEntry, aw_mem 346 (by decide +kernel), im_X0_readEntry, se_X0_readEntry, in_X0, yw_X0_readEntry⟩
theorem cw_X0_isAtPlace : Cond.code yX0_isAtPlace cX0_isAtPlace 2 (some .boolean) ∈ AW := aw_mem 353 (by decide +kernel)
theorem im_X0_isAtPlace : Cond.instanceMethod yX0_isAtPlace ∈ AW := aw_mem 352 (by decide +kernel)
theorem se_X0_isAtPlace : Cond.selects yX0_isAtPlace.cls yX0_isAtPlace yX0_isAtPlace ∈ AW := aw_mem 4 (by decide +kernel)
theorem yw_X0_isAtPlace : yW yX0_isAtPlace 1 := by unfold yW; decide +kernel
theorem cl_X0_29 : VW RX0 29 yX0_isAtPlace cX0_isAtPlace 2 (some .boolean) 1 := ⟨cw_X0_isAtPlace, aw_mem 350 (by decide +kernel), im_X0_isAtPlace, se_X0_isAtPlace, in_X0, yw_X0_isAtPlace⟩
theorem cw_X0_readNumber : Cond.code yX0_readNumber cX0_readNumber 5 (some .boolean) ∈ AW := aw_mem 357 (by decide +kernel)
theorem im_X0_readNumber : Cond.instanceMethod yX0_readNumber ∈ AW := aw_mem 356 (by decide +kernel)
theorem se_X0_readNumber : Cond.selects yX0_readNumber.cls yX0_readNumber yX0_readNumber ∈ AW := aw_mem 5 (by decide +kernel)
theorem yw_X0_readNumber : yW yX0_readNumber 2 := by unfold yW; decide +kernel
theorem cl_X0_36 : VW RX0 36 yX0_readNumber cX0_readNumber 5 (some .boolean) 2 := ⟨cw_X0_readNumber, aw_mem 354 (by decide +kernel), im_X0_readNumber, se_X0_readNumber, in_X0, yw_X0_readNumber⟩
theorem cw_X0_digitAtPlace : Cond.code yX0_digitAtPlace cX0_digitAtPlace 1 (some .int) ∈ AW := aw_mem 361 (by decide +kernel)
theorem im_X0_digitAtPlace : Cond.instanceMethod yX0_digitAtPlace ∈ AW := aw_mem 360 (by decide +kernel)
theorem se_X0_digitAtPlace : Cond.selects yX0_digitAtPlace.cls yX0_digitAtPlace yX0_digitAtPlace ∈ AW := aw_mem 6 (by decide +kernel)
theorem yw_X0_digitAtPlace : yW yX0_digitAtPlace 0 := by unfold yW; decide +kernel
theorem cl_X0_49 : VW RX0 49 yX0_digitAtPlace cX0_digitAtPlace 1 (some .int) 0 := ⟨cw_X0_digitAtPlace, aw_mem 358 (by decide +kernel), im_X0_digitAtPlace, se_X0_digitAtPlace, in_X0, yw_X0_digitAtPlace⟩
theorem cw_X0_skipSeparator : Cond.code yX0_skipSeparator cX0_skipSeparator 1 none ∈ AW := aw_mem 365 (by decide +kernel)
theorem im_X0_skipSeparator : Cond.instanceMethod yX0_skipSeparator ∈ AW := aw_mem 363 (by decide +kernel)
theorem se_X0_skipSeparator : Cond.selects yX0_skipSeparator.cls yX0_skipSeparator yX0_skipSeparator ∈ AW := aw_mem 364 (by decide +kernel)
theorem yw_X0_skipSeparator : yW yX0_skipSeparator 0 := by unfold yW; decide +kernel
theorem cl_X0_33 : VW RX0 33 yX0_skipSeparator cX0_skipSeparator 1 none 0 := ⟨cw_X0_skipSeparator, aw_mem 362 (by decide +kernel), im_X0_skipSeparator, se_X0_skipSeparator, in_X0, yw_X0_skipSeparator⟩
theorem cl_X5_60 : VW RX5 60 yX0_goToStart cX0_goToStart 1 none 0 := ⟨cw_X0_goToStart, aw_mem 366 (by decide +kernel), im_X0_goToStart, se_X0_goToStart, in_X0, yw_X0_goToStart⟩
theorem cl_X5_63 : VW RX5 63 yX0_readEntry cX0_readEntry 2 (some .boolean) 0 := ⟨cw_X0_readEntry, aw_mem 367 (by decide +kernel), im_X0_readEntry, se_X0_readEntry, in_X0, yw_X0_readEntry⟩
theorem cl_X5_73 : VW RX5 73 yX0_skipSeparator cX0_skipSeparator 1 none 0 := ⟨cw_X0_skipSeparator, aw_mem 368 (by decide +kernel), im_X0_skipSeparator, se_X0_skipSeparator, in_X0, yw_X0_skipSeparator⟩
theorem cw_X5_base : Cond.code yX5_base cX5_base 4 (some .int) ∈ AW := aw_mem 372 (by decide +kernel)
theorem im_X5_base : Cond.instanceMethod yX5_base ∈ AW := aw_mem 370 (by decide +kernel)
theorem se_X5_base : Cond.selects yX5_base.cls yX5_base yX5_base ∈ AW := aw_mem 371 (by decide +kernel)
theorem yw_X5_base : yW yX5_base 2 := by unfold yW; decide +kernel
theorem cl_L_67 : VW RL 67 yX5_base cX5_base 4 (some .int) 2 := ⟨cw_X5_base, aw_mem 369 (by decide +kernel), im_X5_base, se_X5_base, in_X5, yw_X5_base⟩
theorem cw_X5_isIndex : Cond.code yX5_isIndex cX5_isIndex 2 (some .boolean) ∈ AW := aw_mem 375 (by decide +kernel)
theorem sm_X5_isIndex : Cond.static yX5_isIndex ∈ AW := aw_mem 374 (by decide +kernel)
theorem yw_X5_isIndex : yW yX5_isIndex 2 := by unfold yW; decide +kernel
theorem cl_X5_76 : SW RX5 76 yX5_isIndex cX5_isIndex 2 (some .boolean) 2 := ⟨cw_X5_isIndex, aw_mem 373 (by decide +kernel), sm_X5_isIndex, in_X5, yw_X5_isIndex⟩
theorem cl_X5_82 : VW RX5 82 yX3_yearOfNow cX3_yearOfNow 1 (some (.object "MistakeAlmanac$Year")) 0 := ⟨cw_X3_yearOfNow, aw_mem 376 (by decide +kernel), im_X3_yearOfNow, se_X3_yearOfNow, in_X3, yw_X3_yearOfNow⟩
theorem cw_X5_saint : Cond.code yX5_saint cX5_saint 6 (some .int) ∈ AW := aw_mem 380 (by decide +kernel)
theorem im_X5_saint : Cond.instanceMethod yX5_saint ∈ AW := aw_mem 378 (by decide +kernel)
theorem se_X5_saint : Cond.selects yX5_saint.cls yX5_saint yX5_saint ∈ AW := aw_mem 379 (by decide +kernel)
theorem yw_X5_saint : yW yX5_saint 4 := by unfold yW; decide +kernel
theorem cl_L_70 : VW RL 70 yX5_saint cX5_saint 6 (some .int) 4 := ⟨cw_X5_saint, aw_mem 377 (by decide +kernel), im_X5_saint, se_X5_saint, in_X5, yw_X5_saint⟩
theorem cw_X5_set : Cond.code yX5_set cX5_set 4 (some .int) ∈ AW := aw_mem 384 (by decide +kernel)
theorem im_X5_set : Cond.instanceMethod yX5_set ∈ AW := aw_mem 382 (by decide +kernel)
theorem se_X5_set : Cond.selects yX5_set.cls yX5_set yX5_set ∈ AW := aw_mem 383 (by decide +kernel)
theorem yw_X5_set : yW yX5_set 2 := by unfold yW; decide +kernel
theorem cl_L_77 : VW RL 77 yX5_set cX5_set 4 (some .int) 2 := ⟨cw_X5_set, aw_mem 381 (by decide +kernel), im_X5_set, se_X5_set, in_X5, yw_X5_set⟩
theorem cw_X5_bet : Cond.code yX5_bet cX5_bet 5 (some .int) ∈ AW := aw_mem 392 (by decide +kernel)
theorem im_X5_bet : Cond.instanceMethod yX5_bet ∈ AW := aw_mem 390 (by decide +kernel)
theorem se_X5_bet : Cond.selects yX5_bet.cls yX5_bet yX5_bet ∈ AW := aw_mem 391 (by decide +kernel)
theorem yw_X5_bet : yW yX5_bet 3 := by unfold yW; decide +kernel
theorem cl_L_80 : VW RL 80 yX5_bet cX5_bet 5 (some .int) 3 := ⟨cw_X5_bet, aw_mem 389 (by decide +kernel), im_X5_bet, se_X5_bet, in_X5, yw_X5_bet⟩
theorem cw_X5_undo : Cond.code yX5_undo cX5_undo 2 (some .int) ∈ AW := aw_mem 396 (by decide +kernel)
theorem im_X5_undo : Cond.instanceMethod yX5_undo ∈ AW := aw_mem 394 (by decide +kernel)
theorem se_X5_undo : Cond.selects yX5_undo.cls yX5_undo yX5_undo ∈ AW := aw_mem 395 (by decide +kernel)
theorem yw_X5_undo : yW yX5_undo 0 := by unfold yW; decide +kernel
theorem cl_L_108 : VW RL 108 yX5_undo cX5_undo 2 (some .int) 0 := ⟨cw_X5_undo, aw_mem 393 (by decide +kernel), im_X5_undo, se_X5_undo, in_X5, yw_X5_undo⟩
theorem cw_X5_restore : Cond.code yX5_restore cX5_restore 1 (some .int) ∈ AW := aw_mem 400 (by decide +kernel)
theorem im_X5_restore : Cond.instanceMethod yX5_restore ∈ AW := aw_mem 398 (by decide +kernel)
theorem se_X5_restore : Cond.selects yX5_restore.cls yX5_restore yX5_restore ∈ AW := aw_mem 399 (by decide +kernel)
theorem yw_X5_restore : yW yX5_restore 0 := by unfold yW; decide +kernel
theorem cl_L_58 : VW RL 58 yX5_restore cX5_restore 1 (some .int) 0 := ⟨cw_X5_restore, aw_mem 397 (by decide +kernel), im_X5_restore, se_X5_restore, in_X5, yw_X5_restore⟩
theorem cw_X5_count : Cond.code yX5_count cX5_count 2 (some .int) ∈ AW := aw_mem 404 (by decide +kernel)
theorem im_X5_count : Cond.instanceMethod yX5_count ∈ AW := aw_mem 402 (by decide +kernel)
theorem se_X5_count : Cond.selects yX5_count.cls yX5_count yX5_count ∈ AW := aw_mem 403 (by decide +kernel)
theorem yw_X5_count : yW yX5_count 1 := by unfold yW; decide +kernel
theorem cl_L_8 : VW RL 8 yX5_count cX5_count 2 (some .int) 1 := ⟨cw_X5_count, aw_mem 401 (by decide +kernel), im_X5_count, se_X5_count, in_X5, yw_X5_count⟩
theorem cw_X3_knownYears : Cond.code yX3_knownYears cX3_knownYears 1 (some .int) ∈ AW := aw_mem 408 (by decide +kernel)
theorem im_X3_knownYears : Cond.instanceMethod yX3_knownYears ∈ AW := aw_mem 406 (by decide +kernel)
theorem se_X3_knownYears : Cond.selects yX3_knownYears.cls yX3_knownYears yX3_knownYears ∈ AW := aw_mem 407 (by decide +kernel)
theorem yw_X3_knownYears : yW yX3_knownYears 0 := by unfold yW; decide +kernel
theorem cl_X5_169 : VW RX5 169 yX3_knownYears cX3_knownYears 1 (some .int) 0 := ⟨cw_X3_knownYears, aw_mem 405 (by decide +kernel), im_X3_knownYears, se_X3_knownYears, in_X3, yw_X3_knownYears⟩
theorem ml_X3_84 : Cond.methodLink RX3 84 Lib.Math.min.name ∈ AW := aw_mem 409 (by decide +kernel)
theorem cw_X3_endedYear : Cond.code yX3_endedYear cX3_endedYear 2 (some (.object "MistakeAlmanac$Year")) ∈ AW := aw_mem 413 (by decide +kernel)
theorem im_X3_endedYear : Cond.instanceMethod yX3_endedYear ∈ AW := aw_mem 411 (by decide +kernel)
theorem se_X3_endedYear : Cond.selects yX3_endedYear.cls yX3_endedYear yX3_endedYear ∈ AW := aw_mem 412 (by decide +kernel)
theorem yw_X3_endedYear : yW yX3_endedYear 1 := by unfold yW; decide +kernel
theorem cl_X5_172 : VW RX5 172 yX3_endedYear cX3_endedYear 2 (some (.object "MistakeAlmanac$Year")) 1 := ⟨cw_X3_endedYear, aw_mem 410 (by decide +kernel), im_X3_endedYear, se_X3_endedYear, in_X3, yw_X3_endedYear⟩
theorem cw_X5_meanMistake : Cond.code yX5_meanMistake cX5_meanMistake 1 (some .float) ∈ AW := aw_mem 418 (by decide +kernel)
theorem im_X5_meanMistake : Cond.instanceMethod yX5_meanMistake ∈ AW := aw_mem 416 (by decide +kernel)
theorem se_X5_meanMistake : Cond.selects yX5_meanMistake.cls yX5_meanMistake yX5_meanMistake ∈ AW := aw_mem 417 (by decide +kernel)
theorem yw_X5_meanMistake : yW yX5_meanMistake 0 := by unfold yW; decide +kernel
theorem cl_L_104 : VW RL 104 yX5_meanMistake cX5_meanMistake 1 (some .float) 0 := ⟨cw_X5_meanMistake, aw_mem 415 (by decide +kernel), im_X5_meanMistake, se_X5_meanMistake, in_X5, yw_X5_meanMistake⟩
theorem cw_X5_nextBase : Cond.code yX5_nextBase cX5_nextBase 4 (some .int) ∈ AW := aw_mem 422 (by decide +kernel)
theorem im_X5_nextBase : Cond.instanceMethod yX5_nextBase ∈ AW := aw_mem 420 (by decide +kernel)
theorem se_X5_nextBase : Cond.selects yX5_nextBase.cls yX5_nextBase yX5_nextBase ∈ AW := aw_mem 421 (by decide +kernel)
theorem yw_X5_nextBase : yW yX5_nextBase 1 := by unfold yW; decide +kernel
theorem cl_L_56 : VW RL 56 yX5_nextBase cX5_nextBase 4 (some .int) 1 := ⟨cw_X5_nextBase, aw_mem 419 (by decide +kernel), im_X5_nextBase, se_X5_nextBase, in_X5, yw_X5_nextBase⟩
theorem cl_X5_176 : VW RX5 176 yX4_meanByDays cX4_meanByDays 8 (some .int) 2 := ⟨cw_X4_meanByDays, aw_mem 423 (by decide +kernel), im_X4_meanByDays, se_X4_meanByDays, in_X4, yw_X4_meanByDays⟩
theorem cl_X5_211 : SW RX5 211 yX5_mended cX5_mended 3 (some .int) 3 := ⟨cw_X5_mended, aw_mem 424 (by decide +kernel), sm_X5_mended, in_X5, yw_X5_mended⟩
theorem cw_X5_bestRate : Cond.code yX5_bestRate cX5_bestRate 8 (some .int) ∈ AW := aw_mem 428 (by decide +kernel)
theorem im_X5_bestRate : Cond.instanceMethod yX5_bestRate ∈ AW := aw_mem 426 (by decide +kernel)
theorem se_X5_bestRate : Cond.selects yX5_bestRate.cls yX5_bestRate yX5_bestRate ∈ AW := aw_mem 427 (by decide +kernel)
theorem yw_X5_bestRate : yW yX5_bestRate 1 := by unfold yW; decide +kernel
theorem cl_L_61 : VW RL 61 yX5_bestRate cX5_bestRate 8 (some .int) 1 := ⟨cw_X5_bestRate, aw_mem 425 (by decide +kernel), im_X5_bestRate, se_X5_bestRate, in_X5, yw_X5_bestRate⟩
theorem cw_X5_sumWithRate : Cond.code yX5_sumWithRate cX5_sumWithRate 6 (some .int) ∈ AW := aw_mem 432 (by decide +kernel)
theorem im_X5_sumWithRate : Cond.instanceMethod yX5_sumWithRate ∈ AW := aw_mem 431 (by decide +kernel)
theorem se_X5_sumWithRate : Cond.selects yX5_sumWithRate.cls yX5_sumWithRate yX5_sumWithRate ∈ AW := aw_mem 7 (by decide +kernel)
theorem yw_X5_sumWithRate : yW yX5_sumWithRate 3 := by unfold yW; decide +kernel
theorem cl_X5_218 : VW RX5 218 yX5_sumWithRate cX5_sumWithRate 6 (some .int) 3 := ⟨cw_X5_sumWithRate, aw_mem 429 (by decide +kernel), im_X5_sumWithRate, se_X5_sumWithRate, in_X5, yw_X5_sumWithRate⟩
theorem ml_X5_229 : Cond.methodLink RX5 229 Lib.Math.abs.name ∈ AW := aw_mem 433 (by decide +kernel)
theorem cw_L_cell : Cond.code yL_cell cL_cell 2 (some .int) ∈ AW := aw_mem 436 (by decide +kernel)
theorem sm_L_cell : Cond.static yL_cell ∈ AW := aw_mem 435 (by decide +kernel)
theorem yw_L_cell : yW yL_cell 2 := by unfold yW; decide +kernel
theorem cl_L_114 : SW RL 114 yL_cell cL_cell 2 (some .int) 2 := ⟨cw_L_cell, aw_mem 434 (by decide +kernel), sm_L_cell, in_L, yw_L_cell⟩
theorem cw_L_low : Cond.code yL_low cL_low 2 (some .int) ∈ AW := aw_mem 439 (by decide +kernel)
theorem sm_L_low : Cond.static yL_low ∈ AW := aw_mem 438 (by decide +kernel)
theorem yw_L_low : yW yL_low 2 := by unfold yW; decide +kernel
theorem cl_L_64 : SW RL 64 yL_low cL_low 2 (some .int) 2 := ⟨cw_L_low, aw_mem 437 (by decide +kernel), sm_L_low, in_L, yw_L_low⟩
theorem cw_L_areDays : Cond.code yL_areDays cL_areDays 9 (some .boolean) ∈ AW := aw_mem 443 (by decide +kernel)
theorem sm_L_areDays : Cond.static yL_areDays ∈ AW := aw_mem 442 (by decide +kernel)
theorem yw_L_areDays : yW yL_areDays 1 := by unfold yW; decide +kernel
theorem cl_L_96 : SW RL 96 yL_areDays cL_areDays 9 (some .boolean) 1 := ⟨cw_L_areDays, aw_mem 441 (by decide +kernel), sm_L_areDays, in_L, yw_L_areDays⟩
theorem cw_X5_dayOf : Cond.code yX5_dayOf cX5_dayOf 5 (some .int) ∈ AW := aw_mem 447 (by decide +kernel)
theorem im_X5_dayOf : Cond.instanceMethod yX5_dayOf ∈ AW := aw_mem 445 (by decide +kernel)
theorem se_X5_dayOf : Cond.selects yX5_dayOf.cls yX5_dayOf yX5_dayOf ∈ AW := aw_mem 446 (by decide +kernel)
theorem yw_X5_dayOf : yW yX5_dayOf 2 := by unfold yW; decide +kernel
theorem cl_L_14 : VW RL 14 yX5_dayOf cX5_dayOf 5 (some .int) 2 := ⟨cw_X5_dayOf, aw_mem 444 (by decide +kernel), im_X5_dayOf, se_X5_dayOf, in_X5, yw_X5_dayOf⟩
theorem cl_X5_152 : VW RX5 152 yX3_foretoldOf cX3_foretoldOf 4 (some .int) 1 := ⟨cw_X3_foretoldOf, aw_mem 448 (by decide +kernel), im_X3_foretoldOf, se_X3_foretoldOf, in_X3, yw_X3_foretoldOf⟩
theorem cl_X5_161 : VW RX5 161 yX3_isFrostForetold cX3_isFrostForetold 2 (some .boolean) 1 := ⟨cw_X3_isFrostForetold, aw_mem 449 (by decide +kernel), im_X3_isFrostForetold, se_X3_isFrostForetold, in_X3, yw_X3_isFrostForetold⟩
theorem cw_X5_oneIf : Cond.code yX5_oneIf cX5_oneIf 1 (some .int) ∈ AW := aw_mem 452 (by decide +kernel)
theorem sm_X5_oneIf : Cond.static yX5_oneIf ∈ AW := aw_mem 451 (by decide +kernel)
theorem yw_X5_oneIf : yW yX5_oneIf 1 := by unfold yW; decide +kernel
theorem cl_X5_165 : SW RX5 165 yX5_oneIf cX5_oneIf 1 (some .int) 1 := ⟨cw_X5_oneIf, aw_mem 450 (by decide +kernel), sm_X5_oneIf, in_X5, yw_X5_oneIf⟩
theorem cw_X5_saintOf : Cond.code yX5_saintOf cX5_saintOf 4 (some .int) ∈ AW := aw_mem 456 (by decide +kernel)
theorem im_X5_saintOf : Cond.instanceMethod yX5_saintOf ∈ AW := aw_mem 454 (by decide +kernel)
theorem se_X5_saintOf : Cond.selects yX5_saintOf.cls yX5_saintOf yX5_saintOf ∈ AW := aw_mem 455 (by decide +kernel)
theorem yw_X5_saintOf : yW yX5_saintOf 2 := by unfold yW; decide +kernel
theorem cl_L_18 : VW RL 18 yX5_saintOf cX5_saintOf 4 (some .int) 2 := ⟨cw_X5_saintOf, aw_mem 453 (by decide +kernel), im_X5_saintOf, se_X5_saintOf, in_X5, yw_X5_saintOf⟩
theorem cl_X5_183 : VW RX5 183 yX3_isTelling cX3_isTelling 2 (some .boolean) 1 := ⟨cw_X3_isTelling, aw_mem 457 (by decide +kernel), im_X3_isTelling, se_X3_isTelling, in_X3, yw_X3_isTelling⟩
theorem cw_L_bounded : Cond.code yL_bounded cL_bounded 1 (some .int) ∈ AW := aw_mem 460 (by decide +kernel)
theorem sm_L_bounded : Cond.static yL_bounded ∈ AW := aw_mem 459 (by decide +kernel)
theorem yw_L_bounded : yW yL_bounded 1 := by unfold yW; decide +kernel
theorem cl_L_21 : SW RL 21 yL_bounded cL_bounded 1 (some .int) 1 := ⟨cw_L_bounded, aw_mem 458 (by decide +kernel), sm_L_bounded, in_L, yw_L_bounded⟩
theorem cw_L_size : Cond.code yL_size cL_size 1 (some .int) ∈ AW := aw_mem 463 (by decide +kernel)
theorem sm_L_size : Cond.static yL_size ∈ AW := aw_mem 462 (by decide +kernel)
theorem yw_L_size : yW yL_size 1 := by unfold yW; decide +kernel
theorem cl_L_26 : SW RL 26 yL_size cL_size 1 (some .int) 1 := ⟨cw_L_size, aw_mem 461 (by decide +kernel), sm_L_size, in_L, yw_L_size⟩
theorem cw_L_areYears : Cond.code yL_areYears cL_areYears 9 (some .boolean) ∈ AW := aw_mem 466 (by decide +kernel)
theorem sm_L_areYears : Cond.static yL_areYears ∈ AW := aw_mem 465 (by decide +kernel)
theorem yw_L_areYears : yW yL_areYears 2 := by unfold yW; decide +kernel
theorem cl_L_100 : SW RL 100 yL_areYears cL_areYears 9 (some .boolean) 2 := ⟨cw_L_areYears, aw_mem 464 (by decide +kernel), sm_L_areYears, in_L, yw_L_areYears⟩
theorem cw_X5_past : Cond.code yX5_past cX5_past 5 (some .int) ∈ AW := aw_mem 470 (by decide +kernel)
theorem im_X5_past : Cond.instanceMethod yX5_past ∈ AW := aw_mem 468 (by decide +kernel)
theorem se_X5_past : Cond.selects yX5_past.cls yX5_past yX5_past ∈ AW := aw_mem 469 (by decide +kernel)
theorem yw_X5_past : yW yX5_past 3 := by unfold yW; decide +kernel
theorem cl_L_29 : VW RL 29 yX5_past cX5_past 5 (some .int) 3 := ⟨cw_X5_past, aw_mem 467 (by decide +kernel), im_X5_past, se_X5_past, in_X5, yw_X5_past⟩
theorem cw_X5_mean : Cond.code yX5_mean cX5_mean 5 (some .int) ∈ AW := aw_mem 474 (by decide +kernel)
theorem im_X5_mean : Cond.instanceMethod yX5_mean ∈ AW := aw_mem 472 (by decide +kernel)
theorem se_X5_mean : Cond.selects yX5_mean.cls yX5_mean yX5_mean ∈ AW := aw_mem 473 (by decide +kernel)
theorem yw_X5_mean : yW yX5_mean 3 := by unfold yW; decide +kernel
theorem cl_L_33 : VW RL 33 yX5_mean cX5_mean 5 (some .int) 3 := ⟨cw_X5_mean, aw_mem 471 (by decide +kernel), im_X5_mean, se_X5_mean, in_X5, yw_X5_mean⟩
theorem cw_X4_meanBySums : Cond.code yX4_meanBySums cX4_meanBySums 7 (some .int) ∈ AW := aw_mem 478 (by decide +kernel)
theorem im_X4_meanBySums : Cond.instanceMethod yX4_meanBySums ∈ AW := aw_mem 476 (by decide +kernel)
theorem se_X4_meanBySums : Cond.selects yX4_meanBySums.cls yX4_meanBySums yX4_meanBySums ∈ AW := aw_mem 477 (by decide +kernel)
theorem yw_X4_meanBySums : yW yX4_meanBySums 2 := by unfold yW; decide +kernel
theorem cl_X5_180 : VW RX5 180 yX4_meanBySums cX4_meanBySums 7 (some .int) 2 := ⟨cw_X4_meanBySums, aw_mem 475 (by decide +kernel), im_X4_meanBySums, se_X4_meanBySums, in_X4, yw_X4_meanBySums⟩
theorem cw_X4_sumBefore : Cond.code yX4_sumBefore cX4_sumBefore 4 (some .int) ∈ AW := aw_mem 482 (by decide +kernel)
theorem im_X4_sumBefore : Cond.instanceMethod yX4_sumBefore ∈ AW := aw_mem 481 (by decide +kernel)
theorem se_X4_sumBefore : Cond.selects yX4_sumBefore.cls yX4_sumBefore yX4_sumBefore ∈ AW := aw_mem 8 (by decide +kernel)
theorem yw_X4_sumBefore : yW yX4_sumBefore 1 := by unfold yW; decide +kernel
theorem cl_X4_50 : VW RX4 50 yX4_sumBefore cX4_sumBefore 4 (some .int) 1 := ⟨cw_X4_sumBefore, aw_mem 479 (by decide +kernel), im_X4_sumBefore, se_X4_sumBefore, in_X4, yw_X4_sumBefore⟩
theorem cw_X5_bestBound : Cond.code yX5_bestBound cX5_bestBound 8 (some .int) ∈ AW := aw_mem 486 (by decide +kernel)
theorem im_X5_bestBound : Cond.instanceMethod yX5_bestBound ∈ AW := aw_mem 484 (by decide +kernel)
theorem se_X5_bestBound : Cond.selects yX5_bestBound.cls yX5_bestBound yX5_bestBound ∈ AW := aw_mem 485 (by decide +kernel)
theorem yw_X5_bestBound : yW yX5_bestBound 1 := by unfold yW; decide +kernel
theorem cl_L_36 : VW RL 36 yX5_bestBound cX5_bestBound 8 (some .int) 1 := ⟨cw_X5_bestBound, aw_mem 483 (by decide +kernel), im_X5_bestBound, se_X5_bestBound, in_X5, yw_X5_bestBound⟩
theorem cw_X4_wrongFrosts : Cond.code yX4_wrongFrosts cX4_wrongFrosts 4 (some .int) ∈ AW := aw_mem 490 (by decide +kernel)
theorem im_X4_wrongFrosts : Cond.instanceMethod yX4_wrongFrosts ∈ AW := aw_mem 488 (by decide +kernel)
theorem se_X4_wrongFrosts : Cond.selects yX4_wrongFrosts.cls yX4_wrongFrosts yX4_wrongFrosts ∈ AW := aw_mem 489 (by decide +kernel)
theorem yw_X4_wrongFrosts : yW yX4_wrongFrosts 1 := by unfold yW; decide +kernel
theorem cl_X5_215 : VW RX5 215 yX4_wrongFrosts cX4_wrongFrosts 4 (some .int) 1 := ⟨cw_X4_wrongFrosts, aw_mem 487 (by decide +kernel), im_X4_wrongFrosts, se_X4_wrongFrosts, in_X4, yw_X4_wrongFrosts⟩
theorem cl_X4_54 : NW yX5_isFrost cX5_isFrost 1 (some .boolean) 1 := ⟨cw_X5_isFrost, sm_X5_isFrost, in_X5, yw_X5_isFrost⟩
theorem cw_L_isBound : Cond.code yL_isBound cL_isBound 8 (some .boolean) ∈ AW := aw_mem 494 (by decide +kernel)
theorem sm_L_isBound : Cond.static yL_isBound ∈ AW := aw_mem 493 (by decide +kernel)
theorem yw_L_isBound : yW yL_isBound 1 := by unfold yW; decide +kernel
theorem cl_L_122 : SW RL 122 yL_isBound cL_isBound 8 (some .boolean) 1 := ⟨cw_L_isBound, aw_mem 492 (by decide +kernel), sm_L_isBound, in_L, yw_L_isBound⟩
theorem sm_L_does : Cond.static yL_does ∈ AW := aw_mem 496 (by decide +kernel)
theorem yw_L_does : yW yL_does 4 := by unfold yW; decide +kernel
theorem cw_X5_strike : Cond.code yX5_strike cX5_strike 2 (some .int) ∈ AW := aw_mem 501 (by decide +kernel)
theorem im_X5_strike : Cond.instanceMethod yX5_strike ∈ AW := aw_mem 499 (by decide +kernel)
theorem se_X5_strike : Cond.selects yX5_strike.cls yX5_strike yX5_strike ∈ AW := aw_mem 500 (by decide +kernel)
theorem yw_X5_strike : yW yX5_strike 1 := by unfold yW; decide +kernel
theorem cl_L_74 : VW RL 74 yX5_strike cX5_strike 2 (some .int) 1 := ⟨cw_X5_strike, aw_mem 498 (by decide +kernel), im_X5_strike, se_X5_strike, in_X5, yw_X5_strike⟩
theorem cw_X3_removeSaint : Cond.code yX3_removeSaint cX3_removeSaint 3 none ∈ AW := aw_mem 505 (by decide +kernel)
theorem im_X3_removeSaint : Cond.instanceMethod yX3_removeSaint ∈ AW := aw_mem 503 (by decide +kernel)
theorem se_X3_removeSaint : Cond.selects yX3_removeSaint.cls yX3_removeSaint yX3_removeSaint ∈ AW := aw_mem 504 (by decide +kernel)
theorem yw_X3_removeSaint : yW yX3_removeSaint 1 := by unfold yW; decide +kernel
theorem cl_X5_112 : VW RX5 112 yX3_removeSaint cX3_removeSaint 3 none 1 := ⟨cw_X3_removeSaint, aw_mem 502 (by decide +kernel), im_X3_removeSaint, se_X3_removeSaint, in_X3, yw_X3_removeSaint⟩
theorem cw_X5_readerOf : Cond.code yX5_readerOf cX5_readerOf 4 (some .int) ∈ AW := aw_mem 509 (by decide +kernel)
theorem im_X5_readerOf : Cond.instanceMethod yX5_readerOf ∈ AW := aw_mem 507 (by decide +kernel)
theorem se_X5_readerOf : Cond.selects yX5_readerOf.cls yX5_readerOf yX5_readerOf ∈ AW := aw_mem 508 (by decide +kernel)
theorem yw_X5_readerOf : yW yX5_readerOf 2 := by unfold yW; decide +kernel
theorem cl_L_39 : VW RL 39 yX5_readerOf cX5_readerOf 4 (some .int) 2 := ⟨cw_X5_readerOf, aw_mem 506 (by decide +kernel), im_X5_readerOf, se_X5_readerOf, in_X5, yw_X5_readerOf⟩
theorem cw_X5_takeBack : Cond.code yX5_takeBack cX5_takeBack 3 (some .int) ∈ AW := aw_mem 513 (by decide +kernel)
theorem im_X5_takeBack : Cond.instanceMethod yX5_takeBack ∈ AW := aw_mem 511 (by decide +kernel)
theorem se_X5_takeBack : Cond.selects yX5_takeBack.cls yX5_takeBack yX5_takeBack ∈ AW := aw_mem 512 (by decide +kernel)
theorem yw_X5_takeBack : yW yX5_takeBack 1 := by unfold yW; decide +kernel
theorem cl_L_84 : VW RL 84 yX5_takeBack cX5_takeBack 3 (some .int) 1 := ⟨cw_X5_takeBack, aw_mem 510 (by decide +kernel), im_X5_takeBack, se_X5_takeBack, in_X5, yw_X5_takeBack⟩
theorem cl_X5_140 : VW RX5 140 yX1_dropBet cX1_dropBet 1 none 0 := ⟨cw_X1_dropBet, aw_mem 514 (by decide +kernel), im_X1_dropBet, se_X1_dropBet, in_X1, yw_X1_dropBet⟩
theorem cw_L_isNext : Cond.code yL_isNext cL_isNext 6 (some .boolean) ∈ AW := aw_mem 517 (by decide +kernel)
theorem sm_L_isNext : Cond.static yL_isNext ∈ AW := aw_mem 516 (by decide +kernel)
theorem yw_L_isNext : yW yL_isNext 2 := by unfold yW; decide +kernel
theorem cl_L_87 : SW RL 87 yL_isNext cL_isNext 6 (some .boolean) 2 := ⟨cw_L_isNext, aw_mem 515 (by decide +kernel), sm_L_isNext, in_L, yw_L_isNext⟩
theorem cw_X5_keep : Cond.code yX5_keep cX5_keep 1 (some .int) ∈ AW := aw_mem 521 (by decide +kernel)
theorem im_X5_keep : Cond.instanceMethod yX5_keep ∈ AW := aw_mem 519 (by decide +kernel)
theorem se_X5_keep : Cond.selects yX5_keep.cls yX5_keep yX5_keep ∈ AW := aw_mem 520 (by decide +kernel)
theorem yw_X5_keep : yW yX5_keep 0 := by unfold yW; decide +kernel
theorem cl_L_52 : VW RL 52 yX5_keep cX5_keep 1 (some .int) 0 := ⟨cw_X5_keep, aw_mem 518 (by decide +kernel), im_X5_keep, se_X5_keep, in_X5, yw_X5_keep⟩
theorem sm_L_isDay : Cond.static yL_isDay ∈ AW := aw_mem 523 (by decide +kernel)
theorem yw_L_isDay : yW yL_isDay 3 := by unfold yW; decide +kernel
theorem cw_X5_ifMeasured : Cond.code yX5_ifMeasured cX5_ifMeasured 5 (some .int) ∈ AW := aw_mem 528 (by decide +kernel)
theorem im_X5_ifMeasured : Cond.instanceMethod yX5_ifMeasured ∈ AW := aw_mem 526 (by decide +kernel)
theorem se_X5_ifMeasured : Cond.selects yX5_ifMeasured.cls yX5_ifMeasured yX5_ifMeasured ∈ AW := aw_mem 527 (by decide +kernel)
theorem yw_X5_ifMeasured : yW yX5_ifMeasured 2 := by unfold yW; decide +kernel
theorem cl_L_42 : VW RL 42 yX5_ifMeasured cX5_ifMeasured 5 (some .int) 2 := ⟨cw_X5_ifMeasured, aw_mem 525 (by decide +kernel), im_X5_ifMeasured, se_X5_ifMeasured, in_X5, yw_X5_ifMeasured⟩
theorem cl_X5_222 : SW RX5 222 yX5_isFrost cX5_isFrost 1 (some .boolean) 1 := ⟨cw_X5_isFrost, aw_mem 529 (by decide +kernel), sm_X5_isFrost, in_X5, yw_X5_isFrost⟩
theorem cl_X5_225 : VW RX5 225 yX1_winnings cX1_winnings 4 (some .int) 3 := ⟨cw_X1_winnings, aw_mem 530 (by decide +kernel), im_X1_winnings, se_X1_winnings, in_X1, yw_X1_winnings⟩
theorem cw_L_nextBase : Cond.code yL_nextBase cL_nextBase 8 (some .int) ∈ AW := aw_mem 533 (by decide +kernel)
theorem sm_L_nextBase : Cond.static yL_nextBase ∈ AW := aw_mem 532 (by decide +kernel)
theorem yw_L_nextBase : yW yL_nextBase 3 := by unfold yW; decide +kernel
theorem cl_L_45 : SW RL 45 yL_nextBase cL_nextBase 8 (some .int) 3 := ⟨cw_L_nextBase, aw_mem 531 (by decide +kernel), sm_L_nextBase, in_L, yw_L_nextBase⟩
end
section
set_option maxRecDepth 1000000 in
set_option maxHeartbeats 4000000 in
theorem cw_L_does : Cond.code yL_does cL_does 21 (some .boolean) ∈ AW := aw_mem 497 ⟨rfl, by decide +kernel⟩
theorem cl_L_118 : SW RL 118 yL_does cL_does 21 (some .boolean) 4 := ⟨cw_L_does, aw_mem 495 (by decide +kernel), sm_L_does, in_L, yw_L_does⟩
set_option maxRecDepth 1000000 in
set_option maxHeartbeats 4000000 in
theorem cw_L_isDay : Cond.code yL_isDay cL_isDay 18 (some .boolean) ∈ AW := aw_mem 524 ⟨rfl, by decide +kernel⟩
theorem cl_L_91 : SW RL 91 yL_isDay cL_isDay 18 (some .boolean) 3 := ⟨cw_L_isDay, aw_mem 522 (by decide +kernel), sm_L_isDay, in_L, yw_L_isDay⟩
end
