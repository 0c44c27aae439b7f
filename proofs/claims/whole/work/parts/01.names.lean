-- ===== PART A: goes FIRST, ahead of the names: the tables' words, and 'selects' of the private methods out of them =====
/-- a private method of a class that the tables say can be made, by its rows of tables_1 -/
def lw_okq (q : MethodName × Nat) : Prop := (q.1.cls ≠ "java/lang/invoke/MethodHandle" ∧ q.1.cls ≠ "java/lang/invoke/VarHandle") ∧ Cond.instantiable q.1.cls q.2 ∈ tables_1 ∧ Cond.privateMethod q.1 ∈ tables_1 ∧ Cond.instanceMethod q.1 ∈ tables_1
theorem lw_p0 : lw_okq (⟨"MistakeAlmanac", "remember", "()V"⟩, 7) := ⟨⟨by decide +kernel, by decide +kernel⟩, List.mem_of_getElem? (i := 11) (by decide +kernel), List.mem_of_getElem? (i := 234) (by decide +kernel), List.mem_of_getElem? (i := 235) (by decide +kernel)⟩
theorem lw_p1 : lw_okq (⟨"MistakeAlmanac$State", "countFrost", "(ZZ)V"⟩, 13) := ⟨⟨by decide +kernel, by decide +kernel⟩, List.mem_of_getElem? (i := 50) (by decide +kernel), List.mem_of_getElem? (i := 294) (by decide +kernel), List.mem_of_getElem? (i := 295) (by decide +kernel)⟩
theorem lw_p2 : lw_okq (⟨"MistakeAlmanac$State", "settleBets", "(ZZ)V"⟩, 13) := ⟨⟨by decide +kernel, by decide +kernel⟩, List.mem_of_getElem? (i := 50) (by decide +kernel), List.mem_of_getElem? (i := 298) (by decide +kernel), List.mem_of_getElem? (i := 299) (by decide +kernel)⟩
theorem lw_p3 : lw_okq (⟨"MistakeAlmanac$State", "endYear", "()V"⟩, 13) := ⟨⟨by decide +kernel, by decide +kernel⟩, List.mem_of_getElem? (i := 50) (by decide +kernel), List.mem_of_getElem? (i := 310) (by decide +kernel), List.mem_of_getElem? (i := 311) (by decide +kernel)⟩
theorem lw_p4 : lw_okq (⟨"MistakeAlmanac$DayText", "isAtPlace", "(C)Z"⟩, 6) := ⟨⟨by decide +kernel, by decide +kernel⟩, List.mem_of_getElem? (i := 19) (by decide +kernel), List.mem_of_getElem? (i := 344) (by decide +kernel), List.mem_of_getElem? (i := 345) (by decide +kernel)⟩
theorem lw_p5 : lw_okq (⟨"MistakeAlmanac$DayText", "readNumber", "(II)Z"⟩, 6) := ⟨⟨by decide +kernel, by decide +kernel⟩, List.mem_of_getElem? (i := 19) (by decide +kernel), List.mem_of_getElem? (i := 348) (by decide +kernel), List.mem_of_getElem? (i := 349) (by decide +kernel)⟩
theorem lw_p6 : lw_okq (⟨"MistakeAlmanac$DayText", "digitAtPlace", "()I"⟩, 6) := ⟨⟨by decide +kernel, by decide +kernel⟩, List.mem_of_getElem? (i := 19) (by decide +kernel), List.mem_of_getElem? (i := 352) (by decide +kernel), List.mem_of_getElem? (i := 353) (by decide +kernel)⟩
theorem lw_p7 : lw_okq (⟨"MistakeAlmanac$Year", "sumBefore", "(I)I"⟩, 5) := ⟨⟨by decide +kernel, by decide +kernel⟩, List.mem_of_getElem? (i := 62) (by decide +kernel), List.mem_of_getElem? (i := 455) (by decide +kernel), List.mem_of_getElem? (i := 456) (by decide +kernel)⟩
theorem lw_p8 : lw_okq (⟨"MistakeAlmanac", "sumWithRate", "(LMistakeAlmanac$Year;LMistakeAlmanac$Year;I)I"⟩, 7) := ⟨⟨by decide +kernel, by decide +kernel⟩, List.mem_of_getElem? (i := 11) (by decide +kernel), List.mem_of_getElem? (i := 495) (by decide +kernel), List.mem_of_getElem? (i := 496) (by decide +kernel)⟩
theorem lw_p9 : lw_okq (⟨"MistakeAlmanacModel", "remembers", "()V"⟩, 8) := ⟨⟨by decide +kernel, by decide +kernel⟩, List.mem_of_getElem? (i := 506) (by decide +kernel), List.mem_of_getElem? (i := 547) (by decide +kernel), List.mem_of_getElem? (i := 548) (by decide +kernel)⟩
theorem lw_p10 : lw_okq (⟨"MistakeAlmanacModel", "measures", "(II)I"⟩, 8) := ⟨⟨by decide +kernel, by decide +kernel⟩, List.mem_of_getElem? (i := 506) (by decide +kernel), List.mem_of_getElem? (i := 551) (by decide +kernel), List.mem_of_getElem? (i := 552) (by decide +kernel)⟩
theorem lw_p11 : lw_okq (⟨"MistakeAlmanacModel", "foretold", "(II)I"⟩, 8) := ⟨⟨by decide +kernel, by decide +kernel⟩, List.mem_of_getElem? (i := 506) (by decide +kernel), List.mem_of_getElem? (i := 555) (by decide +kernel), List.mem_of_getElem? (i := 556) (by decide +kernel)⟩
theorem lw_p12 : lw_okq (⟨"MistakeAlmanacModel", "tells", "(II)Z"⟩, 8) := ⟨⟨by decide +kernel, by decide +kernel⟩, List.mem_of_getElem? (i := 506) (by decide +kernel), List.mem_of_getElem? (i := 562) (by decide +kernel), List.mem_of_getElem? (i := 563) (by decide +kernel)⟩
theorem lw_p13 : lw_okq (⟨"MistakeAlmanacModel", "settles", "(IIZZ)V"⟩, 8) := ⟨⟨by decide +kernel, by decide +kernel⟩, List.mem_of_getElem? (i := 506) (by decide +kernel), List.mem_of_getElem? (i := 569) (by decide +kernel), List.mem_of_getElem? (i := 570) (by decide +kernel)⟩
theorem lw_p14 : lw_okq (⟨"MistakeAlmanacModel", "ends", "(I)V"⟩, 8) := ⟨⟨by decide +kernel, by decide +kernel⟩, List.mem_of_getElem? (i := 506) (by decide +kernel), List.mem_of_getElem? (i := 576) (by decide +kernel), List.mem_of_getElem? (i := 577) (by decide +kernel)⟩
theorem lw_p15 : lw_okq (⟨"MistakeAlmanacModel", "looksNow", "(I)V"⟩, 8) := ⟨⟨by decide +kernel, by decide +kernel⟩, List.mem_of_getElem? (i := 506) (by decide +kernel), List.mem_of_getElem? (i := 580) (by decide +kernel), List.mem_of_getElem? (i := 581) (by decide +kernel)⟩
def lw_privs_1 : List (MethodName × Nat) := [(⟨"MistakeAlmanac", "remember", "()V"⟩, 7), (⟨"MistakeAlmanac$State", "countFrost", "(ZZ)V"⟩, 13), (⟨"MistakeAlmanac$State", "settleBets", "(ZZ)V"⟩, 13), (⟨"MistakeAlmanac$State", "endYear", "()V"⟩, 13), (⟨"MistakeAlmanac$DayText", "isAtPlace", "(C)Z"⟩, 6), (⟨"MistakeAlmanac$DayText", "readNumber", "(II)Z"⟩, 6), (⟨"MistakeAlmanac$DayText", "digitAtPlace", "()I"⟩, 6), (⟨"MistakeAlmanac$Year", "sumBefore", "(I)I"⟩, 5), (⟨"MistakeAlmanac", "sumWithRate", "(LMistakeAlmanac$Year;LMistakeAlmanac$Year;I)I"⟩, 7), (⟨"MistakeAlmanacModel", "remembers", "()V"⟩, 8), (⟨"MistakeAlmanacModel", "measures", "(II)I"⟩, 8), (⟨"MistakeAlmanacModel", "foretold", "(II)I"⟩, 8), (⟨"MistakeAlmanacModel", "tells", "(II)Z"⟩, 8), (⟨"MistakeAlmanacModel", "settles", "(IIZZ)V"⟩, 8), (⟨"MistakeAlmanacModel", "ends", "(I)V"⟩, 8), (⟨"MistakeAlmanacModel", "looksNow", "(I)V"⟩, 8)]
theorem lw_r1 : ∀ q ∈ lw_privs_1, lw_okq q := List.forall_mem_cons.mpr ⟨lw_p0, List.forall_mem_cons.mpr ⟨lw_p1, List.forall_mem_cons.mpr ⟨lw_p2, List.forall_mem_cons.mpr ⟨lw_p3, List.forall_mem_cons.mpr ⟨lw_p4, List.forall_mem_cons.mpr ⟨lw_p5, List.forall_mem_cons.mpr ⟨lw_p6, List.forall_mem_cons.mpr ⟨lw_p7, List.forall_mem_cons.mpr ⟨lw_p8, List.forall_mem_cons.mpr ⟨lw_p9, List.forall_mem_cons.mpr ⟨lw_p10, List.forall_mem_cons.mpr ⟨lw_p11, List.forall_mem_cons.mpr ⟨lw_p12, List.forall_mem_cons.mpr ⟨lw_p13, List.forall_mem_cons.mpr ⟨lw_p14, List.forall_mem_cons.mpr ⟨lw_p15, fun _ h => absurd h List.not_mem_nil⟩⟩⟩⟩⟩⟩⟩⟩⟩⟩⟩⟩⟩⟩⟩⟩
theorem lw_p16 : lw_okq (⟨"MistakeAlmanacModel", "mended", "(III)I"⟩, 8) := ⟨⟨by decide +kernel, by decide +kernel⟩, List.mem_of_getElem? (i := 506) (by decide +kernel), List.mem_of_getElem? (i := 584) (by decide +kernel), List.mem_of_getElem? (i := 585) (by decide +kernel)⟩
theorem lw_p17 : lw_okq (⟨"MistakeAlmanacModel", "meanAt", "(I)I"⟩, 8) := ⟨⟨by decide +kernel, by decide +kernel⟩, List.mem_of_getElem? (i := 506) (by decide +kernel), List.mem_of_getElem? (i := 588) (by decide +kernel), List.mem_of_getElem? (i := 589) (by decide +kernel)⟩
theorem lw_p18 : lw_okq (⟨"MistakeAlmanacModel", "isSaint", "(I)Z"⟩, 8) := ⟨⟨by decide +kernel, by decide +kernel⟩, List.mem_of_getElem? (i := 506) (by decide +kernel), List.mem_of_getElem? (i := 607) (by decide +kernel), List.mem_of_getElem? (i := 608) (by decide +kernel)⟩
theorem lw_p19 : lw_okq (⟨"MistakeAlmanacModel", "dayEnd", "(I)I"⟩, 8) := ⟨⟨by decide +kernel, by decide +kernel⟩, List.mem_of_getElem? (i := 506) (by decide +kernel), List.mem_of_getElem? (i := 641) (by decide +kernel), List.mem_of_getElem? (i := 642) (by decide +kernel)⟩
theorem lw_p20 : lw_okq (⟨"MistakeAlmanacModel", "warmthEnd", "(I)I"⟩, 8) := ⟨⟨by decide +kernel, by decide +kernel⟩, List.mem_of_getElem? (i := 506) (by decide +kernel), List.mem_of_getElem? (i := 645) (by decide +kernel), List.mem_of_getElem? (i := 646) (by decide +kernel)⟩
theorem lw_p21 : lw_okq (⟨"MistakeAlmanacModel", "sign", "(I)I"⟩, 8) := ⟨⟨by decide +kernel, by decide +kernel⟩, List.mem_of_getElem? (i := 506) (by decide +kernel), List.mem_of_getElem? (i := 649) (by decide +kernel), List.mem_of_getElem? (i := 650) (by decide +kernel)⟩
theorem lw_p22 : lw_okq (⟨"MistakeAlmanacModel", "numberEnd", "(III)I"⟩, 8) := ⟨⟨by decide +kernel, by decide +kernel⟩, List.mem_of_getElem? (i := 506) (by decide +kernel), List.mem_of_getElem? (i := 653) (by decide +kernel), List.mem_of_getElem? (i := 654) (by decide +kernel)⟩
theorem lw_p23 : lw_okq (⟨"MistakeAlmanacModel", "digit", "(I)I"⟩, 8) := ⟨⟨by decide +kernel, by decide +kernel⟩, List.mem_of_getElem? (i := 506) (by decide +kernel), List.mem_of_getElem? (i := 657) (by decide +kernel), List.mem_of_getElem? (i := 658) (by decide +kernel)⟩
theorem lw_p24 : lw_okq (⟨"MistakeAlmanacModel", "days", "(I)I"⟩, 8) := ⟨⟨by decide +kernel, by decide +kernel⟩, List.mem_of_getElem? (i := 506) (by decide +kernel), List.mem_of_getElem? (i := 666) (by decide +kernel), List.mem_of_getElem? (i := 667) (by decide +kernel)⟩
theorem lw_p25 : lw_okq (⟨"MistakeAlmanacModel", "numberIn", "(II)I"⟩, 8) := ⟨⟨by decide +kernel, by decide +kernel⟩, List.mem_of_getElem? (i := 506) (by decide +kernel), List.mem_of_getElem? (i := 670) (by decide +kernel), List.mem_of_getElem? (i := 671) (by decide +kernel)⟩
theorem lw_p26 : lw_okq (⟨"MistakeAlmanacModel", "toldOf", "(I)I"⟩, 8) := ⟨⟨by decide +kernel, by decide +kernel⟩, List.mem_of_getElem? (i := 506) (by decide +kernel), List.mem_of_getElem? (i := 690) (by decide +kernel), List.mem_of_getElem? (i := 691) (by decide +kernel)⟩
theorem lw_p27 : lw_okq (⟨"MistakeAlmanacModel", "frostOf", "(I)I"⟩, 8) := ⟨⟨by decide +kernel, by decide +kernel⟩, List.mem_of_getElem? (i := 506) (by decide +kernel), List.mem_of_getElem? (i := 694) (by decide +kernel), List.mem_of_getElem? (i := 695) (by decide +kernel)⟩
theorem lw_p28 : lw_okq (⟨"MistakeAlmanacModel", "isKnown", "(II)Z"⟩, 8) := ⟨⟨by decide +kernel, by decide +kernel⟩, List.mem_of_getElem? (i := 506) (by decide +kernel), List.mem_of_getElem? (i := 702) (by decide +kernel), List.mem_of_getElem? (i := 703) (by decide +kernel)⟩
theorem lw_p29 : lw_okq (⟨"MistakeAlmanacModel", "looks", "(I)V"⟩, 8) := ⟨⟨by decide +kernel, by decide +kernel⟩, List.mem_of_getElem? (i := 506) (by decide +kernel), List.mem_of_getElem? (i := 710) (by decide +kernel), List.mem_of_getElem? (i := 711) (by decide +kernel)⟩
theorem lw_p30 : lw_okq (⟨"MistakeAlmanacModel", "meanBySums", "(I)I"⟩, 8) := ⟨⟨by decide +kernel, by decide +kernel⟩, List.mem_of_getElem? (i := 506) (by decide +kernel), List.mem_of_getElem? (i := 714) (by decide +kernel), List.mem_of_getElem? (i := 715) (by decide +kernel)⟩
theorem lw_p31 : lw_okq (⟨"MistakeAlmanacModel", "sumUpTo", "(I)I"⟩, 8) := ⟨⟨by decide +kernel, by decide +kernel⟩, List.mem_of_getElem? (i := 506) (by decide +kernel), List.mem_of_getElem? (i := 718) (by decide +kernel), List.mem_of_getElem? (i := 719) (by decide +kernel)⟩
def lw_privs_2 : List (MethodName × Nat) := [(⟨"MistakeAlmanacModel", "mended", "(III)I"⟩, 8), (⟨"MistakeAlmanacModel", "meanAt", "(I)I"⟩, 8), (⟨"MistakeAlmanacModel", "isSaint", "(I)Z"⟩, 8), (⟨"MistakeAlmanacModel", "dayEnd", "(I)I"⟩, 8), (⟨"MistakeAlmanacModel", "warmthEnd", "(I)I"⟩, 8), (⟨"MistakeAlmanacModel", "sign", "(I)I"⟩, 8), (⟨"MistakeAlmanacModel", "numberEnd", "(III)I"⟩, 8), (⟨"MistakeAlmanacModel", "digit", "(I)I"⟩, 8), (⟨"MistakeAlmanacModel", "days", "(I)I"⟩, 8), (⟨"MistakeAlmanacModel", "numberIn", "(II)I"⟩, 8), (⟨"MistakeAlmanacModel", "toldOf", "(I)I"⟩, 8), (⟨"MistakeAlmanacModel", "frostOf", "(I)I"⟩, 8), (⟨"MistakeAlmanacModel", "isKnown", "(II)Z"⟩, 8), (⟨"MistakeAlmanacModel", "looks", "(I)V"⟩, 8), (⟨"MistakeAlmanacModel", "meanBySums", "(I)I"⟩, 8), (⟨"MistakeAlmanacModel", "sumUpTo", "(I)I"⟩, 8)]
theorem lw_r2 : ∀ q ∈ lw_privs_2, lw_okq q := List.forall_mem_cons.mpr ⟨lw_p16, List.forall_mem_cons.mpr ⟨lw_p17, List.forall_mem_cons.mpr ⟨lw_p18, List.forall_mem_cons.mpr ⟨lw_p19, List.forall_mem_cons.mpr ⟨lw_p20, List.forall_mem_cons.mpr ⟨lw_p21, List.forall_mem_cons.mpr ⟨lw_p22, List.forall_mem_cons.mpr ⟨lw_p23, List.forall_mem_cons.mpr ⟨lw_p24, List.forall_mem_cons.mpr ⟨lw_p25, List.forall_mem_cons.mpr ⟨lw_p26, List.forall_mem_cons.mpr ⟨lw_p27, List.forall_mem_cons.mpr ⟨lw_p28, List.forall_mem_cons.mpr ⟨lw_p29, List.forall_mem_cons.mpr ⟨lw_p30, List.forall_mem_cons.mpr ⟨lw_p31, fun _ h => absurd h List.not_mem_nil⟩⟩⟩⟩⟩⟩⟩⟩⟩⟩⟩⟩⟩⟩⟩⟩
theorem lw_p32 : lw_okq (⟨"MistakeAlmanacModel", "sumNow", "()I"⟩, 8) := ⟨⟨by decide +kernel, by decide +kernel⟩, List.mem_of_getElem? (i := 506) (by decide +kernel), List.mem_of_getElem? (i := 734) (by decide +kernel), List.mem_of_getElem? (i := 735) (by decide +kernel)⟩
theorem lw_p33 : lw_okq (⟨"MistakeAlmanacModel", "sumOfSizes", "()I"⟩, 8) := ⟨⟨by decide +kernel, by decide +kernel⟩, List.mem_of_getElem? (i := 506) (by decide +kernel), List.mem_of_getElem? (i := 738) (by decide +kernel), List.mem_of_getElem? (i := 739) (by decide +kernel)⟩
theorem lw_p34 : lw_okq (⟨"MistakeAlmanacModel", "sumBefore", "()I"⟩, 8) := ⟨⟨by decide +kernel, by decide +kernel⟩, List.mem_of_getElem? (i := 506) (by decide +kernel), List.mem_of_getElem? (i := 742) (by decide +kernel), List.mem_of_getElem? (i := 743) (by decide +kernel)⟩
theorem lw_p35 : lw_okq (⟨"MistakeAlmanacModel", "wrongs", "(I)I"⟩, 8) := ⟨⟨by decide +kernel, by decide +kernel⟩, List.mem_of_getElem? (i := 506) (by decide +kernel), List.mem_of_getElem? (i := 759) (by decide +kernel), List.mem_of_getElem? (i := 760) (by decide +kernel)⟩
theorem lw_p36 : lw_okq (⟨"MistakeAlmanacModel", "sumWith", "(I)I"⟩, 8) := ⟨⟨by decide +kernel, by decide +kernel⟩, List.mem_of_getElem? (i := 506) (by decide +kernel), List.mem_of_getElem? (i := 767) (by decide +kernel), List.mem_of_getElem? (i := 768) (by decide +kernel)⟩
theorem lw_p37 : lw_okq (⟨"MistakeAlmanacModel", "copies", "()V"⟩, 8) := ⟨⟨by decide +kernel, by decide +kernel⟩, List.mem_of_getElem? (i := 506) (by decide +kernel), List.mem_of_getElem? (i := 775) (by decide +kernel), List.mem_of_getElem? (i := 776) (by decide +kernel)⟩
def lw_privs_3 : List (MethodName × Nat) := [(⟨"MistakeAlmanacModel", "sumNow", "()I"⟩, 8), (⟨"MistakeAlmanacModel", "sumOfSizes", "()I"⟩, 8), (⟨"MistakeAlmanacModel", "sumBefore", "()I"⟩, 8), (⟨"MistakeAlmanacModel", "wrongs", "(I)I"⟩, 8), (⟨"MistakeAlmanacModel", "sumWith", "(I)I"⟩, 8), (⟨"MistakeAlmanacModel", "copies", "()V"⟩, 8)]
theorem lw_r3 : ∀ q ∈ lw_privs_3, lw_okq q := List.forall_mem_cons.mpr ⟨lw_p32, List.forall_mem_cons.mpr ⟨lw_p33, List.forall_mem_cons.mpr ⟨lw_p34, List.forall_mem_cons.mpr ⟨lw_p35, List.forall_mem_cons.mpr ⟨lw_p36, List.forall_mem_cons.mpr ⟨lw_p37, fun _ h => absurd h List.not_mem_nil⟩⟩⟩⟩⟩⟩
def lw_privs : List (MethodName × Nat) := lw_privs_1 ++ (lw_privs_2 ++ (lw_privs_3))
def lw_tbl : List Cond := k2_sels lw_privs ++ tables_1
theorem lw_privs_ok : ∀ q ∈ lw_privs, lw_okq q := by
  show ∀ q ∈ lw_privs_1 ++ (lw_privs_2 ++ (lw_privs_3)), lw_okq q
  exact List.forall_mem_append.mpr ⟨lw_r1, List.forall_mem_append.mpr ⟨lw_r2, lw_r3⟩⟩
/-- the streams that the claim lets the run draw from -/
abbrev lw_cs : List Choice := [Jvm.Choice.named "NaN.bits"]
theorem lw_bits : nanBits ∈ lw_cs := by first | decide | exact List.mem_cons_self | simp [lw_cs, nanBits]

def RX0 : String := "MistakeAlmanac$DayText"
def TX0 : u_T := fun k => match k with
  | 0 => ("MistakeAlmanac$DayText", "characters", "[C", true)
  | 1 => ("MistakeAlmanac$DayText", "length", "I", false)
  | 2 => ("MistakeAlmanac$DayText", "place", "I", false)
  | 3 => ("MistakeAlmanac$DayText", "number", "I", false)
  | 4 => ("MistakeAlmanac$DayText", "warmth", "I", false)
  | _ => ("MistakeAlmanac$DayText", "inARow", "I", false)
def tyX0 : Nat → FieldType := fun k => match k with
  | 0 => .array .char
  | 1 => .int
  | 2 => .int
  | 3 => .int
  | 4 => .int
  | _ => .int
abbrev wsX00 : List Cond := u_ws RX0 TX0 6
theorem nmX0 : ∀ a, a < 6 → ∀ b, b < 6 → a ≠ b → (TX0 a).2.1 ≠ (TX0 b).2.1 := by decide +kernel
theorem tyX0_ok : ∀ k, k < 6 → parseFieldDescriptor (TX0 k).2.2.1 = some (tyX0 k) := by decide +kernel
abbrev cX0_init : ByteArray := prog_2_method_1_code
def yX0_init : MethodName := ⟨RX0, "<init>", "()V"⟩
abbrev cX0_goToStart : ByteArray := prog_2_method_2_code
def yX0_goToStart : MethodName := ⟨RX0, "goToStart", "()V"⟩
abbrev cX0_findFault : ByteArray := prog_2_method_3_code
def yX0_findFault : MethodName := ⟨RX0, "findFault", "()I"⟩
abbrev cX0_readEntry : ByteArray := prog_2_method_4_code
def yX0_readEntry : MethodName := ⟨RX0, "readEntry", "()Z"⟩
abbrev cX0_skipSeparator : ByteArray := prog_2_method_5_code
def yX0_skipSeparator : MethodName := ⟨RX0, "skipSeparator", "()V"⟩
abbrev cX0_isAtPlace : ByteArray := prog_2_method_6_code
def yX0_isAtPlace : MethodName := ⟨RX0, "isAtPlace", "(C)Z"⟩
abbrev cX0_digitAtPlace : ByteArray := prog_2_method_7_code
def yX0_digitAtPlace : MethodName := ⟨RX0, "digitAtPlace", "()I"⟩
abbrev cX0_readNumber : ByteArray := prog_2_method_8_code
def yX0_readNumber : MethodName := ⟨RX0, "readNumber", "(II)Z"⟩
def RX1 : String := "MistakeAlmanac$Reader"
def TX1 : u_T := fun k => match k with
  | 0 => ("MistakeAlmanac$Reader", "purse", "I", false)
  | 1 => ("MistakeAlmanac$Reader", "coins", "I", false)
  | 2 => ("MistakeAlmanac$Reader", "onFrost", "Z", false)
  | 3 => ("MistakeAlmanac$Reader", "won", "I", false)
  | _ => ("MistakeAlmanac$Reader", "lost", "I", false)
def tyX1 : Nat → FieldType := fun k => match k with
  | 0 => .int
  | 1 => .int
  | 2 => .boolean
  | 3 => .int
  | _ => .int
abbrev wsX10 : List Cond := u_ws RX1 TX1 5
theorem nmX1 : ∀ a, a < 5 → ∀ b, b < 5 → a ≠ b → (TX1 a).2.1 ≠ (TX1 b).2.1 := by decide +kernel
theorem tyX1_ok : ∀ k, k < 5 → parseFieldDescriptor (TX1 k).2.2.1 = some (tyX1 k) := by decide +kernel
abbrev cX1_init : ByteArray := prog_3_method_1_code
def yX1_init : MethodName := ⟨RX1, "<init>", "()V"⟩
abbrev cX1_copyFrom : ByteArray := prog_3_method_2_code
def yX1_copyFrom : MethodName := ⟨RX1, "copyFrom", "(LMistakeAlmanac$Reader;)V"⟩
abbrev cX1_winnings : ByteArray := prog_3_method_3_code
def yX1_winnings : MethodName := ⟨RX1, "winnings", "(ZZI)I"⟩
abbrev cX1_dropBet : ByteArray := prog_3_method_4_code
def yX1_dropBet : MethodName := ⟨RX1, "dropBet", "()V"⟩
def RX2 : String := "MistakeAlmanac$Saint"
def TX2 : u_T := fun k => match k with
  | 0 => ("MistakeAlmanac$Saint", "feast", "I", false)
  | 1 => ("MistakeAlmanac$Saint", "bound", "I", false)
  | 2 => ("MistakeAlmanac$Saint", "effect", "I", false)
  | _ => ("MistakeAlmanac$Saint", "length", "I", false)
def tyX2 : Nat → FieldType := fun k => match k with
  | 0 => .int
  | 1 => .int
  | 2 => .int
  | _ => .int
abbrev wsX20 : List Cond := u_ws RX2 TX2 4
theorem nmX2 : ∀ a, a < 4 → ∀ b, b < 4 → a ≠ b → (TX2 a).2.1 ≠ (TX2 b).2.1 := by decide +kernel
theorem tyX2_ok : ∀ k, k < 4 → parseFieldDescriptor (TX2 k).2.2.1 = some (tyX2 k) := by decide +kernel
abbrev cX2_init : ByteArray := prog_4_method_1_code
def yX2_init : MethodName := ⟨RX2, "<init>", "()V"⟩
abbrev cX2_copyFrom : ByteArray := prog_4_method_2_code
def yX2_copyFrom : MethodName := ⟨RX2, "copyFrom", "(LMistakeAlmanac$Saint;)V"⟩
abbrev cX2_reaches : ByteArray := prog_4_method_3_code
def yX2_reaches : MethodName := ⟨RX2, "reaches", "(I)Z"⟩
def RX3 : String := "MistakeAlmanac$State"
def TX3 : u_T := fun k => match k with
  | 0 => ("MistakeAlmanac$State", "settings", "[I", true)
  | 1 => ("MistakeAlmanac$State", "years", "[LMistakeAlmanac$Year;", true)
  | 2 => ("MistakeAlmanac$State", "saints", "[LMistakeAlmanac$Saint;", true)
  | 3 => ("MistakeAlmanac$State", "readers", "[LMistakeAlmanac$Reader;", true)
  | 4 => ("MistakeAlmanac$State", "saintCount", "I", false)
  | 5 => ("MistakeAlmanac$State", "year", "I", false)
  | 6 => ("MistakeAlmanac$State", "day", "I", false)
  | 7 => ("MistakeAlmanac$State", "measured", "I", false)
  | 8 => ("MistakeAlmanac$State", "sumWithoutSigns", "I", false)
  | 9 => ("MistakeAlmanac$State", "hits", "I", false)
  | 10 => ("MistakeAlmanac$State", "misses", "I", false)
  | 11 => ("MistakeAlmanac$State", "falseAlarms", "I", false)
  | _ => ("MistakeAlmanac$State", "purse", "I", false)
def tyX3 : Nat → FieldType := fun k => match k with
  | 0 => .array .int
  | 1 => .array (.object "MistakeAlmanac$Year")
  | 2 => .array (.object "MistakeAlmanac$Saint")
  | 3 => .array (.object "MistakeAlmanac$Reader")
  | 4 => .int
  | 5 => .int
  | 6 => .int
  | 7 => .int
  | 8 => .int
  | 9 => .int
  | 10 => .int
  | 11 => .int
  | _ => .int
abbrev wsX30 : List Cond := u_ws RX3 TX3 13
theorem nmX3 : ∀ a, a < 13 → ∀ b, b < 13 → a ≠ b → (TX3 a).2.1 ≠ (TX3 b).2.1 := by decide +kernel
theorem tyX3_ok : ∀ k, k < 13 → parseFieldDescriptor (TX3 k).2.2.1 = some (tyX3 k) := by decide +kernel
abbrev cX3_init : ByteArray := prog_5_method_1_code
def yX3_init : MethodName := ⟨RX3, "<init>", "()V"⟩
abbrev cX3_copyFrom : ByteArray := prog_5_method_2_code
def yX3_copyFrom : MethodName := ⟨RX3, "copyFrom", "(LMistakeAlmanac$State;)V"⟩
abbrev cX3_yearOfNow : ByteArray := prog_5_method_3_code
def yX3_yearOfNow : MethodName := ⟨RX3, "yearOfNow", "()LMistakeAlmanac$Year;"⟩
abbrev cX3_knownYears : ByteArray := prog_5_method_4_code
def yX3_knownYears : MethodName := ⟨RX3, "knownYears", "()I"⟩
abbrev cX3_endedYear : ByteArray := prog_5_method_5_code
def yX3_endedYear : MethodName := ⟨RX3, "endedYear", "(I)LMistakeAlmanac$Year;"⟩
abbrev cX3_isTelling : ByteArray := prog_5_method_6_code
def yX3_isTelling : MethodName := ⟨RX3, "isTelling", "(LMistakeAlmanac$Saint;)Z"⟩
abbrev cX3_foretoldOf : ByteArray := prog_5_method_7_code
def yX3_foretoldOf : MethodName := ⟨RX3, "foretoldOf", "(I)I"⟩
abbrev cX3_isFrostForetold : ByteArray := prog_5_method_8_code
def yX3_isFrostForetold : MethodName := ⟨RX3, "isFrostForetold", "(I)Z"⟩
abbrev cX3_removeSaint : ByteArray := prog_5_method_9_code
def yX3_removeSaint : MethodName := ⟨RX3, "removeSaint", "(I)V"⟩
abbrev cX3_passDay : ByteArray := prog_5_method_10_code
def yX3_passDay : MethodName := ⟨RX3, "passDay", "(I)I"⟩
abbrev cX3_countFrost : ByteArray := prog_5_method_11_code
def yX3_countFrost : MethodName := ⟨RX3, "countFrost", "(ZZ)V"⟩
abbrev cX3_settleBets : ByteArray := prog_5_method_12_code
def yX3_settleBets : MethodName := ⟨RX3, "settleBets", "(ZZ)V"⟩
abbrev cX3_endYear : ByteArray := prog_5_method_13_code
def yX3_endYear : MethodName := ⟨RX3, "endYear", "()V"⟩
def RX4 : String := "MistakeAlmanac$Year"
def TX4 : u_T := fun k => match k with
  | 0 => ("MistakeAlmanac$Year", "bases", "[I", true)
  | 1 => ("MistakeAlmanac$Year", "foretold", "[I", true)
  | 2 => ("MistakeAlmanac$Year", "warmths", "[I", true)
  | 3 => ("MistakeAlmanac$Year", "mistakes", "[I", true)
  | _ => ("MistakeAlmanac$Year", "sumWithoutSigns", "I", false)
def tyX4 : Nat → FieldType := fun k => match k with
  | 0 => .array .int
  | 1 => .array .int
  | 2 => .array .int
  | 3 => .array .int
  | _ => .int
abbrev wsX40 : List Cond := u_ws RX4 TX4 5
theorem nmX4 : ∀ a, a < 5 → ∀ b, b < 5 → a ≠ b → (TX4 a).2.1 ≠ (TX4 b).2.1 := by decide +kernel
theorem tyX4_ok : ∀ k, k < 5 → parseFieldDescriptor (TX4 k).2.2.1 = some (tyX4 k) := by decide +kernel
abbrev cX4_init : ByteArray := prog_6_method_1_code
def yX4_init : MethodName := ⟨RX4, "<init>", "()V"⟩
abbrev cX4_copyFrom : ByteArray := prog_6_method_2_code
def yX4_copyFrom : MethodName := ⟨RX4, "copyFrom", "(LMistakeAlmanac$Year;)V"⟩
abbrev cX4_beginBehind : ByteArray := prog_6_method_3_code
def yX4_beginBehind : MethodName := ⟨RX4, "beginBehind", "(LMistakeAlmanac$Year;II)V"⟩
abbrev cX4_meanByDays : ByteArray := prog_6_method_4_code
def yX4_meanByDays : MethodName := ⟨RX4, "meanByDays", "(II)I"⟩
abbrev cX4_meanBySums : ByteArray := prog_6_method_5_code
def yX4_meanBySums : MethodName := ⟨RX4, "meanBySums", "(II)I"⟩
abbrev cX4_sumBefore : ByteArray := prog_6_method_6_code
def yX4_sumBefore : MethodName := ⟨RX4, "sumBefore", "(I)I"⟩
abbrev cX4_wrongFrosts : ByteArray := prog_6_method_7_code
def yX4_wrongFrosts : MethodName := ⟨RX4, "wrongFrosts", "(I)I"⟩
def RX5 : String := "MistakeAlmanac"
def TX5 : u_T := fun k => match k with
  | 0 => ("MistakeAlmanac", "text", "LMistakeAlmanac$DayText;", true)
  | 1 => ("MistakeAlmanac", "history", "[LMistakeAlmanac$State;", true)
  | 2 => ("MistakeAlmanac", "snapshot", "LMistakeAlmanac$State;", true)
  | 3 => ("MistakeAlmanac", "means", "[I", true)
  | 4 => ("MistakeAlmanac", "now", "LMistakeAlmanac$State;", false)
  | 5 => ("MistakeAlmanac", "historySize", "I", false)
  | _ => ("MistakeAlmanac", "kept", "Z", false)
def tyX5 : Nat → FieldType := fun k => match k with
  | 0 => .object "MistakeAlmanac$DayText"
  | 1 => .array (.object "MistakeAlmanac$State")
  | 2 => .object "MistakeAlmanac$State"
  | 3 => .array .int
  | 4 => .object "MistakeAlmanac$State"
  | 5 => .int
  | _ => .boolean
abbrev wsX50 : List Cond := u_ws RX5 TX5 7
theorem nmX5 : ∀ a, a < 7 → ∀ b, b < 7 → a ≠ b → (TX5 a).2.1 ≠ (TX5 b).2.1 := by decide +kernel
theorem tyX5_ok : ∀ k, k < 7 → parseFieldDescriptor (TX5 k).2.2.1 = some (tyX5 k) := by decide +kernel
abbrev cX5_init : ByteArray := prog_1_method_1_code
def yX5_init : MethodName := ⟨RX5, "<init>", "()V"⟩
abbrev cX5_measure : ByteArray := prog_1_method_2_code
def yX5_measure : MethodName := ⟨RX5, "measure", "(I)I"⟩
abbrev cX5_measureAll : ByteArray := prog_1_method_3_code
def yX5_measureAll : MethodName := ⟨RX5, "measureAll", "()I"⟩
abbrev cX5_base : ByteArray := prog_1_method_4_code
def yX5_base : MethodName := ⟨RX5, "base", "(II)I"⟩
abbrev cX5_saint : ByteArray := prog_1_method_5_code
def yX5_saint : MethodName := ⟨RX5, "saint", "(IIII)I"⟩
abbrev cX5_strike : ByteArray := prog_1_method_6_code
def yX5_strike : MethodName := ⟨RX5, "strike", "(I)I"⟩
abbrev cX5_set : ByteArray := prog_1_method_7_code
def yX5_set : MethodName := ⟨RX5, "set", "(II)I"⟩
abbrev cX5_bet : ByteArray := prog_1_method_8_code
def yX5_bet : MethodName := ⟨RX5, "bet", "(IZI)I"⟩
abbrev cX5_takeBack : ByteArray := prog_1_method_9_code
def yX5_takeBack : MethodName := ⟨RX5, "takeBack", "(I)I"⟩
abbrev cX5_type : ByteArray := prog_1_method_10_code
def yX5_type : MethodName := ⟨RX5, "type", "(C)I"⟩
abbrev cX5_clearText : ByteArray := prog_1_method_11_code
def yX5_clearText : MethodName := ⟨RX5, "clearText", "()I"⟩
abbrev cX5_fault : ByteArray := prog_1_method_12_code
def yX5_fault : MethodName := ⟨RX5, "fault", "()I"⟩
abbrev cX5_undo : ByteArray := prog_1_method_13_code
def yX5_undo : MethodName := ⟨RX5, "undo", "()I"⟩
abbrev cX5_keep : ByteArray := prog_1_method_14_code
def yX5_keep : MethodName := ⟨RX5, "keep", "()I"⟩
abbrev cX5_restore : ByteArray := prog_1_method_15_code
def yX5_restore : MethodName := ⟨RX5, "restore", "()I"⟩
abbrev cX5_dayOf : ByteArray := prog_1_method_16_code
def yX5_dayOf : MethodName := ⟨RX5, "dayOf", "(II)I"⟩
abbrev cX5_past : ByteArray := prog_1_method_17_code
def yX5_past : MethodName := ⟨RX5, "past", "(III)I"⟩
abbrev cX5_mean : ByteArray := prog_1_method_18_code
def yX5_mean : MethodName := ⟨RX5, "mean", "(III)I"⟩
abbrev cX5_saintOf : ByteArray := prog_1_method_19_code
def yX5_saintOf : MethodName := ⟨RX5, "saintOf", "(II)I"⟩
abbrev cX5_readerOf : ByteArray := prog_1_method_20_code
def yX5_readerOf : MethodName := ⟨RX5, "readerOf", "(II)I"⟩
abbrev cX5_count : ByteArray := prog_1_method_21_code
def yX5_count : MethodName := ⟨RX5, "count", "(I)I"⟩
abbrev cX5_meanMistake : ByteArray := prog_1_method_22_code
def yX5_meanMistake : MethodName := ⟨RX5, "meanMistake", "()F"⟩
abbrev cX5_nextBase : ByteArray := prog_1_method_23_code
def yX5_nextBase : MethodName := ⟨RX5, "nextBase", "(I)I"⟩
abbrev cX5_bestBound : ByteArray := prog_1_method_24_code
def yX5_bestBound : MethodName := ⟨RX5, "bestBound", "(I)I"⟩
abbrev cX5_bestRate : ByteArray := prog_1_method_25_code
def yX5_bestRate : MethodName := ⟨RX5, "bestRate", "(I)I"⟩
abbrev cX5_ifMeasured : ByteArray := prog_1_method_26_code
def yX5_ifMeasured : MethodName := ⟨RX5, "ifMeasured", "(II)I"⟩
abbrev cX5_remember : ByteArray := prog_1_method_27_code
def yX5_remember : MethodName := ⟨RX5, "remember", "()V"⟩
abbrev cX5_sumWithRate : ByteArray := prog_1_method_28_code
def yX5_sumWithRate : MethodName := ⟨RX5, "sumWithRate", "(LMistakeAlmanac$Year;LMistakeAlmanac$Year;I)I"⟩
abbrev cX5_isIndex : ByteArray := prog_1_method_29_code
def yX5_isIndex : MethodName := ⟨RX5, "isIndex", "(II)Z"⟩
abbrev cX5_isWithin : ByteArray := prog_1_method_30_code
def yX5_isWithin : MethodName := ⟨RX5, "isWithin", "(II)Z"⟩
abbrev cX5_isFrost : ByteArray := prog_1_method_31_code
def yX5_isFrost : MethodName := ⟨RX5, "isFrost", "(I)Z"⟩
abbrev cX5_oneIf : ByteArray := prog_1_method_32_code
def yX5_oneIf : MethodName := ⟨RX5, "oneIf", "(Z)I"⟩
abbrev cX5_clampWarmth : ByteArray := prog_1_method_33_code
def yX5_clampWarmth : MethodName := ⟨RX5, "clampWarmth", "(I)I"⟩
abbrev cX5_mended : ByteArray := prog_1_method_34_code
def yX5_mended : MethodName := ⟨RX5, "mended", "(III)I"⟩
def RX6 : String := "MistakeAlmanacModel"
def TX6 : u_T := fun k => match k with
  | 0 => ("MistakeAlmanacModel", "s", "[I", true)
  | 1 => ("MistakeAlmanacModel", "past", "[I", true)
  | 2 => ("MistakeAlmanacModel", "known", "I", false)
  | 3 => ("MistakeAlmanacModel", "snap", "[I", true)
  | 4 => ("MistakeAlmanacModel", "isKept", "Z", false)
  | 5 => ("MistakeAlmanacModel", "text", "[I", true)
  | 6 => ("MistakeAlmanacModel", "length", "I", false)
  | _ => ("MistakeAlmanacModel", "mistakes", "[I", true)
def tyX6 : Nat → FieldType := fun k => match k with
  | 0 => .array .int
  | 1 => .array .int
  | 2 => .int
  | 3 => .array .int
  | 4 => .boolean
  | 5 => .array .int
  | 6 => .int
  | _ => .array .int
abbrev wsX60 : List Cond := u_ws RX6 TX6 8
theorem nmX6 : ∀ a, a < 8 → ∀ b, b < 8 → a ≠ b → (TX6 a).2.1 ≠ (TX6 b).2.1 := by decide +kernel
theorem tyX6_ok : ∀ k, k < 8 → parseFieldDescriptor (TX6 k).2.2.1 = some (tyX6 k) := by decide +kernel
abbrev cX6_init : ByteArray := prog_8_method_1_code
def yX6_init : MethodName := ⟨RX6, "<init>", "()V"⟩
abbrev cX6_in : ByteArray := prog_8_method_3_code
def yX6_in : MethodName := ⟨RX6, "in", "(III)Z"⟩
abbrev cX6_isDay : ByteArray := prog_8_method_4_code
def yX6_isDay : MethodName := ⟨RX6, "isDay", "(I)Z"⟩
abbrev cX6_isReader : ByteArray := prog_8_method_5_code
def yX6_isReader : MethodName := ⟨RX6, "isReader", "(I)Z"⟩
abbrev cX6_reader : ByteArray := prog_8_method_6_code
def yX6_reader : MethodName := ⟨RX6, "reader", "(II)I"⟩
abbrev cX6_saintAt : ByteArray := prog_8_method_7_code
def yX6_saintAt : MethodName := ⟨RX6, "saintAt", "(II)I"⟩
abbrev cX6_size : ByteArray := prog_8_method_8_code
def yX6_size : MethodName := ⟨RX6, "size", "(I)I"⟩
abbrev cX6_bounded : ByteArray := prog_8_method_9_code
def yX6_bounded : MethodName := ⟨RX6, "bounded", "(I)I"⟩
abbrev cX6_copies : ByteArray := prog_8_method_10_code
def yX6_copies : MethodName := ⟨RX6, "copies", "()V"⟩
abbrev cX6_remembers : ByteArray := prog_8_method_11_code
def yX6_remembers : MethodName := ⟨RX6, "remembers", "()V"⟩
abbrev cX6_tells : ByteArray := prog_8_method_12_code
def yX6_tells : MethodName := ⟨RX6, "tells", "(II)Z"⟩
abbrev cX6_foretold : ByteArray := prog_8_method_13_code
def yX6_foretold : MethodName := ⟨RX6, "foretold", "(II)I"⟩
abbrev cX6_meanAt : ByteArray := prog_8_method_14_code
def yX6_meanAt : MethodName := ⟨RX6, "meanAt", "(I)I"⟩
abbrev cX6_sumUpTo : ByteArray := prog_8_method_15_code
def yX6_sumUpTo : MethodName := ⟨RX6, "sumUpTo", "(I)I"⟩
abbrev cX6_meanBySums : ByteArray := prog_8_method_16_code
def yX6_meanBySums : MethodName := ⟨RX6, "meanBySums", "(I)I"⟩
abbrev cX6_looks : ByteArray := prog_8_method_17_code
def yX6_looks : MethodName := ⟨RX6, "looks", "(I)V"⟩
abbrev cX6_looksNow : ByteArray := prog_8_method_18_code
def yX6_looksNow : MethodName := ⟨RX6, "looksNow", "(I)V"⟩
abbrev cX6_mended : ByteArray := prog_8_method_19_code
def yX6_mended : MethodName := ⟨RX6, "mended", "(III)I"⟩
abbrev cX6_settles : ByteArray := prog_8_method_20_code
def yX6_settles : MethodName := ⟨RX6, "settles", "(IIZZ)V"⟩
abbrev cX6_ends : ByteArray := prog_8_method_21_code
def yX6_ends : MethodName := ⟨RX6, "ends", "(I)V"⟩
abbrev cX6_measures : ByteArray := prog_8_method_22_code
def yX6_measures : MethodName := ⟨RX6, "measures", "(II)I"⟩
abbrev cX6_measure : ByteArray := prog_8_method_23_code
def yX6_measure : MethodName := ⟨RX6, "measure", "(I)I"⟩
abbrev cX6_base : ByteArray := prog_8_method_24_code
def yX6_base : MethodName := ⟨RX6, "base", "(II)I"⟩
abbrev cX6_saint : ByteArray := prog_8_method_25_code
def yX6_saint : MethodName := ⟨RX6, "saint", "(IIII)I"⟩
abbrev cX6_isSaint : ByteArray := prog_8_method_26_code
def yX6_isSaint : MethodName := ⟨RX6, "isSaint", "(I)Z"⟩
abbrev cX6_strike : ByteArray := prog_8_method_27_code
def yX6_strike : MethodName := ⟨RX6, "strike", "(I)I"⟩
abbrev cX6_canSet : ByteArray := prog_8_method_28_code
def yX6_canSet : MethodName := ⟨RX6, "canSet", "(II)Z"⟩
abbrev cX6_set : ByteArray := prog_8_method_29_code
def yX6_set : MethodName := ⟨RX6, "set", "(II)I"⟩
abbrev cX6_bet : ByteArray := prog_8_method_30_code
def yX6_bet : MethodName := ⟨RX6, "bet", "(IZI)I"⟩
abbrev cX6_takeBack : ByteArray := prog_8_method_31_code
def yX6_takeBack : MethodName := ⟨RX6, "takeBack", "(I)I"⟩
abbrev cX6_type : ByteArray := prog_8_method_32_code
def yX6_type : MethodName := ⟨RX6, "type", "(C)I"⟩
abbrev cX6_clearText : ByteArray := prog_8_method_33_code
def yX6_clearText : MethodName := ⟨RX6, "clearText", "()I"⟩
abbrev cX6_sign : ByteArray := prog_8_method_34_code
def yX6_sign : MethodName := ⟨RX6, "sign", "(I)I"⟩
abbrev cX6_digit : ByteArray := prog_8_method_35_code
def yX6_digit : MethodName := ⟨RX6, "digit", "(I)I"⟩
abbrev cX6_numberEnd : ByteArray := prog_8_method_36_code
def yX6_numberEnd : MethodName := ⟨RX6, "numberEnd", "(III)I"⟩
abbrev cX6_numberIn : ByteArray := prog_8_method_37_code
def yX6_numberIn : MethodName := ⟨RX6, "numberIn", "(II)I"⟩
abbrev cX6_warmthEnd : ByteArray := prog_8_method_38_code
def yX6_warmthEnd : MethodName := ⟨RX6, "warmthEnd", "(I)I"⟩
abbrev cX6_dayEnd : ByteArray := prog_8_method_39_code
def yX6_dayEnd : MethodName := ⟨RX6, "dayEnd", "(I)I"⟩
abbrev cX6_fault : ByteArray := prog_8_method_40_code
def yX6_fault : MethodName := ⟨RX6, "fault", "()I"⟩
abbrev cX6_days : ByteArray := prog_8_method_41_code
def yX6_days : MethodName := ⟨RX6, "days", "(I)I"⟩
abbrev cX6_measureAll : ByteArray := prog_8_method_42_code
def yX6_measureAll : MethodName := ⟨RX6, "measureAll", "()I"⟩
abbrev cX6_undo : ByteArray := prog_8_method_43_code
def yX6_undo : MethodName := ⟨RX6, "undo", "()I"⟩
abbrev cX6_keep : ByteArray := prog_8_method_44_code
def yX6_keep : MethodName := ⟨RX6, "keep", "()I"⟩
abbrev cX6_restore : ByteArray := prog_8_method_45_code
def yX6_restore : MethodName := ⟨RX6, "restore", "()I"⟩
abbrev cX6_toldOf : ByteArray := prog_8_method_46_code
def yX6_toldOf : MethodName := ⟨RX6, "toldOf", "(I)I"⟩
abbrev cX6_frostOf : ByteArray := prog_8_method_47_code
def yX6_frostOf : MethodName := ⟨RX6, "frostOf", "(I)I"⟩
abbrev cX6_dayOf : ByteArray := prog_8_method_48_code
def yX6_dayOf : MethodName := ⟨RX6, "dayOf", "(II)I"⟩
abbrev cX6_isKnown : ByteArray := prog_8_method_49_code
def yX6_isKnown : MethodName := ⟨RX6, "isKnown", "(II)Z"⟩
abbrev cX6_past : ByteArray := prog_8_method_50_code
def yX6_past : MethodName := ⟨RX6, "past", "(III)I"⟩
abbrev cX6_mean : ByteArray := prog_8_method_51_code
def yX6_mean : MethodName := ⟨RX6, "mean", "(III)I"⟩
abbrev cX6_saintOf : ByteArray := prog_8_method_52_code
def yX6_saintOf : MethodName := ⟨RX6, "saintOf", "(II)I"⟩
abbrev cX6_readerOf : ByteArray := prog_8_method_53_code
def yX6_readerOf : MethodName := ⟨RX6, "readerOf", "(II)I"⟩
abbrev cX6_sumOfSizes : ByteArray := prog_8_method_54_code
def yX6_sumOfSizes : MethodName := ⟨RX6, "sumOfSizes", "()I"⟩
abbrev cX6_sumNow : ByteArray := prog_8_method_55_code
def yX6_sumNow : MethodName := ⟨RX6, "sumNow", "()I"⟩
abbrev cX6_sumBefore : ByteArray := prog_8_method_56_code
def yX6_sumBefore : MethodName := ⟨RX6, "sumBefore", "()I"⟩
abbrev cX6_count : ByteArray := prog_8_method_57_code
def yX6_count : MethodName := ⟨RX6, "count", "(I)I"⟩
abbrev cX6_meanMistake : ByteArray := prog_8_method_58_code
def yX6_meanMistake : MethodName := ⟨RX6, "meanMistake", "()F"⟩
abbrev cX6_nextBase : ByteArray := prog_8_method_59_code
def yX6_nextBase : MethodName := ⟨RX6, "nextBase", "(I)I"⟩
abbrev cX6_wrongs : ByteArray := prog_8_method_60_code
def yX6_wrongs : MethodName := ⟨RX6, "wrongs", "(I)I"⟩
abbrev cX6_bestBound : ByteArray := prog_8_method_61_code
def yX6_bestBound : MethodName := ⟨RX6, "bestBound", "(I)I"⟩
abbrev cX6_sumWith : ByteArray := prog_8_method_62_code
def yX6_sumWith : MethodName := ⟨RX6, "sumWith", "(I)I"⟩
abbrev cX6_bestRate : ByteArray := prog_8_method_63_code
def yX6_bestRate : MethodName := ⟨RX6, "bestRate", "(I)I"⟩
abbrev cX6_ifMeasured : ByteArray := prog_8_method_64_code
def yX6_ifMeasured : MethodName := ⟨RX6, "ifMeasured", "(II)I"⟩
def RJ9 : String := "java/lang/Math"
def TJ9 : u_T := fun k => match k with
  | _ => ("", "", "", false)
def tyJ9 : Nat → FieldType := fun k => match k with
  | _ => .int
abbrev wsJ90 : List Cond := u_ws RJ9 TJ9 0
theorem nmJ9 : ∀ a, a < 0 → ∀ b, b < 0 → a ≠ b → (TJ9 a).2.1 ≠ (TJ9 b).2.1 := by decide +kernel
theorem tyJ9_ok : ∀ k, k < 0 → parseFieldDescriptor (TJ9 k).2.2.1 = some (tyJ9 k) := by decide +kernel
abbrev cJ9_abs_0f7a4 : ByteArray := prog_9_method_59_code
def yJ9_abs_0f7a4 : MethodName := ⟨RJ9, "abs", "(I)I"⟩
abbrev cJ9_max_7cf53 : ByteArray := prog_9_method_65_code
def yJ9_max_7cf53 : MethodName := ⟨RJ9, "max", "(II)I"⟩
abbrev cJ9_min_7cf53 : ByteArray := prog_9_method_69_code
def yJ9_min_7cf53 : MethodName := ⟨RJ9, "min", "(II)I"⟩
def RJ10 : String := "java/lang/System"
def TJ10 : u_T := fun k => match k with
  | _ => ("", "", "", false)
def tyJ10 : Nat → FieldType := fun k => match k with
  | _ => .int
abbrev wsJ100 : List Cond := u_ws RJ10 TJ10 0
theorem nmJ10 : ∀ a, a < 0 → ∀ b, b < 0 → a ≠ b → (TJ10 a).2.1 ≠ (TJ10 b).2.1 := by decide +kernel
theorem tyJ10_ok : ∀ k, k < 0 → parseFieldDescriptor (TJ10 k).2.2.1 = some (tyJ10 k) := by decide +kernel
def RL : String := "MistakeAlmanacLaw"
abbrev cL_law : ByteArray := code
def yL_law : MethodName := ⟨RL, "law", "([I)Z"⟩
abbrev vwCl : List vw_C := [(RX0, TX0, 6), (RX1, TX1, 5), (RX2, TX2, 4), (RX3, TX3, 13), (RX4, TX4, 5), (RX5, TX5, 7), (RX6, TX6, 8)]
