section
-- ===== PART A: goes FIRST, ahead of the names: the tables' words, and 'selects' of the private methods out of them =====
/-- a private method of a class that the tables say can be made, by its rows of tables_1 -/
def lw_okq (q : MethodName × Nat) : Prop := (q.1.cls ≠ "java/lang/invoke/MethodHandle" ∧ q.1.cls ≠ "java/lang/invoke/VarHandle") ∧ Cond.instantiable q.1.cls q.2 ∈ tables_1 ∧ Cond.privateMethod q.1 ∈ tables_1 ∧ Cond.instanceMethod q.1 ∈ tables_1
theorem lw_p0 : lw_okq (⟨"PauseLexicons", "keptUnlessError", "(I)I"⟩, 4) := ⟨⟨by decide +kernel, by decide +kernel⟩, List.mem_of_getElem? (i := 12) (by decide +kernel), List.mem_of_getElem? (i := 275) (by decide +kernel), List.mem_of_getElem? (i := 276) (by decide +kernel)⟩
theorem lw_p1 : lw_okq (⟨"PauseLexicons$Room", "beginOfShade", "(I)I"⟩, 6) := ⟨⟨by decide +kernel, by decide +kernel⟩, List.mem_of_getElem? (i := 20) (by decide +kernel), List.mem_of_getElem? (i := 336) (by decide +kernel), List.mem_of_getElem? (i := 337) (by decide +kernel)⟩
theorem lw_p2 : lw_okq (⟨"PauseLexicons$Room", "dropPauseOfNobody", "(I)V"⟩, 6) := ⟨⟨by decide +kernel, by decide +kernel⟩, List.mem_of_getElem? (i := 20) (by decide +kernel), List.mem_of_getElem? (i := 371) (by decide +kernel), List.mem_of_getElem? (i := 372) (by decide +kernel)⟩
theorem lw_p3 : lw_okq (⟨"PauseLexicons$Room", "endPause", "(IIII)V"⟩, 6) := ⟨⟨by decide +kernel, by decide +kernel⟩, List.mem_of_getElem? (i := 20) (by decide +kernel), List.mem_of_getElem? (i := 414) (by decide +kernel), List.mem_of_getElem? (i := 415) (by decide +kernel)⟩
def lw_privs_1 : List (MethodName × Nat) := [(⟨"PauseLexicons", "keptUnlessError", "(I)I"⟩, 4), (⟨"PauseLexicons$Room", "beginOfShade", "(I)I"⟩, 6), (⟨"PauseLexicons$Room", "dropPauseOfNobody", "(I)V"⟩, 6), (⟨"PauseLexicons$Room", "endPause", "(IIII)V"⟩, 6)]
theorem lw_r1 : ∀ q ∈ lw_privs_1, lw_okq q := List.forall_mem_cons.mpr ⟨lw_p0, List.forall_mem_cons.mpr ⟨lw_p1, List.forall_mem_cons.mpr ⟨lw_p2, List.forall_mem_cons.mpr ⟨lw_p3, fun _ h => absurd h List.not_mem_nil⟩⟩⟩⟩
def lw_privs : List (MethodName × Nat) := lw_privs_1
def lw_tbl : List Cond := k2_sels lw_privs ++ tables_1
theorem lw_privs_ok : ∀ q ∈ lw_privs, lw_okq q := lw_r1
-- names, fields, code (out of NAMES.whole)
def RX0 : String := "PauseLexicons$Guests"
def TX0 : u_T := fun k => match k with
  | 0 => ("PauseLexicons$Guests", "came", "I", false)
  | 1 => ("PauseLexicons$Guests", "seats", "[I", true)
  | 2 => ("PauseLexicons$Guests", "ranks", "[I", true)
  | 3 => ("PauseLexicons$Guests", "faults", "[I", true)
  | 4 => ("PauseLexicons$Guests", "coughs", "[I", true)
  | 5 => ("PauseLexicons$Guests", "broken", "[I", true)
  | _ => ("PauseLexicons$Guests", "lent", "[I", true)
def tyX0 : Nat → FieldType := fun k => match k with
  | 0 => .int
  | 1 => .array .int
  | 2 => .array .int
  | 3 => .array .int
  | 4 => .array .int
  | 5 => .array .int
  | _ => .array .int
theorem nmX0 : ∀ a, a < 7 → ∀ b, b < 7 → a ≠ b → (TX0 a).2.1 ≠ (TX0 b).2.1 := by decide +kernel
theorem tyX0_ok : ∀ k, k < 7 → parseFieldDescriptor (TX0 k).2.2.1 = some (tyX0 k) := by decide +kernel
abbrev cX0_init : ByteArray := prog_2_method_1_code
def yX0_init : MethodName := ⟨RX0, "<init>", "()V"⟩
abbrev cX0_copyFrom : ByteArray := prog_2_method_2_code
def yX0_copyFrom : MethodName := ⟨RX0, "copyFrom", "(LPauseLexicons$Guests;)V"⟩
abbrev cX0_add : ByteArray := prog_2_method_3_code
def yX0_add : MethodName := ⟨RX0, "add", "(III)I"⟩
abbrev cX0_isKnown : ByteArray := prog_2_method_4_code
def yX0_isKnown : MethodName := ⟨RX0, "isKnown", "(I)Z"⟩
abbrev cX0_isHost : ByteArray := prog_2_method_5_code
def yX0_isHost : MethodName := ⟨RX0, "isHost", "(I)Z"⟩
abbrev cX0_setAt : ByteArray := prog_2_method_6_code
def yX0_setAt : MethodName := ⟨RX0, "setAt", "(I)I"⟩
abbrev cX0_setOfThoseHere : ByteArray := prog_2_method_7_code
def yX0_setOfThoseHere : MethodName := ⟨RX0, "setOfThoseHere", "()I"⟩
abbrev cX0_hostOf : ByteArray := prog_2_method_8_code
def yX0_hostOf : MethodName := ⟨RX0, "hostOf", "(I)I"⟩
abbrev cX0_companyOf : ByteArray := prog_2_method_9_code
def yX0_companyOf : MethodName := ⟨RX0, "companyOf", "(II)I"⟩
abbrev cX0_lenderTo : ByteArray := prog_2_method_10_code
def yX0_lenderTo : MethodName := ⟨RX0, "lenderTo", "(II)I"⟩
abbrev cX0_faultsOfAll : ByteArray := prog_2_method_11_code
def yX0_faultsOfAll : MethodName := ⟨RX0, "faultsOfAll", "()I"⟩
abbrev cX0_coughsOfThoseHere : ByteArray := prog_2_method_12_code
def yX0_coughsOfThoseHere : MethodName := ⟨RX0, "coughsOfThoseHere", "()I"⟩
def RX1 : String := "PauseLexicons$History"
def TX1 : u_T := fun k => match k with
  | 0 => ("PauseLexicons$History", "states", "[LPauseLexicons$Room;", true)
  | _ => ("PauseLexicons$History", "kept", "I", false)
def tyX1 : Nat → FieldType := fun k => match k with
  | 0 => .array (.object "PauseLexicons$Room")
  | _ => .int
theorem nmX1 : ∀ a, a < 2 → ∀ b, b < 2 → a ≠ b → (TX1 a).2.1 ≠ (TX1 b).2.1 := by decide +kernel
theorem tyX1_ok : ∀ k, k < 2 → parseFieldDescriptor (TX1 k).2.2.1 = some (tyX1 k) := by decide +kernel
abbrev cX1_init : ByteArray := prog_3_method_1_code
def yX1_init : MethodName := ⟨RX1, "<init>", "()V"⟩
abbrev cX1_noteBefore : ByteArray := prog_3_method_2_code
def yX1_noteBefore : MethodName := ⟨RX1, "noteBefore", "(LPauseLexicons$Room;)V"⟩
abbrev cX1_keepNoted : ByteArray := prog_3_method_3_code
def yX1_keepNoted : MethodName := ⟨RX1, "keepNoted", "()V"⟩
abbrev cX1_takeBack : ByteArray := prog_3_method_4_code
def yX1_takeBack : MethodName := ⟨RX1, "takeBack", "(LPauseLexicons$Room;)I"⟩
def RX2 : String := "PauseLexicons$Lexicon"
def TX2 : u_T := fun k => match k with
  | 0 => ("PauseLexicons$Lexicon", "often", "[I", true)
  | 1 => ("PauseLexicons$Lexicon", "longest", "[I", true)
  | 2 => ("PauseLexicons$Lexicon", "endings", "[I", true)
  | 3 => ("PauseLexicons$Lexicon", "ends", "[I", true)
  | _ => ("PauseLexicons$Lexicon", "told", "I", false)
def tyX2 : Nat → FieldType := fun k => match k with
  | 0 => .array .int
  | 1 => .array .int
  | 2 => .array .int
  | 3 => .array .int
  | _ => .int
theorem nmX2 : ∀ a, a < 5 → ∀ b, b < 5 → a ≠ b → (TX2 a).2.1 ≠ (TX2 b).2.1 := by decide +kernel
theorem tyX2_ok : ∀ k, k < 5 → parseFieldDescriptor (TX2 k).2.2.1 = some (tyX2 k) := by decide +kernel
abbrev cX2_init : ByteArray := prog_4_method_1_code
def yX2_init : MethodName := ⟨RX2, "<init>", "()V"⟩
abbrev cX2_copyFrom : ByteArray := prog_4_method_2_code
def yX2_copyFrom : MethodName := ⟨RX2, "copyFrom", "(LPauseLexicons$Lexicon;)V"⟩
abbrev cX2_enterMeaning : ByteArray := prog_4_method_3_code
def yX2_enterMeaning : MethodName := ⟨RX2, "enterMeaning", "(II)V"⟩
abbrev cX2_tellEnd : ByteArray := prog_4_method_4_code
def yX2_tellEnd : MethodName := ⟨RX2, "tellEnd", "(IIIII)V"⟩
abbrev cX2_setOfMeant : ByteArray := prog_4_method_5_code
def yX2_setOfMeant : MethodName := ⟨RX2, "setOfMeant", "()I"⟩
abbrev cX2_mostMeant : ByteArray := prog_4_method_6_code
def yX2_mostMeant : MethodName := ⟨RX2, "mostMeant", "()I"⟩
def RX3 : String := "PauseLexicons$Pad"
def TX3 : u_T := fun k => match k with
  | 0 => ("PauseLexicons$Pad", "codes", "[I", true)
  | _ => ("PauseLexicons$Pad", "length", "I", false)
def tyX3 : Nat → FieldType := fun k => match k with
  | 0 => .array .int
  | _ => .int
theorem nmX3 : ∀ a, a < 2 → ∀ b, b < 2 → a ≠ b → (TX3 a).2.1 ≠ (TX3 b).2.1 := by decide +kernel
theorem tyX3_ok : ∀ k, k < 2 → parseFieldDescriptor (TX3 k).2.2.1 = some (tyX3 k) := by decide +kernel
abbrev cX3_init : ByteArray := prog_5_method_1_code
def yX3_init : MethodName := ⟨RX3, "<init>", "()V"⟩
def RX4 : String := "PauseLexicons$Room"
def TX4 : u_T := fun k => match k with
  | 0 => ("PauseLexicons$Room", "time", "I", false)
  | 1 => ("PauseLexicons$Room", "settings", "[I", true)
  | 2 => ("PauseLexicons$Room", "guests", "LPauseLexicons$Guests;", true)
  | 3 => ("PauseLexicons$Room", "lexicon", "LPauseLexicons$Lexicon;", true)
  | 4 => ("PauseLexicons$Room", "pauses", "[I", true)
  | _ => ("PauseLexicons$Room", "ended", "[I", true)
def tyX4 : Nat → FieldType := fun k => match k with
  | 0 => .int
  | 1 => .array .int
  | 2 => .object "PauseLexicons$Guests"
  | 3 => .object "PauseLexicons$Lexicon"
  | 4 => .array .int
  | _ => .array .int
theorem nmX4 : ∀ a, a < 6 → ∀ b, b < 6 → a ≠ b → (TX4 a).2.1 ≠ (TX4 b).2.1 := by decide +kernel
theorem tyX4_ok : ∀ k, k < 6 → parseFieldDescriptor (TX4 k).2.2.1 = some (tyX4 k) := by decide +kernel
abbrev cX4_init : ByteArray := prog_6_method_1_code
def yX4_init : MethodName := ⟨RX4, "<init>", "()V"⟩
abbrev cX4_copyFrom : ByteArray := prog_6_method_2_code
def yX4_copyFrom : MethodName := ⟨RX4, "copyFrom", "(LPauseLexicons$Room;)V"⟩
abbrev cX4_changeSetting : ByteArray := prog_6_method_3_code
def yX4_changeSetting : MethodName := ⟨RX4, "changeSetting", "(II)I"⟩
abbrev cX4_welcome : ByteArray := prog_6_method_4_code
def yX4_welcome : MethodName := ⟨RX4, "welcome", "(II)I"⟩
abbrev cX4_seeOff : ByteArray := prog_6_method_5_code
def yX4_seeOff : MethodName := ⟨RX4, "seeOff", "(I)I"⟩
abbrev cX4_reseat : ByteArray := prog_6_method_6_code
def yX4_reseat : MethodName := ⟨RX4, "reseat", "(II)I"⟩
abbrev cX4_beginPause : ByteArray := prog_6_method_7_code
def yX4_beginPause : MethodName := ⟨RX4, "beginPause", "(I)I"⟩
abbrev cX4_closePause : ByteArray := prog_6_method_8_code
def yX4_closePause : MethodName := ⟨RX4, "closePause", "(I)I"⟩
abbrev cX4_breakByWord : ByteArray := prog_6_method_9_code
def yX4_breakByWord : MethodName := ⟨RX4, "breakByWord", "(I)I"⟩
abbrev cX4_breakByCough : ByteArray := prog_6_method_10_code
def yX4_breakByCough : MethodName := ⟨RX4, "breakByCough", "(I)I"⟩
abbrev cX4_letPass : ByteArray := prog_6_method_11_code
def yX4_letPass : MethodName := ⟨RX4, "letPass", "(I)I"⟩
abbrev cX4_errorOfBreak : ByteArray := prog_6_method_12_code
def yX4_errorOfBreak : MethodName := ⟨RX4, "errorOfBreak", "(I)I"⟩
abbrev cX4_dropPauseOfNobody : ByteArray := prog_6_method_13_code
def yX4_dropPauseOfNobody : MethodName := ⟨RX4, "dropPauseOfNobody", "(I)V"⟩
abbrev cX4_endPause : ByteArray := prog_6_method_14_code
def yX4_endPause : MethodName := ⟨RX4, "endPause", "(IIII)V"⟩
abbrev cX4_pausesThatGoOn : ByteArray := prog_6_method_15_code
def yX4_pausesThatGoOn : MethodName := ⟨RX4, "pausesThatGoOn", "()I"⟩
abbrev cX4_meaningNow : ByteArray := prog_6_method_16_code
def yX4_meaningNow : MethodName := ⟨RX4, "meaningNow", "(II)I"⟩
abbrev cX4_meaningFor : ByteArray := prog_6_method_17_code
def yX4_meaningFor : MethodName := ⟨RX4, "meaningFor", "(II)I"⟩
abbrev cX4_secondsToTurn : ByteArray := prog_6_method_18_code
def yX4_secondsToTurn : MethodName := ⟨RX4, "secondsToTurn", "(I)I"⟩
abbrev cX4_beginOfShade : ByteArray := prog_6_method_19_code
def yX4_beginOfShade : MethodName := ⟨RX4, "beginOfShade", "(I)I"⟩
def RX5 : String := "PauseLexicons$Slots"
def TX5 : u_T := fun k => match k with
  | 0 => ("PauseLexicons$Slots", "states", "[LPauseLexicons$Room;", true)
  | _ => ("PauseLexicons$Slots", "filled", "[Z", true)
def tyX5 : Nat → FieldType := fun k => match k with
  | 0 => .array (.object "PauseLexicons$Room")
  | _ => .array .boolean
theorem nmX5 : ∀ a, a < 2 → ∀ b, b < 2 → a ≠ b → (TX5 a).2.1 ≠ (TX5 b).2.1 := by decide +kernel
theorem tyX5_ok : ∀ k, k < 2 → parseFieldDescriptor (TX5 k).2.2.1 = some (tyX5 k) := by decide +kernel
abbrev cX5_init : ByteArray := prog_7_method_1_code
def yX5_init : MethodName := ⟨RX5, "<init>", "()V"⟩
abbrev cX5_keep : ByteArray := prog_7_method_2_code
def yX5_keep : MethodName := ⟨RX5, "keep", "(ILPauseLexicons$Room;)I"⟩
abbrev cX5_giveBack : ByteArray := prog_7_method_3_code
def yX5_giveBack : MethodName := ⟨RX5, "giveBack", "(ILPauseLexicons$Room;)I"⟩
def RX6 : String := "PauseLexicons"
def TX6 : u_T := fun k => match k with
  | 0 => ("PauseLexicons", "room", "LPauseLexicons$Room;", true)
  | 1 => ("PauseLexicons", "history", "LPauseLexicons$History;", true)
  | 2 => ("PauseLexicons", "slots", "LPauseLexicons$Slots;", true)
  | _ => ("PauseLexicons", "pad", "LPauseLexicons$Pad;", true)
def tyX6 : Nat → FieldType := fun k => match k with
  | 0 => .object "PauseLexicons$Room"
  | 1 => .object "PauseLexicons$History"
  | 2 => .object "PauseLexicons$Slots"
  | _ => .object "PauseLexicons$Pad"
theorem nmX6 : ∀ a, a < 4 → ∀ b, b < 4 → a ≠ b → (TX6 a).2.1 ≠ (TX6 b).2.1 := by decide +kernel
theorem tyX6_ok : ∀ k, k < 4 → parseFieldDescriptor (TX6 k).2.2.1 = some (tyX6 k) := by decide +kernel
abbrev cX6_init : ByteArray := prog_1_method_1_code
def yX6_init : MethodName := ⟨RX6, "<init>", "()V"⟩
abbrev cX6_set : ByteArray := prog_1_method_2_code
def yX6_set : MethodName := ⟨RX6, "set", "(II)I"⟩
abbrev cX6_guest : ByteArray := prog_1_method_3_code
def yX6_guest : MethodName := ⟨RX6, "guest", "(II)I"⟩
abbrev cX6_leave : ByteArray := prog_1_method_4_code
def yX6_leave : MethodName := ⟨RX6, "leave", "(I)I"⟩
abbrev cX6_move : ByteArray := prog_1_method_5_code
def yX6_move : MethodName := ⟨RX6, "move", "(II)I"⟩
abbrev cX6_pause : ByteArray := prog_1_method_6_code
def yX6_pause : MethodName := ⟨RX6, "pause", "(I)I"⟩
abbrev cX6_close : ByteArray := prog_1_method_7_code
def yX6_close : MethodName := ⟨RX6, "close", "(I)I"⟩
abbrev cX6_word : ByteArray := prog_1_method_8_code
def yX6_word : MethodName := ⟨RX6, "word", "(I)I"⟩
abbrev cX6_cough : ByteArray := prog_1_method_9_code
def yX6_cough : MethodName := ⟨RX6, "cough", "(I)I"⟩
abbrev cX6_pass : ByteArray := prog_1_method_10_code
def yX6_pass : MethodName := ⟨RX6, "pass", "(I)I"⟩
abbrev cX6_of : ByteArray := prog_1_method_11_code
def yX6_of : MethodName := ⟨RX6, "of", "(II)I"⟩
abbrev cX6_table : ByteArray := prog_1_method_12_code
def yX6_table : MethodName := ⟨RX6, "table", "(II)I"⟩
abbrev cX6_meaning : ByteArray := prog_1_method_13_code
def yX6_meaning : MethodName := ⟨RX6, "meaning", "(II)I"⟩
abbrev cX6_end : ByteArray := prog_1_method_14_code
def yX6_end : MethodName := ⟨RX6, "end", "(II)I"⟩
abbrev cX6_count : ByteArray := prog_1_method_15_code
def yX6_count : MethodName := ⟨RX6, "count", "(I)I"⟩
abbrev cX6_wouldMean : ByteArray := prog_1_method_16_code
def yX6_wouldMean : MethodName := ⟨RX6, "wouldMean", "(II)I"⟩
abbrev cX6_turnsIn : ByteArray := prog_1_method_17_code
def yX6_turnsIn : MethodName := ⟨RX6, "turnsIn", "(I)I"⟩
abbrev cX6_lender : ByteArray := prog_1_method_18_code
def yX6_lender : MethodName := ⟨RX6, "lender", "(I)I"⟩
abbrev cX6_usual : ByteArray := prog_1_method_20_code
def yX6_usual : MethodName := ⟨RX6, "usual", "()I"⟩
abbrev cX6_undo : ByteArray := prog_1_method_25_code
def yX6_undo : MethodName := ⟨RX6, "undo", "()I"⟩
abbrev cX6_save : ByteArray := prog_1_method_26_code
def yX6_save : MethodName := ⟨RX6, "save", "(I)I"⟩
abbrev cX6_restore : ByteArray := prog_1_method_27_code
def yX6_restore : MethodName := ⟨RX6, "restore", "(I)I"⟩
abbrev cX6_keptUnlessError : ByteArray := prog_1_method_28_code
def yX6_keptUnlessError : MethodName := ⟨RX6, "keptUnlessError", "(I)I"⟩
abbrev cX6_isError : ByteArray := prog_1_method_29_code
def yX6_isError : MethodName := ⟨RX6, "isError", "(I)Z"⟩
abbrev cX6_isTable : ByteArray := prog_1_method_30_code
def yX6_isTable : MethodName := ⟨RX6, "isTable", "(I)Z"⟩
def RX7 : String := "PauseLexiconsModel"
def TX7 : u_T := fun k => match k with
  | _ => ("", "", "", false)
def tyX7 : Nat → FieldType := fun k => match k with
  | _ => .int
theorem nmX7 : ∀ a, a < 0 → ∀ b, b < 0 → a ≠ b → (TX7 a).2.1 ≠ (TX7 b).2.1 := by decide +kernel
theorem tyX7_ok : ∀ k, k < 0 → parseFieldDescriptor (TX7 k).2.2.1 = some (tyX7 k) := by decide +kernel
def RJ6 : String := "java/lang/Integer"
def TJ6 : u_T := fun k => match k with
  | _ => ("", "", "", false)
def tyJ6 : Nat → FieldType := fun k => match k with
  | _ => .int
abbrev cJ6_bitCount_0f7a4 : ByteArray := prog_11_method_49_code
def yJ6_bitCount_0f7a4 : MethodName := ⟨RJ6, "bitCount", "(I)I"⟩
def RJ9 : String := "java/lang/Math"
def TJ9 : u_T := fun k => match k with
  | _ => ("", "", "", false)
def tyJ9 : Nat → FieldType := fun k => match k with
  | _ => .int
abbrev cJ9_max_7cf53 : ByteArray := prog_12_method_65_code
def yJ9_max_7cf53 : MethodName := ⟨RJ9, "max", "(II)I"⟩
abbrev cJ9_min_7cf53 : ByteArray := prog_12_method_69_code
def yJ9_min_7cf53 : MethodName := ⟨RJ9, "min", "(II)I"⟩
def RJ10 : String := "java/lang/System"
def TJ10 : u_T := fun k => match k with
  | _ => ("", "", "", false)
def tyJ10 : Nat → FieldType := fun k => match k with
  | _ => .int
def RL : String := "PauseLexiconsLaw"
abbrev cL_cell : ByteArray := method_2_code
def yL_cell : MethodName := ⟨RL, "cell", "([II)I"⟩
abbrev cL_low : ByteArray := method_3_code
def yL_low : MethodName := ⟨RL, "low", "(II)I"⟩
abbrev cL_told : ByteArray := method_4_code
def yL_told : MethodName := ⟨RL, "told", "(LPauseLexicons;)J"⟩
abbrev cL_act : ByteArray := method_5_code
def yL_act : MethodName := ⟨RL, "act", "(LPauseLexicons;II)I"⟩
abbrev cL_holds : ByteArray := method_6_code
def yL_holds : MethodName := ⟨RL, "holds", "(LPauseLexicons;)Z"⟩
abbrev cL_isBroken : ByteArray := method_7_code
def yL_isBroken : MethodName := ⟨RL, "isBroken", "(LPauseLexicons;IZ)Z"⟩
abbrev cL_law : ByteArray := code
def yL_law : MethodName := ⟨RL, "law", "([I)Z"⟩
abbrev mcl : List vw_C := [(RX0, TX0, 7), (RX1, TX1, 2), (RX2, TX2, 5), (RX3, TX3, 2), (RX4, TX4, 6), (RX5, TX5, 2), (RX6, TX6, 4), (RX7, TX7, 0)]
def mN (ci : Nat) : Nat := match ci with
  | 0 => 7
  | 1 => 2
  | 2 => 5
  | 3 => 2
  | 4 => 6
  | 5 => 2
  | 6 => 4
  | 7 => 0
  | _ => 0
def mty (ci : Nat) : Nat → FieldType := match ci with
  | 0 => tyX0
  | 1 => tyX1
  | 2 => tyX2
  | 3 => tyX3
  | 4 => tyX4
  | 5 => tyX5
  | 6 => tyX6
  | 7 => tyX7
  | _ => fun _ => .int
def mIsN : Cond → Bool
  | .fieldLinkNest .. => true
  | .methodLinkNest .. => true
  | .castable .. => true
  | _ => false
def mGW : List Cond := lw_tbl.filter goodWord
def mNW : List Cond := lw_tbl.filter mIsN
theorem mg_in {w : Cond} {i : Nat} (h : lw_tbl[i]? = some w) (hg : goodWord w = true) : w ∈ mGW := List.mem_filter.mpr ⟨List.mem_of_getElem? h, hg⟩
theorem mn_in {w : Cond} {i : Nat} (h : lw_tbl[i]? = some w) (hg : mIsN w = true) : w ∈ mNW := List.mem_filter.mpr ⟨List.mem_of_getElem? h, hg⟩
theorem mg_all {ws : List Cond} (ps : List Nat) (hp : ws = ps.filterMap (fun i => lw_tbl[i]?)) (h : ws.all goodWord = true) : ∀ w ∈ ws, w ∈ mGW := by
  intro w hw
  have h1 := List.all_eq_true.mp h w hw
  rw [hp] at hw
  obtain ⟨i, -, hi⟩ := List.mem_filterMap.mp hw
  exact mg_in hi h1
theorem mg_good : ∀ w ∈ mGW, w ∈ mGW ∧ ((w.onTables && w.keeps) = true ∨ ∃ ty, w = .arrayClass ty) := fun w h => ⟨h, good_of_word (List.mem_filter.mp h).2⟩
theorem muX0 : ∀ w ∈ u_ws RX0 TX0 7, w ∈ mGW := mg_all [63, 65, 67, 69, 71, 73, 75] (by decide +kernel) (by decide +kernel)
theorem miX0 : Cond.instantiable RX0 7 ∈ mGW := mg_in (i := 39) (by decide +kernel) (by decide +kernel)
theorem mzX0 : Cond.initialized RX0 ∈ mGW := mg_in (i := 7) (by decide +kernel) (by decide +kernel)
theorem muX1 : ∀ w ∈ u_ws RX1 TX1 2, w ∈ mGW := mg_all [144, 146] (by decide +kernel) (by decide +kernel)
theorem miX1 : Cond.instantiable RX1 2 ∈ mGW := mg_in (i := 133) (by decide +kernel) (by decide +kernel)
theorem mzX1 : Cond.initialized RX1 ∈ mGW := mg_in (i := 9) (by decide +kernel) (by decide +kernel)
theorem muX2 : ∀ w ∈ u_ws RX2 TX2 5, w ∈ mGW := mg_all [95, 97, 99, 101, 103] (by decide +kernel) (by decide +kernel)
theorem miX2 : Cond.instantiable RX2 5 ∈ mGW := mg_in (i := 80) (by decide +kernel) (by decide +kernel)
theorem mzX2 : Cond.initialized RX2 ∈ mGW := mg_in (i := 8) (by decide +kernel) (by decide +kernel)
theorem muX3 : ∀ w ∈ u_ws RX3 TX3 2, w ∈ mGW := mg_all [174, 176] (by decide +kernel) (by decide +kernel)
theorem miX3 : Cond.instantiable RX3 2 ∈ mGW := mg_in (i := 166) (by decide +kernel) (by decide +kernel)
theorem mzX3 : Cond.initialized RX3 ∈ mGW := mg_in (i := 11) (by decide +kernel) (by decide +kernel)
theorem muX4 : ∀ w ∈ u_ws RX4 TX4 6, w ∈ mGW := mg_all [119, 121, 123, 125, 127, 129] (by decide +kernel) (by decide +kernel)
theorem miX4 : Cond.instantiable RX4 6 ∈ mGW := mg_in (i := 24) (by decide +kernel) (by decide +kernel)
theorem mzX4 : Cond.initialized RX4 ∈ mGW := mg_in (i := 6) (by decide +kernel) (by decide +kernel)
theorem muX5 : ∀ w ∈ u_ws RX5 TX5 2, w ∈ mGW := mg_all [159, 161] (by decide +kernel) (by decide +kernel)
theorem miX5 : Cond.instantiable RX5 2 ∈ mGW := mg_in (i := 150) (by decide +kernel) (by decide +kernel)
theorem mzX5 : Cond.initialized RX5 ∈ mGW := mg_in (i := 10) (by decide +kernel) (by decide +kernel)
theorem muX6 : ∀ w ∈ u_ws RX6 TX6 4, w ∈ mGW := mg_all [183, 185, 187, 189] (by decide +kernel) (by decide +kernel)
theorem miX6 : Cond.instantiable RX6 4 ∈ mGW := mg_in (i := 16) (by decide +kernel) (by decide +kernel)
theorem mzX6 : Cond.initialized RX6 ∈ mGW := mg_in (i := 5) (by decide +kernel) (by decide +kernel)
theorem muX7 : ∀ w ∈ u_ws RX7 TX7 0, w ∈ mGW := mg_all [] (by decide +kernel) (by decide +kernel)
end
section
theorem dJ6_bitCount_0f7a4_0 : decode cJ6_bitCount_0f7a4 0 = .ok (.iload_n 0, 1) := by decide +kernel
theorem dJ6_bitCount_0f7a4_1 : decode cJ6_bitCount_0f7a4 1 = .ok (.iload_n 0, 1) := by decide +kernel
theorem dJ6_bitCount_0f7a4_2 : decode cJ6_bitCount_0f7a4 2 = .ok (.iconst 1, 1) := by decide +kernel
theorem dJ6_bitCount_0f7a4_3 : decode cJ6_bitCount_0f7a4 3 = .ok (.iushr, 1) := by decide +kernel
theorem dJ6_bitCount_0f7a4_4 : decode cJ6_bitCount_0f7a4 4 = .ok (.ldc_w 265, 3) := by decide +kernel
theorem dJ6_bitCount_0f7a4_7 : decode cJ6_bitCount_0f7a4 7 = .ok (.iand, 1) := by decide +kernel
theorem dJ6_bitCount_0f7a4_8 : decode cJ6_bitCount_0f7a4 8 = .ok (.isub, 1) := by decide +kernel
theorem dJ6_bitCount_0f7a4_9 : decode cJ6_bitCount_0f7a4 9 = .ok (.istore_n 0, 1) := by decide +kernel
theorem dJ6_bitCount_0f7a4_10 : decode cJ6_bitCount_0f7a4 10 = .ok (.iload_n 0, 1) := by decide +kernel
theorem dJ6_bitCount_0f7a4_11 : decode cJ6_bitCount_0f7a4 11 = .ok (.ldc_w 266, 3) := by decide +kernel
theorem dJ6_bitCount_0f7a4_14 : decode cJ6_bitCount_0f7a4 14 = .ok (.iand, 1) := by decide +kernel
theorem dJ6_bitCount_0f7a4_15 : decode cJ6_bitCount_0f7a4 15 = .ok (.iload_n 0, 1) := by decide +kernel
theorem dJ6_bitCount_0f7a4_16 : decode cJ6_bitCount_0f7a4 16 = .ok (.iconst 2, 1) := by decide +kernel
theorem dJ6_bitCount_0f7a4_17 : decode cJ6_bitCount_0f7a4 17 = .ok (.iushr, 1) := by decide +kernel
theorem dJ6_bitCount_0f7a4_18 : decode cJ6_bitCount_0f7a4 18 = .ok (.ldc_w 266, 3) := by decide +kernel
theorem dJ6_bitCount_0f7a4_21 : decode cJ6_bitCount_0f7a4 21 = .ok (.iand, 1) := by decide +kernel
theorem dJ6_bitCount_0f7a4_22 : decode cJ6_bitCount_0f7a4 22 = .ok (.iadd, 1) := by decide +kernel
theorem dJ6_bitCount_0f7a4_23 : decode cJ6_bitCount_0f7a4 23 = .ok (.istore_n 0, 1) := by decide +kernel
theorem dJ6_bitCount_0f7a4_24 : decode cJ6_bitCount_0f7a4 24 = .ok (.iload_n 0, 1) := by decide +kernel
theorem dJ6_bitCount_0f7a4_25 : decode cJ6_bitCount_0f7a4 25 = .ok (.iload_n 0, 1) := by decide +kernel
theorem dJ6_bitCount_0f7a4_26 : decode cJ6_bitCount_0f7a4 26 = .ok (.iconst 4, 1) := by decide +kernel
theorem dJ6_bitCount_0f7a4_27 : decode cJ6_bitCount_0f7a4 27 = .ok (.iushr, 1) := by decide +kernel
theorem dJ6_bitCount_0f7a4_28 : decode cJ6_bitCount_0f7a4 28 = .ok (.iadd, 1) := by decide +kernel
theorem dJ6_bitCount_0f7a4_29 : decode cJ6_bitCount_0f7a4 29 = .ok (.ldc_w 267, 3) := by decide +kernel
theorem dJ6_bitCount_0f7a4_32 : decode cJ6_bitCount_0f7a4 32 = .ok (.iand, 1) := by decide +kernel
theorem dJ6_bitCount_0f7a4_33 : decode cJ6_bitCount_0f7a4 33 = .ok (.istore_n 0, 1) := by decide +kernel
theorem dJ6_bitCount_0f7a4_34 : decode cJ6_bitCount_0f7a4 34 = .ok (.iload_n 0, 1) := by decide +kernel
theorem dJ6_bitCount_0f7a4_35 : decode cJ6_bitCount_0f7a4 35 = .ok (.iload_n 0, 1) := by decide +kernel
theorem dJ6_bitCount_0f7a4_36 : decode cJ6_bitCount_0f7a4 36 = .ok (.bipush 8, 2) := by decide +kernel
theorem dJ6_bitCount_0f7a4_38 : decode cJ6_bitCount_0f7a4 38 = .ok (.iushr, 1) := by decide +kernel
theorem dJ6_bitCount_0f7a4_39 : decode cJ6_bitCount_0f7a4 39 = .ok (.iadd, 1) := by decide +kernel
theorem dJ6_bitCount_0f7a4_40 : decode cJ6_bitCount_0f7a4 40 = .ok (.istore_n 0, 1) := by decide +kernel
theorem dJ6_bitCount_0f7a4_41 : decode cJ6_bitCount_0f7a4 41 = .ok (.iload_n 0, 1) := by decide +kernel
theorem dJ6_bitCount_0f7a4_42 : decode cJ6_bitCount_0f7a4 42 = .ok (.iload_n 0, 1) := by decide +kernel
theorem dJ6_bitCount_0f7a4_43 : decode cJ6_bitCount_0f7a4 43 = .ok (.bipush 16, 2) := by decide +kernel
theorem dJ6_bitCount_0f7a4_45 : decode cJ6_bitCount_0f7a4 45 = .ok (.iushr, 1) := by decide +kernel
theorem dJ6_bitCount_0f7a4_46 : decode cJ6_bitCount_0f7a4 46 = .ok (.iadd, 1) := by decide +kernel
theorem dJ6_bitCount_0f7a4_47 : decode cJ6_bitCount_0f7a4 47 = .ok (.istore_n 0, 1) := by decide +kernel
theorem dJ6_bitCount_0f7a4_48 : decode cJ6_bitCount_0f7a4 48 = .ok (.iload_n 0, 1) := by decide +kernel
theorem dJ6_bitCount_0f7a4_49 : decode cJ6_bitCount_0f7a4 49 = .ok (.bipush 63, 2) := by decide +kernel
theorem dJ6_bitCount_0f7a4_51 : decode cJ6_bitCount_0f7a4 51 = .ok (.iand, 1) := by decide +kernel
theorem dJ6_bitCount_0f7a4_52 : decode cJ6_bitCount_0f7a4 52 = .ok (.ireturn, 1) := by decide +kernel
end
section
theorem dL_cell_0 : decode cL_cell 0 = .ok (.iload_n 1, 1) := by decide +kernel
theorem dL_cell_1 : decode cL_cell 1 = .ok (.aload_n 0, 1) := by decide +kernel
theorem dL_cell_2 : decode cL_cell 2 = .ok (.arraylength, 1) := by decide +kernel
theorem dL_cell_3 : decode cL_cell 3 = .ok (.if_icmp .ge 9, 3) := by decide +kernel
theorem dL_cell_6 : decode cL_cell 6 = .ok (.aload_n 0, 1) := by decide +kernel
theorem dL_cell_7 : decode cL_cell 7 = .ok (.iload_n 1, 1) := by decide +kernel
theorem dL_cell_8 : decode cL_cell 8 = .ok (.iaload, 1) := by decide +kernel
theorem dL_cell_9 : decode cL_cell 9 = .ok (.goto 15, 3) := by decide +kernel
theorem dL_cell_12 : decode cL_cell 12 = .ok (.sipush 7919, 3) := by decide +kernel
theorem dL_cell_15 : decode cL_cell 15 = .ok (.iload_n 1, 1) := by decide +kernel
theorem dL_cell_16 : decode cL_cell 16 = .ok (.iconst 3, 1) := by decide +kernel
theorem dL_cell_17 : decode cL_cell 17 = .ok (.iadd, 1) := by decide +kernel
theorem dL_cell_18 : decode cL_cell 18 = .ok (.imul, 1) := by decide +kernel
theorem dL_cell_19 : decode cL_cell 19 = .ok (.iload_n 1, 1) := by decide +kernel
theorem dL_cell_20 : decode cL_cell 20 = .ok (.bipush 11, 2) := by decide +kernel
theorem dL_cell_22 : decode cL_cell 22 = .ok (.iadd, 1) := by decide +kernel
theorem dL_cell_23 : decode cL_cell 23 = .ok (.imul, 1) := by decide +kernel
theorem dL_cell_24 : decode cL_cell 24 = .ok (.ireturn, 1) := by decide +kernel
theorem dL_low_0 : decode cL_low 0 = .ok (.iload_n 0, 1) := by decide +kernel
theorem dL_low_1 : decode cL_low 1 = .ok (.ldc 7, 2) := by decide +kernel
theorem dL_low_3 : decode cL_low 3 = .ok (.iand, 1) := by decide +kernel
theorem dL_low_4 : decode cL_low 4 = .ok (.iload_n 1, 1) := by decide +kernel
theorem dL_low_5 : decode cL_low 5 = .ok (.irem, 1) := by decide +kernel
theorem dL_low_6 : decode cL_low 6 = .ok (.ireturn, 1) := by decide +kernel
theorem dL_told_0 : decode cL_told 0 = .ok (.ldc2_w 8, 3) := by decide +kernel
theorem dL_told_3 : decode cL_told 3 = .ok (.lstore_n 1, 1) := by decide +kernel
theorem dL_told_4 : decode cL_told 4 = .ok (.iconst 0, 1) := by decide +kernel
theorem dL_told_5 : decode cL_told 5 = .ok (.istore_n 3, 1) := by decide +kernel
theorem dL_told_6 : decode cL_told 6 = .ok (.iload_n 3, 1) := by decide +kernel
theorem dL_told_7 : decode cL_told 7 = .ok (.bipush 13, 2) := by decide +kernel
theorem dL_told_9 : decode cL_told 9 = .ok (.if_icmp .ge 22, 3) := by decide +kernel
theorem dL_told_12 : decode cL_told 12 = .ok (.ldc2_w 10, 3) := by decide +kernel
theorem dL_told_15 : decode cL_told 15 = .ok (.lload_n 1, 1) := by decide +kernel
theorem dL_told_16 : decode cL_told 16 = .ok (.lmul, 1) := by decide +kernel
theorem dL_told_17 : decode cL_told 17 = .ok (.aload_n 0, 1) := by decide +kernel
theorem dL_told_18 : decode cL_told 18 = .ok (.iload_n 3, 1) := by decide +kernel
theorem dL_told_19 : decode cL_told 19 = .ok (.invokevirtual 12, 3) := by decide +kernel
theorem dL_told_22 : decode cL_told 22 = .ok (.i2l, 1) := by decide +kernel
theorem dL_told_23 : decode cL_told 23 = .ok (.ladd, 1) := by decide +kernel
theorem dL_told_24 : decode cL_told 24 = .ok (.lstore_n 1, 1) := by decide +kernel
theorem dL_told_25 : decode cL_told 25 = .ok (.iinc 3 1, 3) := by decide +kernel
theorem dL_told_28 : decode cL_told 28 = .ok (.goto (-22), 3) := by decide +kernel
theorem dL_told_31 : decode cL_told 31 = .ok (.iconst 0, 1) := by decide +kernel
theorem dL_told_32 : decode cL_told 32 = .ok (.istore_n 3, 1) := by decide +kernel
theorem dL_told_33 : decode cL_told 33 = .ok (.iload_n 3, 1) := by decide +kernel
theorem dL_told_34 : decode cL_told 34 = .ok (.bipush 10, 2) := by decide +kernel
theorem dL_told_36 : decode cL_told 36 = .ok (.if_icmp .ge 70, 3) := by decide +kernel
theorem dL_told_39 : decode cL_told 39 = .ok (.iconst 0, 1) := by decide +kernel
theorem dL_told_40 : decode cL_told 40 = .ok (.istore 4, 2) := by decide +kernel
theorem dL_told_42 : decode cL_told 42 = .ok (.iload 4, 2) := by decide +kernel
theorem dL_told_44 : decode cL_told 44 = .ok (.bipush 7, 2) := by decide +kernel
theorem dL_told_46 : decode cL_told 46 = .ok (.if_icmp .ge 24, 3) := by decide +kernel
theorem dL_told_49 : decode cL_told 49 = .ok (.ldc2_w 10, 3) := by decide +kernel
theorem dL_told_52 : decode cL_told 52 = .ok (.lload_n 1, 1) := by decide +kernel
theorem dL_told_53 : decode cL_told 53 = .ok (.lmul, 1) := by decide +kernel
theorem dL_told_54 : decode cL_told 54 = .ok (.aload_n 0, 1) := by decide +kernel
theorem dL_told_55 : decode cL_told 55 = .ok (.iload_n 3, 1) := by decide +kernel
theorem dL_told_56 : decode cL_told 56 = .ok (.iload 4, 2) := by decide +kernel
theorem dL_told_58 : decode cL_told 58 = .ok (.invokevirtual 18, 3) := by decide +kernel
theorem dL_told_61 : decode cL_told 61 = .ok (.i2l, 1) := by decide +kernel
theorem dL_told_62 : decode cL_told 62 = .ok (.ladd, 1) := by decide +kernel
theorem dL_told_63 : decode cL_told 63 = .ok (.lstore_n 1, 1) := by decide +kernel
theorem dL_told_64 : decode cL_told 64 = .ok (.iinc 4 1, 3) := by decide +kernel
theorem dL_told_67 : decode cL_told 67 = .ok (.goto (-25), 3) := by decide +kernel
theorem dL_told_70 : decode cL_told 70 = .ok (.iconst 0, 1) := by decide +kernel
theorem dL_told_71 : decode cL_told 71 = .ok (.istore 4, 2) := by decide +kernel
theorem dL_told_73 : decode cL_told 73 = .ok (.iload 4, 2) := by decide +kernel
theorem dL_told_75 : decode cL_told 75 = .ok (.iconst 5, 1) := by decide +kernel
theorem dL_told_76 : decode cL_told 76 = .ok (.if_icmp .ge 24, 3) := by decide +kernel
theorem dL_told_79 : decode cL_told 79 = .ok (.ldc2_w 10, 3) := by decide +kernel
theorem dL_told_82 : decode cL_told 82 = .ok (.lload_n 1, 1) := by decide +kernel
theorem dL_told_83 : decode cL_told 83 = .ok (.lmul, 1) := by decide +kernel
theorem dL_told_84 : decode cL_told 84 = .ok (.aload_n 0, 1) := by decide +kernel
theorem dL_told_85 : decode cL_told 85 = .ok (.iload_n 3, 1) := by decide +kernel
theorem dL_told_86 : decode cL_told 86 = .ok (.iload 4, 2) := by decide +kernel
theorem dL_told_88 : decode cL_told 88 = .ok (.invokevirtual 22, 3) := by decide +kernel
theorem dL_told_91 : decode cL_told 91 = .ok (.i2l, 1) := by decide +kernel
theorem dL_told_92 : decode cL_told 92 = .ok (.ladd, 1) := by decide +kernel
theorem dL_told_93 : decode cL_told 93 = .ok (.lstore_n 1, 1) := by decide +kernel
theorem dL_told_94 : decode cL_told 94 = .ok (.iinc 4 1, 3) := by decide +kernel
theorem dL_told_97 : decode cL_told 97 = .ok (.goto (-24), 3) := by decide +kernel
theorem dL_told_100 : decode cL_told 100 = .ok (.iinc 3 1, 3) := by decide +kernel
theorem dL_told_103 : decode cL_told 103 = .ok (.goto (-70), 3) := by decide +kernel
theorem dL_told_106 : decode cL_told 106 = .ok (.iconst 0, 1) := by decide +kernel
theorem dL_told_107 : decode cL_told 107 = .ok (.istore_n 3, 1) := by decide +kernel
theorem dL_told_108 : decode cL_told 108 = .ok (.iload_n 3, 1) := by decide +kernel
theorem dL_told_109 : decode cL_told 109 = .ok (.iconst 3, 1) := by decide +kernel
theorem dL_told_110 : decode cL_told 110 = .ok (.if_icmp .ge 35, 3) := by decide +kernel
theorem dL_told_113 : decode cL_told 113 = .ok (.ldc2_w 10, 3) := by decide +kernel
theorem dL_told_116 : decode cL_told 116 = .ok (.ldc2_w 10, 3) := by decide +kernel
theorem dL_told_119 : decode cL_told 119 = .ok (.lload_n 1, 1) := by decide +kernel
theorem dL_told_120 : decode cL_told 120 = .ok (.lmul, 1) := by decide +kernel
theorem dL_told_121 : decode cL_told 121 = .ok (.aload_n 0, 1) := by decide +kernel
theorem dL_told_122 : decode cL_told 122 = .ok (.iload_n 3, 1) := by decide +kernel
theorem dL_told_123 : decode cL_told 123 = .ok (.iconst 3, 1) := by decide +kernel
theorem dL_told_124 : decode cL_told 124 = .ok (.invokevirtual 25, 3) := by decide +kernel
theorem dL_told_127 : decode cL_told 127 = .ok (.i2l, 1) := by decide +kernel
theorem dL_told_128 : decode cL_told 128 = .ok (.ladd, 1) := by decide +kernel
theorem dL_told_129 : decode cL_told 129 = .ok (.lmul, 1) := by decide +kernel
theorem dL_told_130 : decode cL_told 130 = .ok (.aload_n 0, 1) := by decide +kernel
theorem dL_told_131 : decode cL_told 131 = .ok (.iload_n 3, 1) := by decide +kernel
theorem dL_told_132 : decode cL_told 132 = .ok (.iconst 5, 1) := by decide +kernel
theorem dL_told_133 : decode cL_told 133 = .ok (.invokevirtual 25, 3) := by decide +kernel
theorem dL_told_136 : decode cL_told 136 = .ok (.i2l, 1) := by decide +kernel
theorem dL_told_137 : decode cL_told 137 = .ok (.ladd, 1) := by decide +kernel
theorem dL_told_138 : decode cL_told 138 = .ok (.lstore_n 1, 1) := by decide +kernel
theorem dL_told_139 : decode cL_told 139 = .ok (.iinc 3 1, 3) := by decide +kernel
theorem dL_told_142 : decode cL_told 142 = .ok (.goto (-34), 3) := by decide +kernel
theorem dL_told_145 : decode cL_told 145 = .ok (.iconst 1, 1) := by decide +kernel
theorem dL_told_146 : decode cL_told 146 = .ok (.istore_n 3, 1) := by decide +kernel
theorem dL_told_147 : decode cL_told 147 = .ok (.iload_n 3, 1) := by decide +kernel
theorem dL_told_148 : decode cL_told 148 = .ok (.bipush 12, 2) := by decide +kernel
theorem dL_told_150 : decode cL_told 150 = .ok (.if_icmp .ge 35, 3) := by decide +kernel
theorem dL_told_153 : decode cL_told 153 = .ok (.ldc2_w 10, 3) := by decide +kernel
theorem dL_told_156 : decode cL_told 156 = .ok (.ldc2_w 10, 3) := by decide +kernel
theorem dL_told_159 : decode cL_told 159 = .ok (.lload_n 1, 1) := by decide +kernel
theorem dL_told_160 : decode cL_told 160 = .ok (.lmul, 1) := by decide +kernel
theorem dL_told_161 : decode cL_told 161 = .ok (.aload_n 0, 1) := by decide +kernel
theorem dL_told_162 : decode cL_told 162 = .ok (.iload_n 3, 1) := by decide +kernel
theorem dL_told_163 : decode cL_told 163 = .ok (.iconst 0, 1) := by decide +kernel
theorem dL_told_164 : decode cL_told 164 = .ok (.invokevirtual 28, 3) := by decide +kernel
theorem dL_told_167 : decode cL_told 167 = .ok (.i2l, 1) := by decide +kernel
theorem dL_told_168 : decode cL_told 168 = .ok (.ladd, 1) := by decide +kernel
theorem dL_told_169 : decode cL_told 169 = .ok (.lmul, 1) := by decide +kernel
theorem dL_told_170 : decode cL_told 170 = .ok (.aload_n 0, 1) := by decide +kernel
theorem dL_told_171 : decode cL_told 171 = .ok (.iload_n 3, 1) := by decide +kernel
theorem dL_told_172 : decode cL_told 172 = .ok (.iconst 1, 1) := by decide +kernel
theorem dL_told_173 : decode cL_told 173 = .ok (.invokevirtual 28, 3) := by decide +kernel
theorem dL_told_176 : decode cL_told 176 = .ok (.i2l, 1) := by decide +kernel
theorem dL_told_177 : decode cL_told 177 = .ok (.ladd, 1) := by decide +kernel
theorem dL_told_178 : decode cL_told 178 = .ok (.lstore_n 1, 1) := by decide +kernel
theorem dL_told_179 : decode cL_told 179 = .ok (.iinc 3 1, 3) := by decide +kernel
theorem dL_told_182 : decode cL_told 182 = .ok (.goto (-35), 3) := by decide +kernel
theorem dL_told_185 : decode cL_told 185 = .ok (.lload_n 1, 1) := by decide +kernel
theorem dL_told_186 : decode cL_told 186 = .ok (.lreturn, 1) := by decide +kernel
theorem dL_act_0 : decode cL_act 0 = .ok (.iload_n 1, 1) := by decide +kernel
theorem dL_act_1 : decode cL_act 1 = .ok (.iconst 4, 1) := by decide +kernel
theorem dL_act_2 : decode cL_act 2 = .ok (.ishr, 1) := by decide +kernel
theorem dL_act_3 : decode cL_act 3 = .ok (.bipush 11, 2) := by decide +kernel
theorem dL_act_5 : decode cL_act 5 = .ok (.invokestatic 31, 3) := by decide +kernel
theorem dL_act_8 : decode cL_act 8 = .ok (.istore_n 3, 1) := by decide +kernel
theorem dL_act_9 : decode cL_act 9 = .ok (.iload_n 2, 1) := by decide +kernel
theorem dL_act_10 : decode cL_act 10 = .ok (.iload_n 1, 1) := by decide +kernel
theorem dL_act_11 : decode cL_act 11 = .ok (.bipush 20, 2) := by decide +kernel
theorem dL_act_13 : decode cL_act 13 = .ok (.ishr, 1) := by decide +kernel
theorem dL_act_14 : decode cL_act 14 = .ok (.iconst 1, 1) := by decide +kernel
theorem dL_act_15 : decode cL_act 15 = .ok (.iand, 1) := by decide +kernel
theorem dL_act_16 : decode cL_act 16 = .ok (.ifCond .ne 7, 3) := by decide +kernel
theorem dL_act_19 : decode cL_act 19 = .ok (.iconst 2, 1) := by decide +kernel
theorem dL_act_20 : decode cL_act 20 = .ok (.goto 4, 3) := by decide +kernel
theorem dL_act_23 : decode cL_act 23 = .ok (.iconst 4, 1) := by decide +kernel
theorem dL_act_24 : decode cL_act 24 = .ok (.invokestatic 31, 3) := by decide +kernel
theorem dL_act_27 : decode cL_act 27 = .ok (.istore 4, 2) := by decide +kernel
theorem dL_act_29 : decode cL_act 29 = .ok (.iload_n 1, 1) := by decide +kernel
theorem dL_act_30 : decode cL_act 30 = .ok (.bipush 15, 2) := by decide +kernel
theorem dL_act_32 : decode cL_act 32 = .ok (.iand, 1) := by decide +kernel
theorem dL_act_33 : decode cL_act 33 = .ok (.tableswitch 169 0 12 #[67, 67, 67, 95, 117, 125, 125, 125, 132, 132, 139, 145, 151], 67) := by decide +kernel
theorem dL_act_100 : decode cL_act 100 = .ok (.aload_n 0, 1) := by decide +kernel
theorem dL_act_101 : decode cL_act 101 = .ok (.iload 4, 2) := by decide +kernel
theorem dL_act_103 : decode cL_act 103 = .ok (.iload_n 2, 1) := by decide +kernel
theorem dL_act_104 : decode cL_act 104 = .ok (.iconst 3, 1) := by decide +kernel
theorem dL_act_105 : decode cL_act 105 = .ok (.ishr, 1) := by decide +kernel
theorem dL_act_106 : decode cL_act 106 = .ok (.iload_n 1, 1) := by decide +kernel
theorem dL_act_107 : decode cL_act 107 = .ok (.bipush 19, 2) := by decide +kernel
theorem dL_act_109 : decode cL_act 109 = .ok (.ishr, 1) := by decide +kernel
theorem dL_act_110 : decode cL_act 110 = .ok (.iconst 1, 1) := by decide +kernel
theorem dL_act_111 : decode cL_act 111 = .ok (.iand, 1) := by decide +kernel
theorem dL_act_112 : decode cL_act 112 = .ok (.ifCond .ne 7, 3) := by decide +kernel
theorem dL_act_115 : decode cL_act 115 = .ok (.iconst 3, 1) := by decide +kernel
theorem dL_act_116 : decode cL_act 116 = .ok (.goto 5, 3) := by decide +kernel
theorem dL_act_119 : decode cL_act 119 = .ok (.bipush 11, 2) := by decide +kernel
theorem dL_act_121 : decode cL_act 121 = .ok (.invokestatic 31, 3) := by decide +kernel
theorem dL_act_124 : decode cL_act 124 = .ok (.invokevirtual 36, 3) := by decide +kernel
theorem dL_act_127 : decode cL_act 127 = .ok (.ireturn, 1) := by decide +kernel
theorem dL_act_128 : decode cL_act 128 = .ok (.iload_n 2, 1) := by decide +kernel
theorem dL_act_129 : decode cL_act 129 = .ok (.iconst 5, 1) := by decide +kernel
theorem dL_act_130 : decode cL_act 130 = .ok (.ishr, 1) := by decide +kernel
theorem dL_act_131 : decode cL_act 131 = .ok (.iconst 3, 1) := by decide +kernel
theorem dL_act_132 : decode cL_act 132 = .ok (.iand, 1) := by decide +kernel
theorem dL_act_133 : decode cL_act 133 = .ok (.ifCond .le 11, 3) := by decide +kernel
theorem dL_act_136 : decode cL_act 136 = .ok (.aload_n 0, 1) := by decide +kernel
theorem dL_act_137 : decode cL_act 137 = .ok (.iconst 0, 1) := by decide +kernel
theorem dL_act_138 : decode cL_act 138 = .ok (.invokevirtual 39, 3) := by decide +kernel
theorem dL_act_141 : decode cL_act 141 = .ok (.goto 8, 3) := by decide +kernel
theorem dL_act_144 : decode cL_act 144 = .ok (.aload_n 0, 1) := by decide +kernel
theorem dL_act_145 : decode cL_act 145 = .ok (.iload_n 3, 1) := by decide +kernel
theorem dL_act_146 : decode cL_act 146 = .ok (.invokevirtual 42, 3) := by decide +kernel
theorem dL_act_149 : decode cL_act 149 = .ok (.ireturn, 1) := by decide +kernel
theorem dL_act_150 : decode cL_act 150 = .ok (.aload_n 0, 1) := by decide +kernel
theorem dL_act_151 : decode cL_act 151 = .ok (.iload_n 3, 1) := by decide +kernel
theorem dL_act_152 : decode cL_act 152 = .ok (.iload 4, 2) := by decide +kernel
theorem dL_act_154 : decode cL_act 154 = .ok (.invokevirtual 45, 3) := by decide +kernel
theorem dL_act_157 : decode cL_act 157 = .ok (.ireturn, 1) := by decide +kernel
theorem dL_act_158 : decode cL_act 158 = .ok (.aload_n 0, 1) := by decide +kernel
theorem dL_act_159 : decode cL_act 159 = .ok (.iload 4, 2) := by decide +kernel
theorem dL_act_161 : decode cL_act 161 = .ok (.invokevirtual 48, 3) := by decide +kernel
theorem dL_act_164 : decode cL_act 164 = .ok (.ireturn, 1) := by decide +kernel
theorem dL_act_165 : decode cL_act 165 = .ok (.aload_n 0, 1) := by decide +kernel
theorem dL_act_166 : decode cL_act 166 = .ok (.iload 4, 2) := by decide +kernel
theorem dL_act_168 : decode cL_act 168 = .ok (.invokevirtual 51, 3) := by decide +kernel
theorem dL_act_171 : decode cL_act 171 = .ok (.ireturn, 1) := by decide +kernel
theorem dL_act_172 : decode cL_act 172 = .ok (.aload_n 0, 1) := by decide +kernel
theorem dL_act_173 : decode cL_act 173 = .ok (.iload_n 3, 1) := by decide +kernel
theorem dL_act_174 : decode cL_act 174 = .ok (.invokevirtual 54, 3) := by decide +kernel
theorem dL_act_177 : decode cL_act 177 = .ok (.ireturn, 1) := by decide +kernel
theorem dL_act_178 : decode cL_act 178 = .ok (.aload_n 0, 1) := by decide +kernel
theorem dL_act_179 : decode cL_act 179 = .ok (.iload_n 3, 1) := by decide +kernel
theorem dL_act_180 : decode cL_act 180 = .ok (.invokevirtual 57, 3) := by decide +kernel
theorem dL_act_183 : decode cL_act 183 = .ok (.ireturn, 1) := by decide +kernel
theorem dL_act_184 : decode cL_act 184 = .ok (.aload_n 0, 1) := by decide +kernel
theorem dL_act_185 : decode cL_act 185 = .ok (.iload_n 2, 1) := by decide +kernel
theorem dL_act_186 : decode cL_act 186 = .ok (.iconst 5, 1) := by decide +kernel
theorem dL_act_187 : decode cL_act 187 = .ok (.invokestatic 31, 3) := by decide +kernel
theorem dL_act_190 : decode cL_act 190 = .ok (.iload_n 2, 1) := by decide +kernel
theorem dL_act_191 : decode cL_act 191 = .ok (.iconst 3, 1) := by decide +kernel
theorem dL_act_192 : decode cL_act 192 = .ok (.ishr, 1) := by decide +kernel
theorem dL_act_193 : decode cL_act 193 = .ok (.bipush 10, 2) := by decide +kernel
theorem dL_act_195 : decode cL_act 195 = .ok (.invokestatic 31, 3) := by decide +kernel
theorem dL_act_198 : decode cL_act 198 = .ok (.invokevirtual 60, 3) := by decide +kernel
theorem dL_act_201 : decode cL_act 201 = .ok (.ireturn, 1) := by decide +kernel
theorem dL_act_202 : decode cL_act 202 = .ok (.aload_n 0, 1) := by decide +kernel
theorem dL_act_203 : decode cL_act 203 = .ok (.iload_n 2, 1) := by decide +kernel
theorem dL_act_204 : decode cL_act 204 = .ok (.iload_n 1, 1) := by decide +kernel
theorem dL_act_205 : decode cL_act 205 = .ok (.bipush 20, 2) := by decide +kernel
theorem dL_act_207 : decode cL_act 207 = .ok (.ishr, 1) := by decide +kernel
theorem dL_act_208 : decode cL_act 208 = .ok (.iconst 1, 1) := by decide +kernel
theorem dL_act_209 : decode cL_act 209 = .ok (.iand, 1) := by decide +kernel
theorem dL_act_210 : decode cL_act 210 = .ok (.ifCond .ne 8, 3) := by decide +kernel
theorem dL_act_213 : decode cL_act 213 = .ok (.bipush 7, 2) := by decide +kernel
theorem dL_act_215 : decode cL_act 215 = .ok (.goto 5, 3) := by decide +kernel
theorem dL_act_218 : decode cL_act 218 = .ok (.bipush 101, 2) := by decide +kernel
theorem dL_act_220 : decode cL_act 220 = .ok (.invokestatic 31, 3) := by decide +kernel
theorem dL_act_223 : decode cL_act 223 = .ok (.invokevirtual 63, 3) := by decide +kernel
theorem dL_act_226 : decode cL_act 226 = .ok (.ireturn, 1) := by decide +kernel
theorem dL_holds_0 : decode cL_holds 0 = .ok (.iconst 0, 1) := by decide +kernel
theorem dL_holds_1 : decode cL_holds 1 = .ok (.istore_n 1, 1) := by decide +kernel
theorem dL_holds_2 : decode cL_holds 2 = .ok (.iconst 0, 1) := by decide +kernel
theorem dL_holds_3 : decode cL_holds 3 = .ok (.istore_n 2, 1) := by decide +kernel
theorem dL_holds_4 : decode cL_holds 4 = .ok (.iconst 0, 1) := by decide +kernel
theorem dL_holds_5 : decode cL_holds 5 = .ok (.istore_n 3, 1) := by decide +kernel
theorem dL_holds_6 : decode cL_holds 6 = .ok (.iload_n 3, 1) := by decide +kernel
theorem dL_holds_7 : decode cL_holds 7 = .ok (.iconst 3, 1) := by decide +kernel
theorem dL_holds_8 : decode cL_holds 8 = .ok (.if_icmp .ge 290, 3) := by decide +kernel
theorem dL_holds_11 : decode cL_holds 11 = .ok (.aload_n 0, 1) := by decide +kernel
theorem dL_holds_12 : decode cL_holds 12 = .ok (.iload_n 3, 1) := by decide +kernel
theorem dL_holds_13 : decode cL_holds 13 = .ok (.iconst 0, 1) := by decide +kernel
theorem dL_holds_14 : decode cL_holds 14 = .ok (.invokevirtual 25, 3) := by decide +kernel
theorem dL_holds_17 : decode cL_holds 17 = .ok (.istore 4, 2) := by decide +kernel
theorem dL_holds_19 : decode cL_holds 19 = .ok (.aload_n 0, 1) := by decide +kernel
theorem dL_holds_20 : decode cL_holds 20 = .ok (.iload_n 3, 1) := by decide +kernel
theorem dL_holds_21 : decode cL_holds 21 = .ok (.iconst 1, 1) := by decide +kernel
theorem dL_holds_22 : decode cL_holds 22 = .ok (.invokevirtual 25, 3) := by decide +kernel
theorem dL_holds_25 : decode cL_holds 25 = .ok (.istore 5, 2) := by decide +kernel
theorem dL_holds_27 : decode cL_holds 27 = .ok (.aload_n 0, 1) := by decide +kernel
theorem dL_holds_28 : decode cL_holds 28 = .ok (.iload_n 3, 1) := by decide +kernel
theorem dL_holds_29 : decode cL_holds 29 = .ok (.iconst 3, 1) := by decide +kernel
theorem dL_holds_30 : decode cL_holds 30 = .ok (.invokevirtual 25, 3) := by decide +kernel
theorem dL_holds_33 : decode cL_holds 33 = .ok (.istore 6, 2) := by decide +kernel
theorem dL_holds_35 : decode cL_holds 35 = .ok (.iload_n 2, 1) := by decide +kernel
theorem dL_holds_36 : decode cL_holds 36 = .ok (.aload_n 0, 1) := by decide +kernel
theorem dL_holds_37 : decode cL_holds 37 = .ok (.iload_n 3, 1) := by decide +kernel
theorem dL_holds_38 : decode cL_holds 38 = .ok (.iconst 5, 1) := by decide +kernel
theorem dL_holds_39 : decode cL_holds 39 = .ok (.invokevirtual 25, 3) := by decide +kernel
theorem dL_holds_42 : decode cL_holds 42 = .ok (.iadd, 1) := by decide +kernel
theorem dL_holds_43 : decode cL_holds 43 = .ok (.istore_n 2, 1) := by decide +kernel
theorem dL_holds_44 : decode cL_holds 44 = .ok (.iload_n 1, 1) := by decide +kernel
theorem dL_holds_45 : decode cL_holds 45 = .ok (.iload 4, 2) := by decide +kernel
theorem dL_holds_47 : decode cL_holds 47 = .ok (.iand, 1) := by decide +kernel
theorem dL_holds_48 : decode cL_holds 48 = .ok (.ifCond .ne 68, 3) := by decide +kernel
theorem dL_holds_51 : decode cL_holds 51 = .ok (.iload 4, 2) := by decide +kernel
theorem dL_holds_53 : decode cL_holds 53 = .ok (.ifCond .ne 7, 3) := by decide +kernel
theorem dL_holds_56 : decode cL_holds 56 = .ok (.iconst 1, 1) := by decide +kernel
theorem dL_holds_57 : decode cL_holds 57 = .ok (.goto 4, 3) := by decide +kernel
theorem dL_holds_60 : decode cL_holds 60 = .ok (.iconst 0, 1) := by decide +kernel
theorem dL_holds_61 : decode cL_holds 61 = .ok (.iload 5, 2) := by decide +kernel
theorem dL_holds_63 : decode cL_holds 63 = .ok (.bipush (-6), 2) := by decide +kernel
theorem dL_holds_65 : decode cL_holds 65 = .ok (.if_icmp .ne 7, 3) := by decide +kernel
theorem dL_holds_68 : decode cL_holds 68 = .ok (.iconst 1, 1) := by decide +kernel
theorem dL_holds_69 : decode cL_holds 69 = .ok (.goto 4, 3) := by decide +kernel
theorem dL_holds_72 : decode cL_holds 72 = .ok (.iconst 0, 1) := by decide +kernel
theorem dL_holds_73 : decode cL_holds 73 = .ok (.if_icmp .ne 43, 3) := by decide +kernel
theorem dL_holds_76 : decode cL_holds 76 = .ok (.iload 4, 2) := by decide +kernel
theorem dL_holds_78 : decode cL_holds 78 = .ok (.ifCond .ne 10, 3) := by decide +kernel
theorem dL_holds_81 : decode cL_holds 81 = .ok (.iload 6, 2) := by decide +kernel
theorem dL_holds_83 : decode cL_holds 83 = .ok (.bipush (-6), 2) := by decide +kernel
theorem dL_holds_85 : decode cL_holds 85 = .ok (.if_icmp .ne 31, 3) := by decide +kernel
theorem dL_holds_88 : decode cL_holds 88 = .ok (.iload 6, 2) := by decide +kernel
theorem dL_holds_90 : decode cL_holds 90 = .ok (.ifCond .ge 7, 3) := by decide +kernel
theorem dL_holds_93 : decode cL_holds 93 = .ok (.iconst 1, 1) := by decide +kernel
theorem dL_holds_94 : decode cL_holds 94 = .ok (.goto 4, 3) := by decide +kernel
theorem dL_holds_97 : decode cL_holds 97 = .ok (.iconst 0, 1) := by decide +kernel
theorem dL_holds_98 : decode cL_holds 98 = .ok (.aload_n 0, 1) := by decide +kernel
theorem dL_holds_99 : decode cL_holds 99 = .ok (.iload_n 3, 1) := by decide +kernel
theorem dL_holds_100 : decode cL_holds 100 = .ok (.invokevirtual 66, 3) := by decide +kernel
theorem dL_holds_103 : decode cL_holds 103 = .ok (.bipush (-5), 2) := by decide +kernel
theorem dL_holds_105 : decode cL_holds 105 = .ok (.if_icmp .ne 7, 3) := by decide +kernel
theorem dL_holds_108 : decode cL_holds 108 = .ok (.iconst 1, 1) := by decide +kernel
theorem dL_holds_109 : decode cL_holds 109 = .ok (.goto 4, 3) := by decide +kernel
theorem dL_holds_112 : decode cL_holds 112 = .ok (.iconst 0, 1) := by decide +kernel
theorem dL_holds_113 : decode cL_holds 113 = .ok (.if_icmp .eq 5, 3) := by decide +kernel
theorem dL_holds_116 : decode cL_holds 116 = .ok (.iconst 0, 1) := by decide +kernel
theorem dL_holds_117 : decode cL_holds 117 = .ok (.ireturn, 1) := by decide +kernel
theorem dL_holds_118 : decode cL_holds 118 = .ok (.iload_n 1, 1) := by decide +kernel
theorem dL_holds_119 : decode cL_holds 119 = .ok (.iload 4, 2) := by decide +kernel
theorem dL_holds_121 : decode cL_holds 121 = .ok (.ior, 1) := by decide +kernel
theorem dL_holds_122 : decode cL_holds 122 = .ok (.istore_n 1, 1) := by decide +kernel
theorem dL_holds_123 : decode cL_holds 123 = .ok (.iconst 0, 1) := by decide +kernel
theorem dL_holds_124 : decode cL_holds 124 = .ok (.istore 7, 2) := by decide +kernel
theorem dL_holds_126 : decode cL_holds 126 = .ok (.iload 7, 2) := by decide +kernel
theorem dL_holds_128 : decode cL_holds 128 = .ok (.bipush 10, 2) := by decide +kernel
theorem dL_holds_130 : decode cL_holds 130 = .ok (.if_icmp .ge 105, 3) := by decide +kernel
theorem dL_holds_133 : decode cL_holds 133 = .ok (.iload 4, 2) := by decide +kernel
theorem dL_holds_135 : decode cL_holds 135 = .ok (.iload 7, 2) := by decide +kernel
theorem dL_holds_137 : decode cL_holds 137 = .ok (.ishr, 1) := by decide +kernel
theorem dL_holds_138 : decode cL_holds 138 = .ok (.iconst 1, 1) := by decide +kernel
theorem dL_holds_139 : decode cL_holds 139 = .ok (.iand, 1) := by decide +kernel
theorem dL_holds_140 : decode cL_holds 140 = .ok (.iconst 1, 1) := by decide +kernel
theorem dL_holds_141 : decode cL_holds 141 = .ok (.if_icmp .ne 7, 3) := by decide +kernel
theorem dL_holds_144 : decode cL_holds 144 = .ok (.iconst 1, 1) := by decide +kernel
theorem dL_holds_145 : decode cL_holds 145 = .ok (.goto 4, 3) := by decide +kernel
theorem dL_holds_148 : decode cL_holds 148 = .ok (.iconst 0, 1) := by decide +kernel
theorem dL_holds_149 : decode cL_holds 149 = .ok (.istore 8, 2) := by decide +kernel
theorem dL_holds_151 : decode cL_holds 151 = .ok (.iload 8, 2) := by decide +kernel
theorem dL_holds_153 : decode cL_holds 153 = .ok (.ifCond .eq 76, 3) := by decide +kernel
theorem dL_holds_156 : decode cL_holds 156 = .ok (.aload_n 0, 1) := by decide +kernel
theorem dL_holds_157 : decode cL_holds 157 = .ok (.iload 7, 2) := by decide +kernel
theorem dL_holds_159 : decode cL_holds 159 = .ok (.iconst 0, 1) := by decide +kernel
theorem dL_holds_160 : decode cL_holds 160 = .ok (.invokevirtual 18, 3) := by decide +kernel
theorem dL_holds_163 : decode cL_holds 163 = .ok (.iload_n 3, 1) := by decide +kernel
theorem dL_holds_164 : decode cL_holds 164 = .ok (.if_icmp .ne 63, 3) := by decide +kernel
theorem dL_holds_167 : decode cL_holds 167 = .ok (.aload_n 0, 1) := by decide +kernel
theorem dL_holds_168 : decode cL_holds 168 = .ok (.iload 7, 2) := by decide +kernel
theorem dL_holds_170 : decode cL_holds 170 = .ok (.iconst 1, 1) := by decide +kernel
theorem dL_holds_171 : decode cL_holds 171 = .ok (.invokevirtual 18, 3) := by decide +kernel
theorem dL_holds_174 : decode cL_holds 174 = .ok (.aload_n 0, 1) := by decide +kernel
theorem dL_holds_175 : decode cL_holds 175 = .ok (.iload 5, 2) := by decide +kernel
theorem dL_holds_177 : decode cL_holds 177 = .ok (.iconst 1, 1) := by decide +kernel
theorem dL_holds_178 : decode cL_holds 178 = .ok (.invokevirtual 18, 3) := by decide +kernel
theorem dL_holds_181 : decode cL_holds 181 = .ok (.if_icmp .gt 46, 3) := by decide +kernel
theorem dL_holds_184 : decode cL_holds 184 = .ok (.aload_n 0, 1) := by decide +kernel
theorem dL_holds_185 : decode cL_holds 185 = .ok (.iload 7, 2) := by decide +kernel
theorem dL_holds_187 : decode cL_holds 187 = .ok (.iconst 4, 1) := by decide +kernel
theorem dL_holds_188 : decode cL_holds 188 = .ok (.invokevirtual 18, 3) := by decide +kernel
theorem dL_holds_191 : decode cL_holds 191 = .ok (.iload 7, 2) := by decide +kernel
theorem dL_holds_193 : decode cL_holds 193 = .ok (.iload 5, 2) := by decide +kernel
theorem dL_holds_195 : decode cL_holds 195 = .ok (.if_icmp .ne 7, 3) := by decide +kernel
theorem dL_holds_198 : decode cL_holds 198 = .ok (.iconst 1, 1) := by decide +kernel
theorem dL_holds_199 : decode cL_holds 199 = .ok (.goto 4, 3) := by decide +kernel
theorem dL_holds_202 : decode cL_holds 202 = .ok (.iconst 0, 1) := by decide +kernel
theorem dL_holds_203 : decode cL_holds 203 = .ok (.if_icmp .ne 24, 3) := by decide +kernel
theorem dL_holds_206 : decode cL_holds 206 = .ok (.aload_n 0, 1) := by decide +kernel
theorem dL_holds_207 : decode cL_holds 207 = .ok (.iload 7, 2) := by decide +kernel
theorem dL_holds_209 : decode cL_holds 209 = .ok (.iconst 3, 1) := by decide +kernel
theorem dL_holds_210 : decode cL_holds 210 = .ok (.invokevirtual 18, 3) := by decide +kernel
theorem dL_holds_213 : decode cL_holds 213 = .ok (.ifCond .lt 14, 3) := by decide +kernel
theorem dL_holds_216 : decode cL_holds 216 = .ok (.aload_n 0, 1) := by decide +kernel
theorem dL_holds_217 : decode cL_holds 217 = .ok (.iload 7, 2) := by decide +kernel
theorem dL_holds_219 : decode cL_holds 219 = .ok (.invokevirtual 69, 3) := by decide +kernel
theorem dL_holds_222 : decode cL_holds 222 = .ok (.iload 7, 2) := by decide +kernel
theorem dL_holds_224 : decode cL_holds 224 = .ok (.if_icmp .ne 5, 3) := by decide +kernel
theorem dL_holds_227 : decode cL_holds 227 = .ok (.iconst 0, 1) := by decide +kernel
theorem dL_holds_228 : decode cL_holds 228 = .ok (.ireturn, 1) := by decide +kernel
theorem dL_holds_229 : decode cL_holds 229 = .ok (.iinc 7 1, 3) := by decide +kernel
theorem dL_holds_232 : decode cL_holds 232 = .ok (.goto (-106), 3) := by decide +kernel
theorem dL_holds_235 : decode cL_holds 235 = .ok (.iload 6, 2) := by decide +kernel
theorem dL_holds_237 : decode cL_holds 237 = .ok (.ifCond .lt 55, 3) := by decide +kernel
theorem dL_holds_240 : decode cL_holds 240 = .ok (.aload_n 0, 1) := by decide +kernel
theorem dL_holds_241 : decode cL_holds 241 = .ok (.iload_n 3, 1) := by decide +kernel
theorem dL_holds_242 : decode cL_holds 242 = .ok (.iconst 4, 1) := by decide +kernel
theorem dL_holds_243 : decode cL_holds 243 = .ok (.invokevirtual 25, 3) := by decide +kernel
theorem dL_holds_246 : decode cL_holds 246 = .ok (.aload_n 0, 1) := by decide +kernel
theorem dL_holds_247 : decode cL_holds 247 = .ok (.iload_n 3, 1) := by decide +kernel
theorem dL_holds_248 : decode cL_holds 248 = .ok (.iload 6, 2) := by decide +kernel
theorem dL_holds_250 : decode cL_holds 250 = .ok (.sipush 999, 3) := by decide +kernel
theorem dL_holds_253 : decode cL_holds 253 = .ok (.if_icmp .le 9, 3) := by decide +kernel
theorem dL_holds_256 : decode cL_holds 256 = .ok (.sipush 999, 3) := by decide +kernel
theorem dL_holds_259 : decode cL_holds 259 = .ok (.goto 5, 3) := by decide +kernel
theorem dL_holds_262 : decode cL_holds 262 = .ok (.iload 6, 2) := by decide +kernel
theorem dL_holds_264 : decode cL_holds 264 = .ok (.invokevirtual 72, 3) := by decide +kernel
theorem dL_holds_267 : decode cL_holds 267 = .ok (.if_icmp .ne 23, 3) := by decide +kernel
theorem dL_holds_270 : decode cL_holds 270 = .ok (.iload 6, 2) := by decide +kernel
theorem dL_holds_272 : decode cL_holds 272 = .ok (.aload_n 0, 1) := by decide +kernel
theorem dL_holds_273 : decode cL_holds 273 = .ok (.bipush 9, 2) := by decide +kernel
theorem dL_holds_275 : decode cL_holds 275 = .ok (.invokevirtual 12, 3) := by decide +kernel
theorem dL_holds_278 : decode cL_holds 278 = .ok (.if_icmp .ge 14, 3) := by decide +kernel
theorem dL_holds_281 : decode cL_holds 281 = .ok (.aload_n 0, 1) := by decide +kernel
theorem dL_holds_282 : decode cL_holds 282 = .ok (.iload_n 3, 1) := by decide +kernel
theorem dL_holds_283 : decode cL_holds 283 = .ok (.iconst 4, 1) := by decide +kernel
theorem dL_holds_284 : decode cL_holds 284 = .ok (.invokevirtual 25, 3) := by decide +kernel
theorem dL_holds_287 : decode cL_holds 287 = .ok (.ifCond .eq 5, 3) := by decide +kernel
theorem dL_holds_290 : decode cL_holds 290 = .ok (.iconst 0, 1) := by decide +kernel
theorem dL_holds_291 : decode cL_holds 291 = .ok (.ireturn, 1) := by decide +kernel
theorem dL_holds_292 : decode cL_holds 292 = .ok (.iinc 3 1, 3) := by decide +kernel
theorem dL_holds_295 : decode cL_holds 295 = .ok (.goto (-289), 3) := by decide +kernel
theorem dL_holds_298 : decode cL_holds 298 = .ok (.iconst 0, 1) := by decide +kernel
theorem dL_holds_299 : decode cL_holds 299 = .ok (.istore_n 3, 1) := by decide +kernel
theorem dL_holds_300 : decode cL_holds 300 = .ok (.iconst 1, 1) := by decide +kernel
theorem dL_holds_301 : decode cL_holds 301 = .ok (.istore 4, 2) := by decide +kernel
theorem dL_holds_303 : decode cL_holds 303 = .ok (.iload 4, 2) := by decide +kernel
theorem dL_holds_305 : decode cL_holds 305 = .ok (.bipush 12, 2) := by decide +kernel
theorem dL_holds_307 : decode cL_holds 307 = .ok (.if_icmp .ge 80, 3) := by decide +kernel
theorem dL_holds_310 : decode cL_holds 310 = .ok (.iload_n 3, 1) := by decide +kernel
theorem dL_holds_311 : decode cL_holds 311 = .ok (.aload_n 0, 1) := by decide +kernel
theorem dL_holds_312 : decode cL_holds 312 = .ok (.iload 4, 2) := by decide +kernel
theorem dL_holds_314 : decode cL_holds 314 = .ok (.iconst 0, 1) := by decide +kernel
theorem dL_holds_315 : decode cL_holds 315 = .ok (.invokevirtual 28, 3) := by decide +kernel
theorem dL_holds_318 : decode cL_holds 318 = .ok (.ifCond .le 10, 3) := by decide +kernel
theorem dL_holds_321 : decode cL_holds 321 = .ok (.iconst 1, 1) := by decide +kernel
theorem dL_holds_322 : decode cL_holds 322 = .ok (.iload 4, 2) := by decide +kernel
theorem dL_holds_324 : decode cL_holds 324 = .ok (.ishl, 1) := by decide +kernel
theorem dL_holds_325 : decode cL_holds 325 = .ok (.goto 4, 3) := by decide +kernel
theorem dL_holds_328 : decode cL_holds 328 = .ok (.iconst 0, 1) := by decide +kernel
theorem dL_holds_329 : decode cL_holds 329 = .ok (.ior, 1) := by decide +kernel
theorem dL_holds_330 : decode cL_holds 330 = .ok (.istore_n 3, 1) := by decide +kernel
theorem dL_holds_331 : decode cL_holds 331 = .ok (.aload_n 0, 1) := by decide +kernel
theorem dL_holds_332 : decode cL_holds 332 = .ok (.iload 4, 2) := by decide +kernel
theorem dL_holds_334 : decode cL_holds 334 = .ok (.iconst 0, 1) := by decide +kernel
theorem dL_holds_335 : decode cL_holds 335 = .ok (.invokevirtual 28, 3) := by decide +kernel
theorem dL_holds_338 : decode cL_holds 338 = .ok (.ifCond .le 7, 3) := by decide +kernel
theorem dL_holds_341 : decode cL_holds 341 = .ok (.iconst 1, 1) := by decide +kernel
theorem dL_holds_342 : decode cL_holds 342 = .ok (.goto 4, 3) := by decide +kernel
theorem dL_holds_345 : decode cL_holds 345 = .ok (.iconst 0, 1) := by decide +kernel
theorem dL_holds_346 : decode cL_holds 346 = .ok (.aload_n 0, 1) := by decide +kernel
theorem dL_holds_347 : decode cL_holds 347 = .ok (.iload 4, 2) := by decide +kernel
theorem dL_holds_349 : decode cL_holds 349 = .ok (.iconst 1, 1) := by decide +kernel
theorem dL_holds_350 : decode cL_holds 350 = .ok (.invokevirtual 28, 3) := by decide +kernel
theorem dL_holds_353 : decode cL_holds 353 = .ok (.ifCond .le 7, 3) := by decide +kernel
theorem dL_holds_356 : decode cL_holds 356 = .ok (.iconst 1, 1) := by decide +kernel
theorem dL_holds_357 : decode cL_holds 357 = .ok (.goto 4, 3) := by decide +kernel
theorem dL_holds_360 : decode cL_holds 360 = .ok (.iconst 0, 1) := by decide +kernel
theorem dL_holds_361 : decode cL_holds 361 = .ok (.if_icmp .ne 18, 3) := by decide +kernel
theorem dL_holds_364 : decode cL_holds 364 = .ok (.aload_n 0, 1) := by decide +kernel
theorem dL_holds_365 : decode cL_holds 365 = .ok (.iload 4, 2) := by decide +kernel
theorem dL_holds_367 : decode cL_holds 367 = .ok (.iconst 0, 1) := by decide +kernel
theorem dL_holds_368 : decode cL_holds 368 = .ok (.invokevirtual 28, 3) := by decide +kernel
theorem dL_holds_371 : decode cL_holds 371 = .ok (.aload_n 0, 1) := by decide +kernel
theorem dL_holds_372 : decode cL_holds 372 = .ok (.iconst 3, 1) := by decide +kernel
theorem dL_holds_373 : decode cL_holds 373 = .ok (.invokevirtual 12, 3) := by decide +kernel
theorem dL_holds_376 : decode cL_holds 376 = .ok (.if_icmp .le 5, 3) := by decide +kernel
theorem dL_holds_379 : decode cL_holds 379 = .ok (.iconst 0, 1) := by decide +kernel
theorem dL_holds_380 : decode cL_holds 380 = .ok (.ireturn, 1) := by decide +kernel
theorem dL_holds_381 : decode cL_holds 381 = .ok (.iinc 4 1, 3) := by decide +kernel
theorem dL_holds_384 : decode cL_holds 384 = .ok (.goto (-81), 3) := by decide +kernel
theorem dL_holds_387 : decode cL_holds 387 = .ok (.aload_n 0, 1) := by decide +kernel
theorem dL_holds_388 : decode cL_holds 388 = .ok (.invokevirtual 75, 3) := by decide +kernel
theorem dL_holds_391 : decode cL_holds 391 = .ok (.istore 4, 2) := by decide +kernel
theorem dL_holds_393 : decode cL_holds 393 = .ok (.iload 4, 2) := by decide +kernel
theorem dL_holds_395 : decode cL_holds 395 = .ok (.bipush (-6), 2) := by decide +kernel
theorem dL_holds_397 : decode cL_holds 397 = .ok (.if_icmp .ne 15, 3) := by decide +kernel
theorem dL_holds_400 : decode cL_holds 400 = .ok (.iload_n 3, 1) := by decide +kernel
theorem dL_holds_401 : decode cL_holds 401 = .ok (.ifCond .ne 7, 3) := by decide +kernel
theorem dL_holds_404 : decode cL_holds 404 = .ok (.iconst 1, 1) := by decide +kernel
theorem dL_holds_405 : decode cL_holds 405 = .ok (.goto 22, 3) := by decide +kernel
theorem dL_holds_408 : decode cL_holds 408 = .ok (.iconst 0, 1) := by decide +kernel
theorem dL_holds_409 : decode cL_holds 409 = .ok (.goto 18, 3) := by decide +kernel
theorem dL_holds_412 : decode cL_holds 412 = .ok (.iload_n 3, 1) := by decide +kernel
theorem dL_holds_413 : decode cL_holds 413 = .ok (.iload 4, 2) := by decide +kernel
theorem dL_holds_415 : decode cL_holds 415 = .ok (.ishr, 1) := by decide +kernel
theorem dL_holds_416 : decode cL_holds 416 = .ok (.iconst 1, 1) := by decide +kernel
theorem dL_holds_417 : decode cL_holds 417 = .ok (.iand, 1) := by decide +kernel
theorem dL_holds_418 : decode cL_holds 418 = .ok (.iconst 1, 1) := by decide +kernel
theorem dL_holds_419 : decode cL_holds 419 = .ok (.if_icmp .ne 7, 3) := by decide +kernel
theorem dL_holds_422 : decode cL_holds 422 = .ok (.iconst 1, 1) := by decide +kernel
theorem dL_holds_423 : decode cL_holds 423 = .ok (.goto 4, 3) := by decide +kernel
theorem dL_holds_426 : decode cL_holds 426 = .ok (.iconst 0, 1) := by decide +kernel
theorem dL_holds_427 : decode cL_holds 427 = .ok (.istore 5, 2) := by decide +kernel
theorem dL_holds_429 : decode cL_holds 429 = .ok (.iload 5, 2) := by decide +kernel
theorem dL_holds_431 : decode cL_holds 431 = .ok (.ifCond .eq 47, 3) := by decide +kernel
theorem dL_holds_434 : decode cL_holds 434 = .ok (.iload_n 1, 1) := by decide +kernel
theorem dL_holds_435 : decode cL_holds 435 = .ok (.aload_n 0, 1) := by decide +kernel
theorem dL_holds_436 : decode cL_holds 436 = .ok (.iconst 1, 1) := by decide +kernel
theorem dL_holds_437 : decode cL_holds 437 = .ok (.invokevirtual 12, 3) := by decide +kernel
theorem dL_holds_440 : decode cL_holds 440 = .ok (.if_icmp .ne 38, 3) := by decide +kernel
theorem dL_holds_443 : decode cL_holds 443 = .ok (.iload_n 3, 1) := by decide +kernel
theorem dL_holds_444 : decode cL_holds 444 = .ok (.aload_n 0, 1) := by decide +kernel
theorem dL_holds_445 : decode cL_holds 445 = .ok (.bipush 7, 2) := by decide +kernel
theorem dL_holds_447 : decode cL_holds 447 = .ok (.invokevirtual 12, 3) := by decide +kernel
theorem dL_holds_450 : decode cL_holds 450 = .ok (.if_icmp .ne 28, 3) := by decide +kernel
theorem dL_holds_453 : decode cL_holds 453 = .ok (.iload_n 2, 1) := by decide +kernel
theorem dL_holds_454 : decode cL_holds 454 = .ok (.aload_n 0, 1) := by decide +kernel
theorem dL_holds_455 : decode cL_holds 455 = .ok (.iconst 3, 1) := by decide +kernel
theorem dL_holds_456 : decode cL_holds 456 = .ok (.invokevirtual 12, 3) := by decide +kernel
theorem dL_holds_459 : decode cL_holds 459 = .ok (.aload_n 0, 1) := by decide +kernel
theorem dL_holds_460 : decode cL_holds 460 = .ok (.iconst 4, 1) := by decide +kernel
theorem dL_holds_461 : decode cL_holds 461 = .ok (.invokevirtual 12, 3) := by decide +kernel
theorem dL_holds_464 : decode cL_holds 464 = .ok (.iadd, 1) := by decide +kernel
theorem dL_holds_465 : decode cL_holds 465 = .ok (.aload_n 0, 1) := by decide +kernel
theorem dL_holds_466 : decode cL_holds 466 = .ok (.iconst 5, 1) := by decide +kernel
theorem dL_holds_467 : decode cL_holds 467 = .ok (.invokevirtual 12, 3) := by decide +kernel
theorem dL_holds_470 : decode cL_holds 470 = .ok (.iadd, 1) := by decide +kernel
theorem dL_holds_471 : decode cL_holds 471 = .ok (.if_icmp .ne 7, 3) := by decide +kernel
theorem dL_holds_474 : decode cL_holds 474 = .ok (.iconst 1, 1) := by decide +kernel
theorem dL_holds_475 : decode cL_holds 475 = .ok (.goto 4, 3) := by decide +kernel
theorem dL_holds_478 : decode cL_holds 478 = .ok (.iconst 0, 1) := by decide +kernel
theorem dL_holds_479 : decode cL_holds 479 = .ok (.ireturn, 1) := by decide +kernel
theorem dL_isBroken_0 : decode cL_isBroken 0 = .ok (.aload_n 0, 1) := by decide +kernel
theorem dL_isBroken_1 : decode cL_isBroken 1 = .ok (.bipush 7, 2) := by decide +kernel
theorem dL_isBroken_3 : decode cL_isBroken 3 = .ok (.invokevirtual 12, 3) := by decide +kernel
theorem dL_isBroken_6 : decode cL_isBroken 6 = .ok (.istore_n 3, 1) := by decide +kernel
theorem dL_isBroken_7 : decode cL_isBroken 7 = .ok (.aload_n 0, 1) := by decide +kernel
theorem dL_isBroken_8 : decode cL_isBroken 8 = .ok (.iconst 3, 1) := by decide +kernel
theorem dL_isBroken_9 : decode cL_isBroken 9 = .ok (.invokevirtual 12, 3) := by decide +kernel
theorem dL_isBroken_12 : decode cL_isBroken 12 = .ok (.istore 4, 2) := by decide +kernel
theorem dL_isBroken_14 : decode cL_isBroken 14 = .ok (.iconst 0, 1) := by decide +kernel
theorem dL_isBroken_15 : decode cL_isBroken 15 = .ok (.istore 5, 2) := by decide +kernel
theorem dL_isBroken_17 : decode cL_isBroken 17 = .ok (.iconst 1, 1) := by decide +kernel
theorem dL_isBroken_18 : decode cL_isBroken 18 = .ok (.istore 6, 2) := by decide +kernel
theorem dL_isBroken_20 : decode cL_isBroken 20 = .ok (.iload 6, 2) := by decide +kernel
theorem dL_isBroken_22 : decode cL_isBroken 22 = .ok (.bipush 12, 2) := by decide +kernel
theorem dL_isBroken_24 : decode cL_isBroken 24 = .ok (.if_icmp .ge 21, 3) := by decide +kernel
theorem dL_isBroken_27 : decode cL_isBroken 27 = .ok (.iload 5, 2) := by decide +kernel
theorem dL_isBroken_29 : decode cL_isBroken 29 = .ok (.aload_n 0, 1) := by decide +kernel
theorem dL_isBroken_30 : decode cL_isBroken 30 = .ok (.iload 6, 2) := by decide +kernel
theorem dL_isBroken_32 : decode cL_isBroken 32 = .ok (.iconst 0, 1) := by decide +kernel
theorem dL_isBroken_33 : decode cL_isBroken 33 = .ok (.invokevirtual 28, 3) := by decide +kernel
theorem dL_isBroken_36 : decode cL_isBroken 36 = .ok (.iadd, 1) := by decide +kernel
theorem dL_isBroken_37 : decode cL_isBroken 37 = .ok (.istore 5, 2) := by decide +kernel
theorem dL_isBroken_39 : decode cL_isBroken 39 = .ok (.iinc 6 1, 3) := by decide +kernel
theorem dL_isBroken_42 : decode cL_isBroken 42 = .ok (.goto (-22), 3) := by decide +kernel
theorem dL_isBroken_45 : decode cL_isBroken 45 = .ok (.aload_n 0, 1) := by decide +kernel
theorem dL_isBroken_46 : decode cL_isBroken 46 = .ok (.invokestatic 79, 3) := by decide +kernel
theorem dL_isBroken_49 : decode cL_isBroken 49 = .ok (.lstore 6, 2) := by decide +kernel
theorem dL_isBroken_51 : decode cL_isBroken 51 = .ok (.iload_n 2, 1) := by decide +kernel
theorem dL_isBroken_52 : decode cL_isBroken 52 = .ok (.ifCond .eq 11, 3) := by decide +kernel
theorem dL_isBroken_55 : decode cL_isBroken 55 = .ok (.aload_n 0, 1) := by decide +kernel
theorem dL_isBroken_56 : decode cL_isBroken 56 = .ok (.iload_n 1, 1) := by decide +kernel
theorem dL_isBroken_57 : decode cL_isBroken 57 = .ok (.invokevirtual 54, 3) := by decide +kernel
theorem dL_isBroken_60 : decode cL_isBroken 60 = .ok (.goto 8, 3) := by decide +kernel
theorem dL_isBroken_63 : decode cL_isBroken 63 = .ok (.aload_n 0, 1) := by decide +kernel
theorem dL_isBroken_64 : decode cL_isBroken 64 = .ok (.iload_n 1, 1) := by decide +kernel
theorem dL_isBroken_65 : decode cL_isBroken 65 = .ok (.invokevirtual 57, 3) := by decide +kernel
theorem dL_isBroken_68 : decode cL_isBroken 68 = .ok (.istore 8, 2) := by decide +kernel
theorem dL_isBroken_70 : decode cL_isBroken 70 = .ok (.iload 8, 2) := by decide +kernel
theorem dL_isBroken_72 : decode cL_isBroken 72 = .ok (.ifCond .ge 26, 3) := by decide +kernel
theorem dL_isBroken_75 : decode cL_isBroken 75 = .ok (.iload 8, 2) := by decide +kernel
theorem dL_isBroken_77 : decode cL_isBroken 77 = .ok (.bipush (-6), 2) := by decide +kernel
theorem dL_isBroken_79 : decode cL_isBroken 79 = .ok (.if_icmp .eq 19, 3) := by decide +kernel
theorem dL_isBroken_82 : decode cL_isBroken 82 = .ok (.aload_n 0, 1) := by decide +kernel
theorem dL_isBroken_83 : decode cL_isBroken 83 = .ok (.invokestatic 79, 3) := by decide +kernel
theorem dL_isBroken_86 : decode cL_isBroken 86 = .ok (.lload 6, 2) := by decide +kernel
theorem dL_isBroken_88 : decode cL_isBroken 88 = .ok (.lcmp, 1) := by decide +kernel
theorem dL_isBroken_89 : decode cL_isBroken 89 = .ok (.ifCond .ne 7, 3) := by decide +kernel
theorem dL_isBroken_92 : decode cL_isBroken 92 = .ok (.iconst 1, 1) := by decide +kernel
theorem dL_isBroken_93 : decode cL_isBroken 93 = .ok (.goto 4, 3) := by decide +kernel
theorem dL_isBroken_96 : decode cL_isBroken 96 = .ok (.iconst 0, 1) := by decide +kernel
theorem dL_isBroken_97 : decode cL_isBroken 97 = .ok (.ireturn, 1) := by decide +kernel
theorem dL_isBroken_98 : decode cL_isBroken 98 = .ok (.aload_n 0, 1) := by decide +kernel
theorem dL_isBroken_99 : decode cL_isBroken 99 = .ok (.bipush 7, 2) := by decide +kernel
theorem dL_isBroken_101 : decode cL_isBroken 101 = .ok (.invokevirtual 12, 3) := by decide +kernel
theorem dL_isBroken_104 : decode cL_isBroken 104 = .ok (.iload_n 3, 1) := by decide +kernel
theorem dL_isBroken_105 : decode cL_isBroken 105 = .ok (.if_icmp .ne 54, 3) := by decide +kernel
theorem dL_isBroken_108 : decode cL_isBroken 108 = .ok (.aload_n 0, 1) := by decide +kernel
theorem dL_isBroken_109 : decode cL_isBroken 109 = .ok (.iconst 3, 1) := by decide +kernel
theorem dL_isBroken_110 : decode cL_isBroken 110 = .ok (.invokevirtual 12, 3) := by decide +kernel
theorem dL_isBroken_113 : decode cL_isBroken 113 = .ok (.iload 4, 2) := by decide +kernel
theorem dL_isBroken_115 : decode cL_isBroken 115 = .ok (.if_icmp .ne 44, 3) := by decide +kernel
theorem dL_isBroken_118 : decode cL_isBroken 118 = .ok (.aload_n 0, 1) := by decide +kernel
theorem dL_isBroken_119 : decode cL_isBroken 119 = .ok (.iconst 0, 1) := by decide +kernel
theorem dL_isBroken_120 : decode cL_isBroken 120 = .ok (.iconst 0, 1) := by decide +kernel
theorem dL_isBroken_121 : decode cL_isBroken 121 = .ok (.invokevirtual 22, 3) := by decide +kernel
theorem dL_isBroken_124 : decode cL_isBroken 124 = .ok (.iload_n 2, 1) := by decide +kernel
theorem dL_isBroken_125 : decode cL_isBroken 125 = .ok (.ifCond .eq 7, 3) := by decide +kernel
theorem dL_isBroken_128 : decode cL_isBroken 128 = .ok (.iconst 1, 1) := by decide +kernel
theorem dL_isBroken_129 : decode cL_isBroken 129 = .ok (.goto 4, 3) := by decide +kernel
theorem dL_isBroken_132 : decode cL_isBroken 132 = .ok (.iconst 2, 1) := by decide +kernel
theorem dL_isBroken_133 : decode cL_isBroken 133 = .ok (.if_icmp .ne 26, 3) := by decide +kernel
theorem dL_isBroken_136 : decode cL_isBroken 136 = .ok (.aload_n 0, 1) := by decide +kernel
theorem dL_isBroken_137 : decode cL_isBroken 137 = .ok (.iconst 0, 1) := by decide +kernel
theorem dL_isBroken_138 : decode cL_isBroken 138 = .ok (.iconst 3, 1) := by decide +kernel
theorem dL_isBroken_139 : decode cL_isBroken 139 = .ok (.invokevirtual 22, 3) := by decide +kernel
theorem dL_isBroken_142 : decode cL_isBroken 142 = .ok (.ifCond .ne 17, 3) := by decide +kernel
theorem dL_isBroken_145 : decode cL_isBroken 145 = .ok (.aload_n 0, 1) := by decide +kernel
theorem dL_isBroken_146 : decode cL_isBroken 146 = .ok (.iconst 0, 1) := by decide +kernel
theorem dL_isBroken_147 : decode cL_isBroken 147 = .ok (.iconst 4, 1) := by decide +kernel
theorem dL_isBroken_148 : decode cL_isBroken 148 = .ok (.invokevirtual 22, 3) := by decide +kernel
theorem dL_isBroken_151 : decode cL_isBroken 151 = .ok (.iload_n 1, 1) := by decide +kernel
theorem dL_isBroken_152 : decode cL_isBroken 152 = .ok (.if_icmp .ne 7, 3) := by decide +kernel
theorem dL_isBroken_155 : decode cL_isBroken 155 = .ok (.iconst 1, 1) := by decide +kernel
theorem dL_isBroken_156 : decode cL_isBroken 156 = .ok (.goto 4, 3) := by decide +kernel
theorem dL_isBroken_159 : decode cL_isBroken 159 = .ok (.iconst 0, 1) := by decide +kernel
theorem dL_isBroken_160 : decode cL_isBroken 160 = .ok (.istore 9, 2) := by decide +kernel
theorem dL_isBroken_162 : decode cL_isBroken 162 = .ok (.iconst 1, 1) := by decide +kernel
theorem dL_isBroken_163 : decode cL_isBroken 163 = .ok (.istore 10, 2) := by decide +kernel
theorem dL_isBroken_165 : decode cL_isBroken 165 = .ok (.iload 10, 2) := by decide +kernel
theorem dL_isBroken_167 : decode cL_isBroken 167 = .ok (.bipush 12, 2) := by decide +kernel
theorem dL_isBroken_169 : decode cL_isBroken 169 = .ok (.if_icmp .ge 21, 3) := by decide +kernel
theorem dL_isBroken_172 : decode cL_isBroken 172 = .ok (.iload 5, 2) := by decide +kernel
theorem dL_isBroken_174 : decode cL_isBroken 174 = .ok (.aload_n 0, 1) := by decide +kernel
theorem dL_isBroken_175 : decode cL_isBroken 175 = .ok (.iload 10, 2) := by decide +kernel
theorem dL_isBroken_177 : decode cL_isBroken 177 = .ok (.iconst 0, 1) := by decide +kernel
theorem dL_isBroken_178 : decode cL_isBroken 178 = .ok (.invokevirtual 28, 3) := by decide +kernel
theorem dL_isBroken_181 : decode cL_isBroken 181 = .ok (.isub, 1) := by decide +kernel
theorem dL_isBroken_182 : decode cL_isBroken 182 = .ok (.istore 5, 2) := by decide +kernel
theorem dL_isBroken_184 : decode cL_isBroken 184 = .ok (.iinc 10 1, 3) := by decide +kernel
theorem dL_isBroken_187 : decode cL_isBroken 187 = .ok (.goto (-22), 3) := by decide +kernel
theorem dL_isBroken_190 : decode cL_isBroken 190 = .ok (.iload 9, 2) := by decide +kernel
theorem dL_isBroken_192 : decode cL_isBroken 192 = .ok (.ifCond .eq 29, 3) := by decide +kernel
theorem dL_isBroken_195 : decode cL_isBroken 195 = .ok (.iload 5, 2) := by decide +kernel
theorem dL_isBroken_197 : decode cL_isBroken 197 = .ok (.ifCond .ne 24, 3) := by decide +kernel
theorem dL_isBroken_200 : decode cL_isBroken 200 = .ok (.aload_n 0, 1) := by decide +kernel
theorem dL_isBroken_201 : decode cL_isBroken 201 = .ok (.invokevirtual 83, 3) := by decide +kernel
theorem dL_isBroken_204 : decode cL_isBroken 204 = .ok (.ifCond .lt 17, 3) := by decide +kernel
theorem dL_isBroken_207 : decode cL_isBroken 207 = .ok (.aload_n 0, 1) := by decide +kernel
theorem dL_isBroken_208 : decode cL_isBroken 208 = .ok (.invokestatic 79, 3) := by decide +kernel
theorem dL_isBroken_211 : decode cL_isBroken 211 = .ok (.lload 6, 2) := by decide +kernel
theorem dL_isBroken_213 : decode cL_isBroken 213 = .ok (.lcmp, 1) := by decide +kernel
theorem dL_isBroken_214 : decode cL_isBroken 214 = .ok (.ifCond .ne 7, 3) := by decide +kernel
theorem dL_isBroken_217 : decode cL_isBroken 217 = .ok (.iconst 1, 1) := by decide +kernel
theorem dL_isBroken_218 : decode cL_isBroken 218 = .ok (.goto 4, 3) := by decide +kernel
theorem dL_isBroken_221 : decode cL_isBroken 221 = .ok (.iconst 0, 1) := by decide +kernel
theorem dL_isBroken_222 : decode cL_isBroken 222 = .ok (.ireturn, 1) := by decide +kernel
theorem dL_law_0 : decode cL_law 0 = .ok (.new 13, 3) := by decide +kernel
theorem dL_law_3 : decode cL_law 3 = .ok (.dup, 1) := by decide +kernel
theorem dL_law_4 : decode cL_law 4 = .ok (.invokespecial 86, 3) := by decide +kernel
theorem dL_law_7 : decode cL_law 7 = .ok (.astore_n 1, 1) := by decide +kernel
theorem dL_law_8 : decode cL_law 8 = .ok (.aload_n 1, 1) := by decide +kernel
theorem dL_law_9 : decode cL_law 9 = .ok (.invokevirtual 83, 3) := by decide +kernel
theorem dL_law_12 : decode cL_law 12 = .ok (.bipush (-5), 2) := by decide +kernel
theorem dL_law_14 : decode cL_law 14 = .ok (.if_icmp .ne 40, 3) := by decide +kernel
theorem dL_law_17 : decode cL_law 17 = .ok (.aload_n 1, 1) := by decide +kernel
theorem dL_law_18 : decode cL_law 18 = .ok (.iconst 0, 1) := by decide +kernel
theorem dL_law_19 : decode cL_law 19 = .ok (.invokevirtual 39, 3) := by decide +kernel
theorem dL_law_22 : decode cL_law 22 = .ok (.bipush (-5), 2) := by decide +kernel
theorem dL_law_24 : decode cL_law 24 = .ok (.if_icmp .ne 30, 3) := by decide +kernel
theorem dL_law_27 : decode cL_law 27 = .ok (.aload_n 1, 1) := by decide +kernel
theorem dL_law_28 : decode cL_law 28 = .ok (.iconst 0, 1) := by decide +kernel
theorem dL_law_29 : decode cL_law 29 = .ok (.invokevirtual 87, 3) := by decide +kernel
theorem dL_law_32 : decode cL_law 32 = .ok (.ifCond .ne 22, 3) := by decide +kernel
theorem dL_law_35 : decode cL_law 35 = .ok (.aload_n 1, 1) := by decide +kernel
theorem dL_law_36 : decode cL_law 36 = .ok (.invokevirtual 75, 3) := by decide +kernel
theorem dL_law_39 : decode cL_law 39 = .ok (.bipush (-6), 2) := by decide +kernel
theorem dL_law_41 : decode cL_law 41 = .ok (.if_icmp .ne 13, 3) := by decide +kernel
theorem dL_law_44 : decode cL_law 44 = .ok (.aload_n 1, 1) := by decide +kernel
theorem dL_law_45 : decode cL_law 45 = .ok (.iconst 0, 1) := by decide +kernel
theorem dL_law_46 : decode cL_law 46 = .ok (.iconst 0, 1) := by decide +kernel
theorem dL_law_47 : decode cL_law 47 = .ok (.invokevirtual 22, 3) := by decide +kernel
theorem dL_law_50 : decode cL_law 50 = .ok (.iconst (-1), 1) := by decide +kernel
theorem dL_law_51 : decode cL_law 51 = .ok (.if_icmp .eq 5, 3) := by decide +kernel
theorem dL_law_54 : decode cL_law 54 = .ok (.iconst 0, 1) := by decide +kernel
theorem dL_law_55 : decode cL_law 55 = .ok (.ireturn, 1) := by decide +kernel
theorem dL_law_56 : decode cL_law 56 = .ok (.iconst 0, 1) := by decide +kernel
theorem dL_law_57 : decode cL_law 57 = .ok (.istore_n 2, 1) := by decide +kernel
theorem dL_law_58 : decode cL_law 58 = .ok (.iload_n 2, 1) := by decide +kernel
theorem dL_law_59 : decode cL_law 59 = .ok (.bipush 44, 2) := by decide +kernel
theorem dL_law_61 : decode cL_law 61 = .ok (.if_icmp .ge 260, 3) := by decide +kernel
theorem dL_law_64 : decode cL_law 64 = .ok (.aload_n 0, 1) := by decide +kernel
theorem dL_law_65 : decode cL_law 65 = .ok (.iconst 2, 1) := by decide +kernel
theorem dL_law_66 : decode cL_law 66 = .ok (.iload_n 2, 1) := by decide +kernel
theorem dL_law_67 : decode cL_law 67 = .ok (.imul, 1) := by decide +kernel
theorem dL_law_68 : decode cL_law 68 = .ok (.invokestatic 90, 3) := by decide +kernel
theorem dL_law_71 : decode cL_law 71 = .ok (.istore_n 3, 1) := by decide +kernel
theorem dL_law_72 : decode cL_law 72 = .ok (.iload_n 2, 1) := by decide +kernel
theorem dL_law_73 : decode cL_law 73 = .ok (.iconst 3, 1) := by decide +kernel
theorem dL_law_74 : decode cL_law 74 = .ok (.if_icmp .ge 10, 3) := by decide +kernel
theorem dL_law_77 : decode cL_law 77 = .ok (.iload_n 3, 1) := by decide +kernel
theorem dL_law_78 : decode cL_law 78 = .ok (.bipush (-16), 2) := by decide +kernel
theorem dL_law_80 : decode cL_law 80 = .ok (.iand, 1) := by decide +kernel
theorem dL_law_81 : decode cL_law 81 = .ok (.goto 4, 3) := by decide +kernel
theorem dL_law_84 : decode cL_law 84 = .ok (.iload_n 3, 1) := by decide +kernel
theorem dL_law_85 : decode cL_law 85 = .ok (.istore_n 3, 1) := by decide +kernel
theorem dL_law_86 : decode cL_law 86 = .ok (.aload_n 0, 1) := by decide +kernel
theorem dL_law_87 : decode cL_law 87 = .ok (.iconst 2, 1) := by decide +kernel
theorem dL_law_88 : decode cL_law 88 = .ok (.iload_n 2, 1) := by decide +kernel
theorem dL_law_89 : decode cL_law 89 = .ok (.imul, 1) := by decide +kernel
theorem dL_law_90 : decode cL_law 90 = .ok (.iconst 1, 1) := by decide +kernel
theorem dL_law_91 : decode cL_law 91 = .ok (.iadd, 1) := by decide +kernel
theorem dL_law_92 : decode cL_law 92 = .ok (.invokestatic 90, 3) := by decide +kernel
theorem dL_law_95 : decode cL_law 95 = .ok (.istore 4, 2) := by decide +kernel
theorem dL_law_97 : decode cL_law 97 = .ok (.iload_n 2, 1) := by decide +kernel
theorem dL_law_98 : decode cL_law 98 = .ok (.bipush 8, 2) := by decide +kernel
theorem dL_law_100 : decode cL_law 100 = .ok (.if_icmp .ne 9, 3) := by decide +kernel
theorem dL_law_103 : decode cL_law 103 = .ok (.aload_n 1, 1) := by decide +kernel
theorem dL_law_104 : decode cL_law 104 = .ok (.iconst 0, 1) := by decide +kernel
theorem dL_law_105 : decode cL_law 105 = .ok (.invokevirtual 87, 3) := by decide +kernel
theorem dL_law_108 : decode cL_law 108 = .ok (.pop, 1) := by decide +kernel
theorem dL_law_109 : decode cL_law 109 = .ok (.aload_n 1, 1) := by decide +kernel
theorem dL_law_110 : decode cL_law 110 = .ok (.invokestatic 79, 3) := by decide +kernel
theorem dL_law_113 : decode cL_law 113 = .ok (.lstore 5, 2) := by decide +kernel
theorem dL_law_115 : decode cL_law 115 = .ok (.aload_n 1, 1) := by decide +kernel
theorem dL_law_116 : decode cL_law 116 = .ok (.bipush 14, 2) := by decide +kernel
theorem dL_law_118 : decode cL_law 118 = .ok (.invokevirtual 12, 3) := by decide +kernel
theorem dL_law_121 : decode cL_law 121 = .ok (.istore 7, 2) := by decide +kernel
theorem dL_law_123 : decode cL_law 123 = .ok (.aload_n 1, 1) := by decide +kernel
theorem dL_law_124 : decode cL_law 124 = .ok (.iload_n 3, 1) := by decide +kernel
theorem dL_law_125 : decode cL_law 125 = .ok (.iload 4, 2) := by decide +kernel
theorem dL_law_127 : decode cL_law 127 = .ok (.invokestatic 94, 3) := by decide +kernel
theorem dL_law_130 : decode cL_law 130 = .ok (.istore 8, 2) := by decide +kernel
theorem dL_law_132 : decode cL_law 132 = .ok (.aload_n 1, 1) := by decide +kernel
theorem dL_law_133 : decode cL_law 133 = .ok (.invokestatic 79, 3) := by decide +kernel
theorem dL_law_136 : decode cL_law 136 = .ok (.lstore 9, 2) := by decide +kernel
theorem dL_law_138 : decode cL_law 138 = .ok (.iload 8, 2) := by decide +kernel
theorem dL_law_140 : decode cL_law 140 = .ok (.ifCond .ge 10, 3) := by decide +kernel
theorem dL_law_143 : decode cL_law 143 = .ok (.iload 8, 2) := by decide +kernel
theorem dL_law_145 : decode cL_law 145 = .ok (.bipush (-6), 2) := by decide +kernel
theorem dL_law_147 : decode cL_law 147 = .ok (.if_icmp .ne 7, 3) := by decide +kernel
theorem dL_law_150 : decode cL_law 150 = .ok (.iconst 1, 1) := by decide +kernel
theorem dL_law_151 : decode cL_law 151 = .ok (.goto 4, 3) := by decide +kernel
theorem dL_law_154 : decode cL_law 154 = .ok (.iconst 0, 1) := by decide +kernel
theorem dL_law_155 : decode cL_law 155 = .ok (.istore 11, 2) := by decide +kernel
theorem dL_law_157 : decode cL_law 157 = .ok (.iload 11, 2) := by decide +kernel
theorem dL_law_159 : decode cL_law 159 = .ok (.ifCond .ne 25, 3) := by decide +kernel
theorem dL_law_162 : decode cL_law 162 = .ok (.lload 9, 2) := by decide +kernel
theorem dL_law_164 : decode cL_law 164 = .ok (.lload 5, 2) := by decide +kernel
theorem dL_law_166 : decode cL_law 166 = .ok (.lcmp, 1) := by decide +kernel
theorem dL_law_167 : decode cL_law 167 = .ok (.ifCond .ne 42, 3) := by decide +kernel
theorem dL_law_170 : decode cL_law 170 = .ok (.aload_n 1, 1) := by decide +kernel
theorem dL_law_171 : decode cL_law 171 = .ok (.bipush 14, 2) := by decide +kernel
theorem dL_law_173 : decode cL_law 173 = .ok (.invokevirtual 12, 3) := by decide +kernel
theorem dL_law_176 : decode cL_law 176 = .ok (.iload 7, 2) := by decide +kernel
theorem dL_law_178 : decode cL_law 178 = .ok (.if_icmp .eq 33, 3) := by decide +kernel
theorem dL_law_181 : decode cL_law 181 = .ok (.goto 28, 3) := by decide +kernel
theorem dL_law_184 : decode cL_law 184 = .ok (.aload_n 1, 1) := by decide +kernel
theorem dL_law_185 : decode cL_law 185 = .ok (.bipush 14, 2) := by decide +kernel
theorem dL_law_187 : decode cL_law 187 = .ok (.invokevirtual 12, 3) := by decide +kernel
theorem dL_law_190 : decode cL_law 190 = .ok (.iload 7, 2) := by decide +kernel
theorem dL_law_192 : decode cL_law 192 = .ok (.bipush 6, 2) := by decide +kernel
theorem dL_law_194 : decode cL_law 194 = .ok (.if_icmp .ge 10, 3) := by decide +kernel
theorem dL_law_197 : decode cL_law 197 = .ok (.iload 7, 2) := by decide +kernel
theorem dL_law_199 : decode cL_law 199 = .ok (.iconst 1, 1) := by decide +kernel
theorem dL_law_200 : decode cL_law 200 = .ok (.iadd, 1) := by decide +kernel
theorem dL_law_201 : decode cL_law 201 = .ok (.goto 5, 3) := by decide +kernel
theorem dL_law_204 : decode cL_law 204 = .ok (.bipush 6, 2) := by decide +kernel
theorem dL_law_206 : decode cL_law 206 = .ok (.if_icmp .eq 5, 3) := by decide +kernel
theorem dL_law_209 : decode cL_law 209 = .ok (.iconst 0, 1) := by decide +kernel
theorem dL_law_210 : decode cL_law 210 = .ok (.ireturn, 1) := by decide +kernel
theorem dL_law_211 : decode cL_law 211 = .ok (.iload 11, 2) := by decide +kernel
theorem dL_law_213 : decode cL_law 213 = .ok (.ifCond .eq 65, 3) := by decide +kernel
theorem dL_law_216 : decode cL_law 216 = .ok (.iload_n 3, 1) := by decide +kernel
theorem dL_law_217 : decode cL_law 217 = .ok (.bipush 10, 2) := by decide +kernel
theorem dL_law_219 : decode cL_law 219 = .ok (.ishr, 1) := by decide +kernel
theorem dL_law_220 : decode cL_law 220 = .ok (.iconst 1, 1) := by decide +kernel
theorem dL_law_221 : decode cL_law 221 = .ok (.iand, 1) := by decide +kernel
theorem dL_law_222 : decode cL_law 222 = .ok (.ifCond .ne 56, 3) := by decide +kernel
theorem dL_law_225 : decode cL_law 225 = .ok (.aload_n 1, 1) := by decide +kernel
theorem dL_law_226 : decode cL_law 226 = .ok (.bipush 14, 2) := by decide +kernel
theorem dL_law_228 : decode cL_law 228 = .ok (.invokevirtual 12, 3) := by decide +kernel
theorem dL_law_231 : decode cL_law 231 = .ok (.iconst 1, 1) := by decide +kernel
theorem dL_law_232 : decode cL_law 232 = .ok (.isub, 1) := by decide +kernel
theorem dL_law_233 : decode cL_law 233 = .ok (.istore 12, 2) := by decide +kernel
theorem dL_law_235 : decode cL_law 235 = .ok (.aload_n 1, 1) := by decide +kernel
theorem dL_law_236 : decode cL_law 236 = .ok (.invokevirtual 83, 3) := by decide +kernel
theorem dL_law_239 : decode cL_law 239 = .ok (.iload 12, 2) := by decide +kernel
theorem dL_law_241 : decode cL_law 241 = .ok (.if_icmp .ne 35, 3) := by decide +kernel
theorem dL_law_244 : decode cL_law 244 = .ok (.aload_n 1, 1) := by decide +kernel
theorem dL_law_245 : decode cL_law 245 = .ok (.invokestatic 79, 3) := by decide +kernel
theorem dL_law_248 : decode cL_law 248 = .ok (.lload 5, 2) := by decide +kernel
theorem dL_law_250 : decode cL_law 250 = .ok (.lcmp, 1) := by decide +kernel
theorem dL_law_251 : decode cL_law 251 = .ok (.ifCond .ne 25, 3) := by decide +kernel
theorem dL_law_254 : decode cL_law 254 = .ok (.aload_n 1, 1) := by decide +kernel
theorem dL_law_255 : decode cL_law 255 = .ok (.iload_n 3, 1) := by decide +kernel
theorem dL_law_256 : decode cL_law 256 = .ok (.iload 4, 2) := by decide +kernel
theorem dL_law_258 : decode cL_law 258 = .ok (.invokestatic 94, 3) := by decide +kernel
theorem dL_law_261 : decode cL_law 261 = .ok (.iload 8, 2) := by decide +kernel
theorem dL_law_263 : decode cL_law 263 = .ok (.if_icmp .ne 13, 3) := by decide +kernel
theorem dL_law_266 : decode cL_law 266 = .ok (.aload_n 1, 1) := by decide +kernel
theorem dL_law_267 : decode cL_law 267 = .ok (.invokestatic 79, 3) := by decide +kernel
theorem dL_law_270 : decode cL_law 270 = .ok (.lload 9, 2) := by decide +kernel
theorem dL_law_272 : decode cL_law 272 = .ok (.lcmp, 1) := by decide +kernel
theorem dL_law_273 : decode cL_law 273 = .ok (.ifCond .eq 5, 3) := by decide +kernel
theorem dL_law_276 : decode cL_law 276 = .ok (.iconst 0, 1) := by decide +kernel
theorem dL_law_277 : decode cL_law 277 = .ok (.ireturn, 1) := by decide +kernel
theorem dL_law_278 : decode cL_law 278 = .ok (.aload_n 1, 1) := by decide +kernel
theorem dL_law_279 : decode cL_law 279 = .ok (.invokestatic 98, 3) := by decide +kernel
theorem dL_law_282 : decode cL_law 282 = .ok (.ifCond .eq 31, 3) := by decide +kernel
theorem dL_law_285 : decode cL_law 285 = .ok (.aload_n 1, 1) := by decide +kernel
theorem dL_law_286 : decode cL_law 286 = .ok (.iload 4, 2) := by decide +kernel
theorem dL_law_288 : decode cL_law 288 = .ok (.iconst 2, 1) := by decide +kernel
theorem dL_law_289 : decode cL_law 289 = .ok (.ishr, 1) := by decide +kernel
theorem dL_law_290 : decode cL_law 290 = .ok (.bipush 10, 2) := by decide +kernel
theorem dL_law_292 : decode cL_law 292 = .ok (.invokestatic 31, 3) := by decide +kernel
theorem dL_law_295 : decode cL_law 295 = .ok (.iload 4, 2) := by decide +kernel
theorem dL_law_297 : decode cL_law 297 = .ok (.iconst 1, 1) := by decide +kernel
theorem dL_law_298 : decode cL_law 298 = .ok (.iand, 1) := by decide +kernel
theorem dL_law_299 : decode cL_law 299 = .ok (.ifCond .ne 7, 3) := by decide +kernel
theorem dL_law_302 : decode cL_law 302 = .ok (.iconst 1, 1) := by decide +kernel
theorem dL_law_303 : decode cL_law 303 = .ok (.goto 4, 3) := by decide +kernel
theorem dL_law_306 : decode cL_law 306 = .ok (.iconst 0, 1) := by decide +kernel
theorem dL_law_307 : decode cL_law 307 = .ok (.invokestatic 102, 3) := by decide +kernel
theorem dL_law_310 : decode cL_law 310 = .ok (.ifCond .ne 5, 3) := by decide +kernel
theorem dL_law_313 : decode cL_law 313 = .ok (.iconst 0, 1) := by decide +kernel
theorem dL_law_314 : decode cL_law 314 = .ok (.ireturn, 1) := by decide +kernel
theorem dL_law_315 : decode cL_law 315 = .ok (.iinc 2 1, 3) := by decide +kernel
theorem dL_law_318 : decode cL_law 318 = .ok (.goto (-260), 3) := by decide +kernel
theorem dL_law_321 : decode cL_law 321 = .ok (.iconst 1, 1) := by decide +kernel
theorem dL_law_322 : decode cL_law 322 = .ok (.ireturn, 1) := by decide +kernel
end
section
theorem dX0_init_0 : decode cX0_init 0 = .ok (.aload_n 0, 1) := by decide +kernel
theorem dX0_init_1 : decode cX0_init 1 = .ok (.invokespecial 3, 3) := by decide +kernel
theorem dX0_init_4 : decode cX0_init 4 = .ok (.aload_n 0, 1) := by decide +kernel
theorem dX0_init_5 : decode cX0_init 5 = .ok (.iconst 0, 1) := by decide +kernel
theorem dX0_init_6 : decode cX0_init 6 = .ok (.putfield 9, 3) := by decide +kernel
theorem dX0_init_9 : decode cX0_init 9 = .ok (.aload_n 0, 1) := by decide +kernel
theorem dX0_init_10 : decode cX0_init 10 = .ok (.bipush 10, 2) := by decide +kernel
theorem dX0_init_12 : decode cX0_init 12 = .ok (.newarray .int, 2) := by decide +kernel
theorem dX0_init_14 : decode cX0_init 14 = .ok (.putfield 15, 3) := by decide +kernel
theorem dX0_init_17 : decode cX0_init 17 = .ok (.aload_n 0, 1) := by decide +kernel
theorem dX0_init_18 : decode cX0_init 18 = .ok (.bipush 10, 2) := by decide +kernel
theorem dX0_init_20 : decode cX0_init 20 = .ok (.newarray .int, 2) := by decide +kernel
theorem dX0_init_22 : decode cX0_init 22 = .ok (.putfield 19, 3) := by decide +kernel
theorem dX0_init_25 : decode cX0_init 25 = .ok (.aload_n 0, 1) := by decide +kernel
theorem dX0_init_26 : decode cX0_init 26 = .ok (.bipush 10, 2) := by decide +kernel
theorem dX0_init_28 : decode cX0_init 28 = .ok (.newarray .int, 2) := by decide +kernel
theorem dX0_init_30 : decode cX0_init 30 = .ok (.putfield 22, 3) := by decide +kernel
theorem dX0_init_33 : decode cX0_init 33 = .ok (.aload_n 0, 1) := by decide +kernel
theorem dX0_init_34 : decode cX0_init 34 = .ok (.bipush 10, 2) := by decide +kernel
theorem dX0_init_36 : decode cX0_init 36 = .ok (.newarray .int, 2) := by decide +kernel
theorem dX0_init_38 : decode cX0_init 38 = .ok (.putfield 25, 3) := by decide +kernel
theorem dX0_init_41 : decode cX0_init 41 = .ok (.aload_n 0, 1) := by decide +kernel
theorem dX0_init_42 : decode cX0_init 42 = .ok (.bipush 10, 2) := by decide +kernel
theorem dX0_init_44 : decode cX0_init 44 = .ok (.newarray .int, 2) := by decide +kernel
theorem dX0_init_46 : decode cX0_init 46 = .ok (.putfield 28, 3) := by decide +kernel
theorem dX0_init_49 : decode cX0_init 49 = .ok (.aload_n 0, 1) := by decide +kernel
theorem dX0_init_50 : decode cX0_init 50 = .ok (.bipush 10, 2) := by decide +kernel
theorem dX0_init_52 : decode cX0_init 52 = .ok (.newarray .int, 2) := by decide +kernel
theorem dX0_init_54 : decode cX0_init 54 = .ok (.putfield 31, 3) := by decide +kernel
theorem dX0_init_57 : decode cX0_init 57 = .ok (.return_, 1) := by decide +kernel
theorem dX0_copyFrom_0 : decode cX0_copyFrom 0 = .ok (.aload_n 0, 1) := by decide +kernel
theorem dX0_copyFrom_1 : decode cX0_copyFrom 1 = .ok (.aload_n 1, 1) := by decide +kernel
theorem dX0_copyFrom_2 : decode cX0_copyFrom 2 = .ok (.getfield 9, 3) := by decide +kernel
theorem dX0_copyFrom_5 : decode cX0_copyFrom 5 = .ok (.putfield 9, 3) := by decide +kernel
theorem dX0_copyFrom_8 : decode cX0_copyFrom 8 = .ok (.aload_n 1, 1) := by decide +kernel
theorem dX0_copyFrom_9 : decode cX0_copyFrom 9 = .ok (.getfield 15, 3) := by decide +kernel
theorem dX0_copyFrom_12 : decode cX0_copyFrom 12 = .ok (.iconst 0, 1) := by decide +kernel
theorem dX0_copyFrom_13 : decode cX0_copyFrom 13 = .ok (.aload_n 0, 1) := by decide +kernel
theorem dX0_copyFrom_14 : decode cX0_copyFrom 14 = .ok (.getfield 15, 3) := by decide +kernel
theorem dX0_copyFrom_17 : decode cX0_copyFrom 17 = .ok (.iconst 0, 1) := by decide +kernel
theorem dX0_copyFrom_18 : decode cX0_copyFrom 18 = .ok (.bipush 10, 2) := by decide +kernel
theorem dX0_copyFrom_20 : decode cX0_copyFrom 20 = .ok (.invokestatic 34, 3) := by decide +kernel
theorem dX0_copyFrom_23 : decode cX0_copyFrom 23 = .ok (.aload_n 1, 1) := by decide +kernel
theorem dX0_copyFrom_24 : decode cX0_copyFrom 24 = .ok (.getfield 19, 3) := by decide +kernel
theorem dX0_copyFrom_27 : decode cX0_copyFrom 27 = .ok (.iconst 0, 1) := by decide +kernel
theorem dX0_copyFrom_28 : decode cX0_copyFrom 28 = .ok (.aload_n 0, 1) := by decide +kernel
theorem dX0_copyFrom_29 : decode cX0_copyFrom 29 = .ok (.getfield 19, 3) := by decide +kernel
theorem dX0_copyFrom_32 : decode cX0_copyFrom 32 = .ok (.iconst 0, 1) := by decide +kernel
theorem dX0_copyFrom_33 : decode cX0_copyFrom 33 = .ok (.bipush 10, 2) := by decide +kernel
theorem dX0_copyFrom_35 : decode cX0_copyFrom 35 = .ok (.invokestatic 34, 3) := by decide +kernel
theorem dX0_copyFrom_38 : decode cX0_copyFrom 38 = .ok (.aload_n 1, 1) := by decide +kernel
theorem dX0_copyFrom_39 : decode cX0_copyFrom 39 = .ok (.getfield 22, 3) := by decide +kernel
theorem dX0_copyFrom_42 : decode cX0_copyFrom 42 = .ok (.iconst 0, 1) := by decide +kernel
theorem dX0_copyFrom_43 : decode cX0_copyFrom 43 = .ok (.aload_n 0, 1) := by decide +kernel
theorem dX0_copyFrom_44 : decode cX0_copyFrom 44 = .ok (.getfield 22, 3) := by decide +kernel
theorem dX0_copyFrom_47 : decode cX0_copyFrom 47 = .ok (.iconst 0, 1) := by decide +kernel
theorem dX0_copyFrom_48 : decode cX0_copyFrom 48 = .ok (.bipush 10, 2) := by decide +kernel
theorem dX0_copyFrom_50 : decode cX0_copyFrom 50 = .ok (.invokestatic 34, 3) := by decide +kernel
theorem dX0_copyFrom_53 : decode cX0_copyFrom 53 = .ok (.aload_n 1, 1) := by decide +kernel
theorem dX0_copyFrom_54 : decode cX0_copyFrom 54 = .ok (.getfield 25, 3) := by decide +kernel
theorem dX0_copyFrom_57 : decode cX0_copyFrom 57 = .ok (.iconst 0, 1) := by decide +kernel
theorem dX0_copyFrom_58 : decode cX0_copyFrom 58 = .ok (.aload_n 0, 1) := by decide +kernel
theorem dX0_copyFrom_59 : decode cX0_copyFrom 59 = .ok (.getfield 25, 3) := by decide +kernel
theorem dX0_copyFrom_62 : decode cX0_copyFrom 62 = .ok (.iconst 0, 1) := by decide +kernel
theorem dX0_copyFrom_63 : decode cX0_copyFrom 63 = .ok (.bipush 10, 2) := by decide +kernel
theorem dX0_copyFrom_65 : decode cX0_copyFrom 65 = .ok (.invokestatic 34, 3) := by decide +kernel
theorem dX0_copyFrom_68 : decode cX0_copyFrom 68 = .ok (.aload_n 1, 1) := by decide +kernel
theorem dX0_copyFrom_69 : decode cX0_copyFrom 69 = .ok (.getfield 28, 3) := by decide +kernel
theorem dX0_copyFrom_72 : decode cX0_copyFrom 72 = .ok (.iconst 0, 1) := by decide +kernel
theorem dX0_copyFrom_73 : decode cX0_copyFrom 73 = .ok (.aload_n 0, 1) := by decide +kernel
theorem dX0_copyFrom_74 : decode cX0_copyFrom 74 = .ok (.getfield 28, 3) := by decide +kernel
theorem dX0_copyFrom_77 : decode cX0_copyFrom 77 = .ok (.iconst 0, 1) := by decide +kernel
theorem dX0_copyFrom_78 : decode cX0_copyFrom 78 = .ok (.bipush 10, 2) := by decide +kernel
theorem dX0_copyFrom_80 : decode cX0_copyFrom 80 = .ok (.invokestatic 34, 3) := by decide +kernel
theorem dX0_copyFrom_83 : decode cX0_copyFrom 83 = .ok (.aload_n 1, 1) := by decide +kernel
theorem dX0_copyFrom_84 : decode cX0_copyFrom 84 = .ok (.getfield 31, 3) := by decide +kernel
theorem dX0_copyFrom_87 : decode cX0_copyFrom 87 = .ok (.iconst 0, 1) := by decide +kernel
theorem dX0_copyFrom_88 : decode cX0_copyFrom 88 = .ok (.aload_n 0, 1) := by decide +kernel
theorem dX0_copyFrom_89 : decode cX0_copyFrom 89 = .ok (.getfield 31, 3) := by decide +kernel
theorem dX0_copyFrom_92 : decode cX0_copyFrom 92 = .ok (.iconst 0, 1) := by decide +kernel
theorem dX0_copyFrom_93 : decode cX0_copyFrom 93 = .ok (.bipush 10, 2) := by decide +kernel
theorem dX0_copyFrom_95 : decode cX0_copyFrom 95 = .ok (.invokestatic 34, 3) := by decide +kernel
theorem dX0_copyFrom_98 : decode cX0_copyFrom 98 = .ok (.return_, 1) := by decide +kernel
theorem dX0_add_0 : decode cX0_add 0 = .ok (.aload_n 0, 1) := by decide +kernel
theorem dX0_add_1 : decode cX0_add 1 = .ok (.getfield 9, 3) := by decide +kernel
theorem dX0_add_4 : decode cX0_add 4 = .ok (.bipush 10, 2) := by decide +kernel
theorem dX0_add_6 : decode cX0_add 6 = .ok (.if_icmp .lt 6, 3) := by decide +kernel
theorem dX0_add_9 : decode cX0_add 9 = .ok (.bipush (-4), 2) := by decide +kernel
theorem dX0_add_11 : decode cX0_add 11 = .ok (.ireturn, 1) := by decide +kernel
theorem dX0_add_12 : decode cX0_add 12 = .ok (.aload_n 0, 1) := by decide +kernel
theorem dX0_add_13 : decode cX0_add 13 = .ok (.getfield 15, 3) := by decide +kernel
theorem dX0_add_16 : decode cX0_add 16 = .ok (.aload_n 0, 1) := by decide +kernel
theorem dX0_add_17 : decode cX0_add 17 = .ok (.getfield 9, 3) := by decide +kernel
theorem dX0_add_20 : decode cX0_add 20 = .ok (.iload_n 1, 1) := by decide +kernel
theorem dX0_add_21 : decode cX0_add 21 = .ok (.iastore, 1) := by decide +kernel
theorem dX0_add_22 : decode cX0_add 22 = .ok (.aload_n 0, 1) := by decide +kernel
theorem dX0_add_23 : decode cX0_add 23 = .ok (.getfield 19, 3) := by decide +kernel
theorem dX0_add_26 : decode cX0_add 26 = .ok (.aload_n 0, 1) := by decide +kernel
theorem dX0_add_27 : decode cX0_add 27 = .ok (.getfield 9, 3) := by decide +kernel
theorem dX0_add_30 : decode cX0_add 30 = .ok (.iload_n 2, 1) := by decide +kernel
theorem dX0_add_31 : decode cX0_add 31 = .ok (.iastore, 1) := by decide +kernel
theorem dX0_add_32 : decode cX0_add 32 = .ok (.aload_n 0, 1) := by decide +kernel
theorem dX0_add_33 : decode cX0_add 33 = .ok (.getfield 25, 3) := by decide +kernel
theorem dX0_add_36 : decode cX0_add 36 = .ok (.aload_n 0, 1) := by decide +kernel
theorem dX0_add_37 : decode cX0_add 37 = .ok (.getfield 9, 3) := by decide +kernel
theorem dX0_add_40 : decode cX0_add 40 = .ok (.iload_n 3, 1) := by decide +kernel
theorem dX0_add_41 : decode cX0_add 41 = .ok (.iastore, 1) := by decide +kernel
theorem dX0_add_42 : decode cX0_add 42 = .ok (.aload_n 0, 1) := by decide +kernel
theorem dX0_add_43 : decode cX0_add 43 = .ok (.dup, 1) := by decide +kernel
theorem dX0_add_44 : decode cX0_add 44 = .ok (.getfield 9, 3) := by decide +kernel
theorem dX0_add_47 : decode cX0_add 47 = .ok (.iconst 1, 1) := by decide +kernel
theorem dX0_add_48 : decode cX0_add 48 = .ok (.iadd, 1) := by decide +kernel
theorem dX0_add_49 : decode cX0_add 49 = .ok (.putfield 9, 3) := by decide +kernel
theorem dX0_add_52 : decode cX0_add 52 = .ok (.aload_n 0, 1) := by decide +kernel
theorem dX0_add_53 : decode cX0_add 53 = .ok (.getfield 9, 3) := by decide +kernel
theorem dX0_add_56 : decode cX0_add 56 = .ok (.iconst 1, 1) := by decide +kernel
theorem dX0_add_57 : decode cX0_add 57 = .ok (.isub, 1) := by decide +kernel
theorem dX0_add_58 : decode cX0_add 58 = .ok (.ireturn, 1) := by decide +kernel
theorem dX0_isKnown_0 : decode cX0_isKnown 0 = .ok (.iload_n 1, 1) := by decide +kernel
theorem dX0_isKnown_1 : decode cX0_isKnown 1 = .ok (.ifCond .lt 15, 3) := by decide +kernel
theorem dX0_isKnown_4 : decode cX0_isKnown 4 = .ok (.iload_n 1, 1) := by decide +kernel
theorem dX0_isKnown_5 : decode cX0_isKnown 5 = .ok (.aload_n 0, 1) := by decide +kernel
theorem dX0_isKnown_6 : decode cX0_isKnown 6 = .ok (.getfield 9, 3) := by decide +kernel
theorem dX0_isKnown_9 : decode cX0_isKnown 9 = .ok (.if_icmp .ge 7, 3) := by decide +kernel
theorem dX0_isKnown_12 : decode cX0_isKnown 12 = .ok (.iconst 1, 1) := by decide +kernel
theorem dX0_isKnown_13 : decode cX0_isKnown 13 = .ok (.goto 4, 3) := by decide +kernel
theorem dX0_isKnown_16 : decode cX0_isKnown 16 = .ok (.iconst 0, 1) := by decide +kernel
theorem dX0_isKnown_17 : decode cX0_isKnown 17 = .ok (.ireturn, 1) := by decide +kernel
theorem dX0_isHost_0 : decode cX0_isHost 0 = .ok (.aload_n 0, 1) := by decide +kernel
theorem dX0_isHost_1 : decode cX0_isHost 1 = .ok (.getfield 15, 3) := by decide +kernel
theorem dX0_isHost_4 : decode cX0_isHost 4 = .ok (.iload_n 1, 1) := by decide +kernel
theorem dX0_isHost_5 : decode cX0_isHost 5 = .ok (.iaload, 1) := by decide +kernel
theorem dX0_isHost_6 : decode cX0_isHost 6 = .ok (.bipush (-6), 2) := by decide +kernel
theorem dX0_isHost_8 : decode cX0_isHost 8 = .ok (.if_icmp .eq 21, 3) := by decide +kernel
theorem dX0_isHost_11 : decode cX0_isHost 11 = .ok (.aload_n 0, 1) := by decide +kernel
theorem dX0_isHost_12 : decode cX0_isHost 12 = .ok (.aload_n 0, 1) := by decide +kernel
theorem dX0_isHost_13 : decode cX0_isHost 13 = .ok (.getfield 15, 3) := by decide +kernel
theorem dX0_isHost_16 : decode cX0_isHost 16 = .ok (.iload_n 1, 1) := by decide +kernel
theorem dX0_isHost_17 : decode cX0_isHost 17 = .ok (.iaload, 1) := by decide +kernel
theorem dX0_isHost_18 : decode cX0_isHost 18 = .ok (.invokevirtual 40, 3) := by decide +kernel
theorem dX0_isHost_21 : decode cX0_isHost 21 = .ok (.iload_n 1, 1) := by decide +kernel
theorem dX0_isHost_22 : decode cX0_isHost 22 = .ok (.if_icmp .ne 7, 3) := by decide +kernel
theorem dX0_isHost_25 : decode cX0_isHost 25 = .ok (.iconst 1, 1) := by decide +kernel
theorem dX0_isHost_26 : decode cX0_isHost 26 = .ok (.goto 4, 3) := by decide +kernel
theorem dX0_isHost_29 : decode cX0_isHost 29 = .ok (.iconst 0, 1) := by decide +kernel
theorem dX0_isHost_30 : decode cX0_isHost 30 = .ok (.ireturn, 1) := by decide +kernel
theorem dX0_setAt_0 : decode cX0_setAt 0 = .ok (.iconst 0, 1) := by decide +kernel
theorem dX0_setAt_1 : decode cX0_setAt 1 = .ok (.istore_n 2, 1) := by decide +kernel
theorem dX0_setAt_2 : decode cX0_setAt 2 = .ok (.iconst 0, 1) := by decide +kernel
theorem dX0_setAt_3 : decode cX0_setAt 3 = .ok (.istore_n 3, 1) := by decide +kernel
theorem dX0_setAt_4 : decode cX0_setAt 4 = .ok (.iload_n 3, 1) := by decide +kernel
theorem dX0_setAt_5 : decode cX0_setAt 5 = .ok (.aload_n 0, 1) := by decide +kernel
theorem dX0_setAt_6 : decode cX0_setAt 6 = .ok (.getfield 9, 3) := by decide +kernel
theorem dX0_setAt_9 : decode cX0_setAt 9 = .ok (.if_icmp .ge 25, 3) := by decide +kernel
theorem dX0_setAt_12 : decode cX0_setAt 12 = .ok (.aload_n 0, 1) := by decide +kernel
theorem dX0_setAt_13 : decode cX0_setAt 13 = .ok (.getfield 15, 3) := by decide +kernel
theorem dX0_setAt_16 : decode cX0_setAt 16 = .ok (.iload_n 3, 1) := by decide +kernel
theorem dX0_setAt_17 : decode cX0_setAt 17 = .ok (.iaload, 1) := by decide +kernel
theorem dX0_setAt_18 : decode cX0_setAt 18 = .ok (.iload_n 1, 1) := by decide +kernel
theorem dX0_setAt_19 : decode cX0_setAt 19 = .ok (.if_icmp .ne 9, 3) := by decide +kernel
theorem dX0_setAt_22 : decode cX0_setAt 22 = .ok (.iload_n 2, 1) := by decide +kernel
theorem dX0_setAt_23 : decode cX0_setAt 23 = .ok (.iconst 1, 1) := by decide +kernel
theorem dX0_setAt_24 : decode cX0_setAt 24 = .ok (.iload_n 3, 1) := by decide +kernel
theorem dX0_setAt_25 : decode cX0_setAt 25 = .ok (.ishl, 1) := by decide +kernel
theorem dX0_setAt_26 : decode cX0_setAt 26 = .ok (.ior, 1) := by decide +kernel
theorem dX0_setAt_27 : decode cX0_setAt 27 = .ok (.istore_n 2, 1) := by decide +kernel
theorem dX0_setAt_28 : decode cX0_setAt 28 = .ok (.iinc 3 1, 3) := by decide +kernel
theorem dX0_setAt_31 : decode cX0_setAt 31 = .ok (.goto (-27), 3) := by decide +kernel
theorem dX0_setAt_34 : decode cX0_setAt 34 = .ok (.iload_n 2, 1) := by decide +kernel
theorem dX0_setAt_35 : decode cX0_setAt 35 = .ok (.ireturn, 1) := by decide +kernel
theorem dX0_setOfThoseHere_0 : decode cX0_setOfThoseHere 0 = .ok (.iconst 0, 1) := by decide +kernel
theorem dX0_setOfThoseHere_1 : decode cX0_setOfThoseHere 1 = .ok (.istore_n 1, 1) := by decide +kernel
theorem dX0_setOfThoseHere_2 : decode cX0_setOfThoseHere 2 = .ok (.iconst 0, 1) := by decide +kernel
theorem dX0_setOfThoseHere_3 : decode cX0_setOfThoseHere 3 = .ok (.istore_n 2, 1) := by decide +kernel
theorem dX0_setOfThoseHere_4 : decode cX0_setOfThoseHere 4 = .ok (.iload_n 2, 1) := by decide +kernel
theorem dX0_setOfThoseHere_5 : decode cX0_setOfThoseHere 5 = .ok (.iconst 3, 1) := by decide +kernel
theorem dX0_setOfThoseHere_6 : decode cX0_setOfThoseHere 6 = .ok (.if_icmp .ge 17, 3) := by decide +kernel
theorem dX0_setOfThoseHere_9 : decode cX0_setOfThoseHere 9 = .ok (.iload_n 1, 1) := by decide +kernel
theorem dX0_setOfThoseHere_10 : decode cX0_setOfThoseHere 10 = .ok (.aload_n 0, 1) := by decide +kernel
theorem dX0_setOfThoseHere_11 : decode cX0_setOfThoseHere 11 = .ok (.iload_n 2, 1) := by decide +kernel
theorem dX0_setOfThoseHere_12 : decode cX0_setOfThoseHere 12 = .ok (.invokevirtual 44, 3) := by decide +kernel
theorem dX0_setOfThoseHere_15 : decode cX0_setOfThoseHere 15 = .ok (.ior, 1) := by decide +kernel
theorem dX0_setOfThoseHere_16 : decode cX0_setOfThoseHere 16 = .ok (.istore_n 1, 1) := by decide +kernel
theorem dX0_setOfThoseHere_17 : decode cX0_setOfThoseHere 17 = .ok (.iinc 2 1, 3) := by decide +kernel
theorem dX0_setOfThoseHere_20 : decode cX0_setOfThoseHere 20 = .ok (.goto (-16), 3) := by decide +kernel
theorem dX0_setOfThoseHere_23 : decode cX0_setOfThoseHere 23 = .ok (.iload_n 1, 1) := by decide +kernel
theorem dX0_setOfThoseHere_24 : decode cX0_setOfThoseHere 24 = .ok (.ireturn, 1) := by decide +kernel
theorem dX0_hostOf_0 : decode cX0_hostOf 0 = .ok (.bipush (-6), 2) := by decide +kernel
theorem dX0_hostOf_2 : decode cX0_hostOf 2 = .ok (.istore_n 2, 1) := by decide +kernel
theorem dX0_hostOf_3 : decode cX0_hostOf 3 = .ok (.iconst 0, 1) := by decide +kernel
theorem dX0_hostOf_4 : decode cX0_hostOf 4 = .ok (.istore_n 3, 1) := by decide +kernel
theorem dX0_hostOf_5 : decode cX0_hostOf 5 = .ok (.iconst 0, 1) := by decide +kernel
theorem dX0_hostOf_6 : decode cX0_hostOf 6 = .ok (.istore 4, 2) := by decide +kernel
theorem dX0_hostOf_8 : decode cX0_hostOf 8 = .ok (.iload 4, 2) := by decide +kernel
theorem dX0_hostOf_10 : decode cX0_hostOf 10 = .ok (.aload_n 0, 1) := by decide +kernel
theorem dX0_hostOf_11 : decode cX0_hostOf 11 = .ok (.getfield 9, 3) := by decide +kernel
theorem dX0_hostOf_14 : decode cX0_hostOf 14 = .ok (.if_icmp .ge 42, 3) := by decide +kernel
theorem dX0_hostOf_17 : decode cX0_hostOf 17 = .ok (.aload_n 0, 1) := by decide +kernel
theorem dX0_hostOf_18 : decode cX0_hostOf 18 = .ok (.getfield 15, 3) := by decide +kernel
theorem dX0_hostOf_21 : decode cX0_hostOf 21 = .ok (.iload 4, 2) := by decide +kernel
theorem dX0_hostOf_23 : decode cX0_hostOf 23 = .ok (.iaload, 1) := by decide +kernel
theorem dX0_hostOf_24 : decode cX0_hostOf 24 = .ok (.iload_n 1, 1) := by decide +kernel
theorem dX0_hostOf_25 : decode cX0_hostOf 25 = .ok (.if_icmp .ne 25, 3) := by decide +kernel
theorem dX0_hostOf_28 : decode cX0_hostOf 28 = .ok (.aload_n 0, 1) := by decide +kernel
theorem dX0_hostOf_29 : decode cX0_hostOf 29 = .ok (.getfield 19, 3) := by decide +kernel
theorem dX0_hostOf_32 : decode cX0_hostOf 32 = .ok (.iload 4, 2) := by decide +kernel
theorem dX0_hostOf_34 : decode cX0_hostOf 34 = .ok (.iaload, 1) := by decide +kernel
theorem dX0_hostOf_35 : decode cX0_hostOf 35 = .ok (.iload_n 3, 1) := by decide +kernel
theorem dX0_hostOf_36 : decode cX0_hostOf 36 = .ok (.if_icmp .le 14, 3) := by decide +kernel
theorem dX0_hostOf_39 : decode cX0_hostOf 39 = .ok (.iload 4, 2) := by decide +kernel
theorem dX0_hostOf_41 : decode cX0_hostOf 41 = .ok (.istore_n 2, 1) := by decide +kernel
theorem dX0_hostOf_42 : decode cX0_hostOf 42 = .ok (.aload_n 0, 1) := by decide +kernel
theorem dX0_hostOf_43 : decode cX0_hostOf 43 = .ok (.getfield 19, 3) := by decide +kernel
theorem dX0_hostOf_46 : decode cX0_hostOf 46 = .ok (.iload 4, 2) := by decide +kernel
theorem dX0_hostOf_48 : decode cX0_hostOf 48 = .ok (.iaload, 1) := by decide +kernel
theorem dX0_hostOf_49 : decode cX0_hostOf 49 = .ok (.istore_n 3, 1) := by decide +kernel
theorem dX0_hostOf_50 : decode cX0_hostOf 50 = .ok (.iinc 4 1, 3) := by decide +kernel
theorem dX0_hostOf_53 : decode cX0_hostOf 53 = .ok (.goto (-45), 3) := by decide +kernel
theorem dX0_hostOf_56 : decode cX0_hostOf 56 = .ok (.iload_n 2, 1) := by decide +kernel
theorem dX0_hostOf_57 : decode cX0_hostOf 57 = .ok (.ireturn, 1) := by decide +kernel
theorem dX0_companyOf_0 : decode cX0_companyOf 0 = .ok (.iconst 0, 1) := by decide +kernel
theorem dX0_companyOf_1 : decode cX0_companyOf 1 = .ok (.istore_n 3, 1) := by decide +kernel
theorem dX0_companyOf_2 : decode cX0_companyOf 2 = .ok (.iconst 0, 1) := by decide +kernel
theorem dX0_companyOf_3 : decode cX0_companyOf 3 = .ok (.istore 4, 2) := by decide +kernel
theorem dX0_companyOf_5 : decode cX0_companyOf 5 = .ok (.iconst 1, 1) := by decide +kernel
theorem dX0_companyOf_6 : decode cX0_companyOf 6 = .ok (.istore 5, 2) := by decide +kernel
theorem dX0_companyOf_8 : decode cX0_companyOf 8 = .ok (.iconst 0, 1) := by decide +kernel
theorem dX0_companyOf_9 : decode cX0_companyOf 9 = .ok (.istore 6, 2) := by decide +kernel
theorem dX0_companyOf_11 : decode cX0_companyOf 11 = .ok (.iload 6, 2) := by decide +kernel
theorem dX0_companyOf_13 : decode cX0_companyOf 13 = .ok (.aload_n 0, 1) := by decide +kernel
theorem dX0_companyOf_14 : decode cX0_companyOf 14 = .ok (.getfield 9, 3) := by decide +kernel
theorem dX0_companyOf_17 : decode cX0_companyOf 17 = .ok (.if_icmp .ge 71, 3) := by decide +kernel
theorem dX0_companyOf_20 : decode cX0_companyOf 20 = .ok (.aload_n 0, 1) := by decide +kernel
theorem dX0_companyOf_21 : decode cX0_companyOf 21 = .ok (.getfield 15, 3) := by decide +kernel
theorem dX0_companyOf_24 : decode cX0_companyOf 24 = .ok (.iload 6, 2) := by decide +kernel
theorem dX0_companyOf_26 : decode cX0_companyOf 26 = .ok (.iaload, 1) := by decide +kernel
theorem dX0_companyOf_27 : decode cX0_companyOf 27 = .ok (.iload_n 1, 1) := by decide +kernel
theorem dX0_companyOf_28 : decode cX0_companyOf 28 = .ok (.if_icmp .ne 54, 3) := by decide +kernel
theorem dX0_companyOf_31 : decode cX0_companyOf 31 = .ok (.iload 6, 2) := by decide +kernel
theorem dX0_companyOf_33 : decode cX0_companyOf 33 = .ok (.iload_n 2, 1) := by decide +kernel
theorem dX0_companyOf_34 : decode cX0_companyOf 34 = .ok (.if_icmp .eq 48, 3) := by decide +kernel
theorem dX0_companyOf_37 : decode cX0_companyOf 37 = .ok (.iload_n 3, 1) := by decide +kernel
theorem dX0_companyOf_38 : decode cX0_companyOf 38 = .ok (.ifCond .ne 13, 3) := by decide +kernel
theorem dX0_companyOf_41 : decode cX0_companyOf 41 = .ok (.aload_n 0, 1) := by decide +kernel
theorem dX0_companyOf_42 : decode cX0_companyOf 42 = .ok (.getfield 19, 3) := by decide +kernel
theorem dX0_companyOf_45 : decode cX0_companyOf 45 = .ok (.iload 6, 2) := by decide +kernel
theorem dX0_companyOf_47 : decode cX0_companyOf 47 = .ok (.iaload, 1) := by decide +kernel
theorem dX0_companyOf_48 : decode cX0_companyOf 48 = .ok (.goto 5, 3) := by decide +kernel
theorem dX0_companyOf_51 : decode cX0_companyOf 51 = .ok (.iload 4, 2) := by decide +kernel
theorem dX0_companyOf_53 : decode cX0_companyOf 53 = .ok (.istore 4, 2) := by decide +kernel
theorem dX0_companyOf_55 : decode cX0_companyOf 55 = .ok (.iload 5, 2) := by decide +kernel
theorem dX0_companyOf_57 : decode cX0_companyOf 57 = .ok (.ifCond .eq 19, 3) := by decide +kernel
theorem dX0_companyOf_60 : decode cX0_companyOf 60 = .ok (.aload_n 0, 1) := by decide +kernel
theorem dX0_companyOf_61 : decode cX0_companyOf 61 = .ok (.getfield 19, 3) := by decide +kernel
theorem dX0_companyOf_64 : decode cX0_companyOf 64 = .ok (.iload 6, 2) := by decide +kernel
theorem dX0_companyOf_66 : decode cX0_companyOf 66 = .ok (.iaload, 1) := by decide +kernel
theorem dX0_companyOf_67 : decode cX0_companyOf 67 = .ok (.iload 4, 2) := by decide +kernel
theorem dX0_companyOf_69 : decode cX0_companyOf 69 = .ok (.if_icmp .ne 7, 3) := by decide +kernel
theorem dX0_companyOf_72 : decode cX0_companyOf 72 = .ok (.iconst 1, 1) := by decide +kernel
theorem dX0_companyOf_73 : decode cX0_companyOf 73 = .ok (.goto 4, 3) := by decide +kernel
theorem dX0_companyOf_76 : decode cX0_companyOf 76 = .ok (.iconst 0, 1) := by decide +kernel
theorem dX0_companyOf_77 : decode cX0_companyOf 77 = .ok (.istore 5, 2) := by decide +kernel
theorem dX0_companyOf_79 : decode cX0_companyOf 79 = .ok (.iinc 3 1, 3) := by decide +kernel
theorem dX0_companyOf_82 : decode cX0_companyOf 82 = .ok (.iinc 6 1, 3) := by decide +kernel
theorem dX0_companyOf_85 : decode cX0_companyOf 85 = .ok (.goto (-74), 3) := by decide +kernel
theorem dX0_companyOf_88 : decode cX0_companyOf 88 = .ok (.iload_n 3, 1) := by decide +kernel
theorem dX0_companyOf_89 : decode cX0_companyOf 89 = .ok (.iconst 3, 1) := by decide +kernel
theorem dX0_companyOf_90 : decode cX0_companyOf 90 = .ok (.if_icmp .ge 5, 3) := by decide +kernel
theorem dX0_companyOf_93 : decode cX0_companyOf 93 = .ok (.iload_n 3, 1) := by decide +kernel
theorem dX0_companyOf_94 : decode cX0_companyOf 94 = .ok (.ireturn, 1) := by decide +kernel
theorem dX0_companyOf_95 : decode cX0_companyOf 95 = .ok (.iload 5, 2) := by decide +kernel
theorem dX0_companyOf_97 : decode cX0_companyOf 97 = .ok (.ifCond .eq 7, 3) := by decide +kernel
theorem dX0_companyOf_100 : decode cX0_companyOf 100 = .ok (.iconst 3, 1) := by decide +kernel
theorem dX0_companyOf_101 : decode cX0_companyOf 101 = .ok (.goto 4, 3) := by decide +kernel
theorem dX0_companyOf_104 : decode cX0_companyOf 104 = .ok (.iconst 4, 1) := by decide +kernel
theorem dX0_companyOf_105 : decode cX0_companyOf 105 = .ok (.ireturn, 1) := by decide +kernel
theorem dX0_lenderTo_0 : decode cX0_lenderTo 0 = .ok (.bipush (-6), 2) := by decide +kernel
theorem dX0_lenderTo_2 : decode cX0_lenderTo 2 = .ok (.istore_n 3, 1) := by decide +kernel
theorem dX0_lenderTo_3 : decode cX0_lenderTo 3 = .ok (.bipush 10, 2) := by decide +kernel
theorem dX0_lenderTo_5 : decode cX0_lenderTo 5 = .ok (.istore 4, 2) := by decide +kernel
theorem dX0_lenderTo_7 : decode cX0_lenderTo 7 = .ok (.iconst 0, 1) := by decide +kernel
theorem dX0_lenderTo_8 : decode cX0_lenderTo 8 = .ok (.istore 5, 2) := by decide +kernel
theorem dX0_lenderTo_10 : decode cX0_lenderTo 10 = .ok (.iload 5, 2) := by decide +kernel
theorem dX0_lenderTo_12 : decode cX0_lenderTo 12 = .ok (.aload_n 0, 1) := by decide +kernel
theorem dX0_lenderTo_13 : decode cX0_lenderTo 13 = .ok (.getfield 9, 3) := by decide +kernel
theorem dX0_lenderTo_16 : decode cX0_lenderTo 16 = .ok (.if_icmp .ge 60, 3) := by decide +kernel
theorem dX0_lenderTo_19 : decode cX0_lenderTo 19 = .ok (.iload 5, 2) := by decide +kernel
theorem dX0_lenderTo_21 : decode cX0_lenderTo 21 = .ok (.iload_n 1, 1) := by decide +kernel
theorem dX0_lenderTo_22 : decode cX0_lenderTo 22 = .ok (.if_icmp .eq 48, 3) := by decide +kernel
theorem dX0_lenderTo_25 : decode cX0_lenderTo 25 = .ok (.aload_n 0, 1) := by decide +kernel
theorem dX0_lenderTo_26 : decode cX0_lenderTo 26 = .ok (.getfield 15, 3) := by decide +kernel
theorem dX0_lenderTo_29 : decode cX0_lenderTo 29 = .ok (.iload 5, 2) := by decide +kernel
theorem dX0_lenderTo_31 : decode cX0_lenderTo 31 = .ok (.iaload, 1) := by decide +kernel
theorem dX0_lenderTo_32 : decode cX0_lenderTo 32 = .ok (.iload_n 2, 1) := by decide +kernel
theorem dX0_lenderTo_33 : decode cX0_lenderTo 33 = .ok (.if_icmp .ne 37, 3) := by decide +kernel
theorem dX0_lenderTo_36 : decode cX0_lenderTo 36 = .ok (.aload_n 0, 1) := by decide +kernel
theorem dX0_lenderTo_37 : decode cX0_lenderTo 37 = .ok (.getfield 25, 3) := by decide +kernel
theorem dX0_lenderTo_40 : decode cX0_lenderTo 40 = .ok (.iload 5, 2) := by decide +kernel
theorem dX0_lenderTo_42 : decode cX0_lenderTo 42 = .ok (.iaload, 1) := by decide +kernel
theorem dX0_lenderTo_43 : decode cX0_lenderTo 43 = .ok (.ifCond .le 27, 3) := by decide +kernel
theorem dX0_lenderTo_46 : decode cX0_lenderTo 46 = .ok (.aload_n 0, 1) := by decide +kernel
theorem dX0_lenderTo_47 : decode cX0_lenderTo 47 = .ok (.getfield 19, 3) := by decide +kernel
theorem dX0_lenderTo_50 : decode cX0_lenderTo 50 = .ok (.iload 5, 2) := by decide +kernel
theorem dX0_lenderTo_52 : decode cX0_lenderTo 52 = .ok (.iaload, 1) := by decide +kernel
theorem dX0_lenderTo_53 : decode cX0_lenderTo 53 = .ok (.iload 4, 2) := by decide +kernel
theorem dX0_lenderTo_55 : decode cX0_lenderTo 55 = .ok (.if_icmp .ge 15, 3) := by decide +kernel
theorem dX0_lenderTo_58 : decode cX0_lenderTo 58 = .ok (.iload 5, 2) := by decide +kernel
theorem dX0_lenderTo_60 : decode cX0_lenderTo 60 = .ok (.istore_n 3, 1) := by decide +kernel
theorem dX0_lenderTo_61 : decode cX0_lenderTo 61 = .ok (.aload_n 0, 1) := by decide +kernel
theorem dX0_lenderTo_62 : decode cX0_lenderTo 62 = .ok (.getfield 19, 3) := by decide +kernel
theorem dX0_lenderTo_65 : decode cX0_lenderTo 65 = .ok (.iload 5, 2) := by decide +kernel
theorem dX0_lenderTo_67 : decode cX0_lenderTo 67 = .ok (.iaload, 1) := by decide +kernel
theorem dX0_lenderTo_68 : decode cX0_lenderTo 68 = .ok (.istore 4, 2) := by decide +kernel
theorem dX0_lenderTo_70 : decode cX0_lenderTo 70 = .ok (.iinc 5 1, 3) := by decide +kernel
theorem dX0_lenderTo_73 : decode cX0_lenderTo 73 = .ok (.goto (-63), 3) := by decide +kernel
theorem dX0_lenderTo_76 : decode cX0_lenderTo 76 = .ok (.iload_n 3, 1) := by decide +kernel
theorem dX0_lenderTo_77 : decode cX0_lenderTo 77 = .ok (.ireturn, 1) := by decide +kernel
theorem dX0_faultsOfAll_0 : decode cX0_faultsOfAll 0 = .ok (.iconst 0, 1) := by decide +kernel
theorem dX0_faultsOfAll_1 : decode cX0_faultsOfAll 1 = .ok (.istore_n 1, 1) := by decide +kernel
theorem dX0_faultsOfAll_2 : decode cX0_faultsOfAll 2 = .ok (.iconst 0, 1) := by decide +kernel
theorem dX0_faultsOfAll_3 : decode cX0_faultsOfAll 3 = .ok (.istore_n 2, 1) := by decide +kernel
theorem dX0_faultsOfAll_4 : decode cX0_faultsOfAll 4 = .ok (.iload_n 2, 1) := by decide +kernel
theorem dX0_faultsOfAll_5 : decode cX0_faultsOfAll 5 = .ok (.aload_n 0, 1) := by decide +kernel
theorem dX0_faultsOfAll_6 : decode cX0_faultsOfAll 6 = .ok (.getfield 9, 3) := by decide +kernel
theorem dX0_faultsOfAll_9 : decode cX0_faultsOfAll 9 = .ok (.if_icmp .ge 18, 3) := by decide +kernel
theorem dX0_faultsOfAll_12 : decode cX0_faultsOfAll 12 = .ok (.iload_n 1, 1) := by decide +kernel
theorem dX0_faultsOfAll_13 : decode cX0_faultsOfAll 13 = .ok (.aload_n 0, 1) := by decide +kernel
theorem dX0_faultsOfAll_14 : decode cX0_faultsOfAll 14 = .ok (.getfield 22, 3) := by decide +kernel
theorem dX0_faultsOfAll_17 : decode cX0_faultsOfAll 17 = .ok (.iload_n 2, 1) := by decide +kernel
theorem dX0_faultsOfAll_18 : decode cX0_faultsOfAll 18 = .ok (.iaload, 1) := by decide +kernel
theorem dX0_faultsOfAll_19 : decode cX0_faultsOfAll 19 = .ok (.iadd, 1) := by decide +kernel
theorem dX0_faultsOfAll_20 : decode cX0_faultsOfAll 20 = .ok (.istore_n 1, 1) := by decide +kernel
theorem dX0_faultsOfAll_21 : decode cX0_faultsOfAll 21 = .ok (.iinc 2 1, 3) := by decide +kernel
theorem dX0_faultsOfAll_24 : decode cX0_faultsOfAll 24 = .ok (.goto (-20), 3) := by decide +kernel
theorem dX0_faultsOfAll_27 : decode cX0_faultsOfAll 27 = .ok (.iload_n 1, 1) := by decide +kernel
theorem dX0_faultsOfAll_28 : decode cX0_faultsOfAll 28 = .ok (.ireturn, 1) := by decide +kernel
theorem dX0_coughsOfThoseHere_0 : decode cX0_coughsOfThoseHere 0 = .ok (.iconst 0, 1) := by decide +kernel
theorem dX0_coughsOfThoseHere_1 : decode cX0_coughsOfThoseHere 1 = .ok (.istore_n 1, 1) := by decide +kernel
theorem dX0_coughsOfThoseHere_2 : decode cX0_coughsOfThoseHere 2 = .ok (.iconst 0, 1) := by decide +kernel
theorem dX0_coughsOfThoseHere_3 : decode cX0_coughsOfThoseHere 3 = .ok (.istore_n 2, 1) := by decide +kernel
theorem dX0_coughsOfThoseHere_4 : decode cX0_coughsOfThoseHere 4 = .ok (.iload_n 2, 1) := by decide +kernel
theorem dX0_coughsOfThoseHere_5 : decode cX0_coughsOfThoseHere 5 = .ok (.aload_n 0, 1) := by decide +kernel
theorem dX0_coughsOfThoseHere_6 : decode cX0_coughsOfThoseHere 6 = .ok (.getfield 9, 3) := by decide +kernel
theorem dX0_coughsOfThoseHere_9 : decode cX0_coughsOfThoseHere 9 = .ok (.if_icmp .ge 33, 3) := by decide +kernel
theorem dX0_coughsOfThoseHere_12 : decode cX0_coughsOfThoseHere 12 = .ok (.iload_n 1, 1) := by decide +kernel
theorem dX0_coughsOfThoseHere_13 : decode cX0_coughsOfThoseHere 13 = .ok (.aload_n 0, 1) := by decide +kernel
theorem dX0_coughsOfThoseHere_14 : decode cX0_coughsOfThoseHere 14 = .ok (.getfield 15, 3) := by decide +kernel
theorem dX0_coughsOfThoseHere_17 : decode cX0_coughsOfThoseHere 17 = .ok (.iload_n 2, 1) := by decide +kernel
theorem dX0_coughsOfThoseHere_18 : decode cX0_coughsOfThoseHere 18 = .ok (.iaload, 1) := by decide +kernel
theorem dX0_coughsOfThoseHere_19 : decode cX0_coughsOfThoseHere 19 = .ok (.bipush (-6), 2) := by decide +kernel
theorem dX0_coughsOfThoseHere_21 : decode cX0_coughsOfThoseHere 21 = .ok (.if_icmp .ne 7, 3) := by decide +kernel
theorem dX0_coughsOfThoseHere_24 : decode cX0_coughsOfThoseHere 24 = .ok (.iconst 0, 1) := by decide +kernel
theorem dX0_coughsOfThoseHere_25 : decode cX0_coughsOfThoseHere 25 = .ok (.goto 9, 3) := by decide +kernel
theorem dX0_coughsOfThoseHere_28 : decode cX0_coughsOfThoseHere 28 = .ok (.aload_n 0, 1) := by decide +kernel
theorem dX0_coughsOfThoseHere_29 : decode cX0_coughsOfThoseHere 29 = .ok (.getfield 25, 3) := by decide +kernel
theorem dX0_coughsOfThoseHere_32 : decode cX0_coughsOfThoseHere 32 = .ok (.iload_n 2, 1) := by decide +kernel
theorem dX0_coughsOfThoseHere_33 : decode cX0_coughsOfThoseHere 33 = .ok (.iaload, 1) := by decide +kernel
theorem dX0_coughsOfThoseHere_34 : decode cX0_coughsOfThoseHere 34 = .ok (.iadd, 1) := by decide +kernel
theorem dX0_coughsOfThoseHere_35 : decode cX0_coughsOfThoseHere 35 = .ok (.istore_n 1, 1) := by decide +kernel
theorem dX0_coughsOfThoseHere_36 : decode cX0_coughsOfThoseHere 36 = .ok (.iinc 2 1, 3) := by decide +kernel
theorem dX0_coughsOfThoseHere_39 : decode cX0_coughsOfThoseHere 39 = .ok (.goto (-35), 3) := by decide +kernel
theorem dX0_coughsOfThoseHere_42 : decode cX0_coughsOfThoseHere 42 = .ok (.iload_n 1, 1) := by decide +kernel
theorem dX0_coughsOfThoseHere_43 : decode cX0_coughsOfThoseHere 43 = .ok (.ireturn, 1) := by decide +kernel
end
section
theorem dX1_init_0 : decode cX1_init 0 = .ok (.aload_n 0, 1) := by decide +kernel
theorem dX1_init_1 : decode cX1_init 1 = .ok (.invokespecial 3, 3) := by decide +kernel
theorem dX1_init_4 : decode cX1_init 4 = .ok (.aload_n 0, 1) := by decide +kernel
theorem dX1_init_5 : decode cX1_init 5 = .ok (.bipush 7, 2) := by decide +kernel
theorem dX1_init_7 : decode cX1_init 7 = .ok (.anewarray 9, 3) := by decide +kernel
theorem dX1_init_10 : decode cX1_init 10 = .ok (.putfield 11, 3) := by decide +kernel
theorem dX1_init_13 : decode cX1_init 13 = .ok (.aload_n 0, 1) := by decide +kernel
theorem dX1_init_14 : decode cX1_init 14 = .ok (.iconst 0, 1) := by decide +kernel
theorem dX1_init_15 : decode cX1_init 15 = .ok (.putfield 17, 3) := by decide +kernel
theorem dX1_init_18 : decode cX1_init 18 = .ok (.iconst 0, 1) := by decide +kernel
theorem dX1_init_19 : decode cX1_init 19 = .ok (.istore_n 1, 1) := by decide +kernel
theorem dX1_init_20 : decode cX1_init 20 = .ok (.iload_n 1, 1) := by decide +kernel
theorem dX1_init_21 : decode cX1_init 21 = .ok (.aload_n 0, 1) := by decide +kernel
theorem dX1_init_22 : decode cX1_init 22 = .ok (.getfield 11, 3) := by decide +kernel
theorem dX1_init_25 : decode cX1_init 25 = .ok (.arraylength, 1) := by decide +kernel
theorem dX1_init_26 : decode cX1_init 26 = .ok (.if_icmp .ge 22, 3) := by decide +kernel
theorem dX1_init_29 : decode cX1_init 29 = .ok (.aload_n 0, 1) := by decide +kernel
theorem dX1_init_30 : decode cX1_init 30 = .ok (.getfield 11, 3) := by decide +kernel
theorem dX1_init_33 : decode cX1_init 33 = .ok (.iload_n 1, 1) := by decide +kernel
theorem dX1_init_34 : decode cX1_init 34 = .ok (.new 9, 3) := by decide +kernel
theorem dX1_init_37 : decode cX1_init 37 = .ok (.dup, 1) := by decide +kernel
theorem dX1_init_38 : decode cX1_init 38 = .ok (.invokespecial 21, 3) := by decide +kernel
theorem dX1_init_41 : decode cX1_init 41 = .ok (.aastore, 1) := by decide +kernel
theorem dX1_init_42 : decode cX1_init 42 = .ok (.iinc 1 1, 3) := by decide +kernel
theorem dX1_init_45 : decode cX1_init 45 = .ok (.goto (-25), 3) := by decide +kernel
theorem dX1_init_48 : decode cX1_init 48 = .ok (.return_, 1) := by decide +kernel
theorem dX1_noteBefore_0 : decode cX1_noteBefore 0 = .ok (.aload_n 0, 1) := by decide +kernel
theorem dX1_noteBefore_1 : decode cX1_noteBefore 1 = .ok (.getfield 11, 3) := by decide +kernel
theorem dX1_noteBefore_4 : decode cX1_noteBefore 4 = .ok (.aload_n 0, 1) := by decide +kernel
theorem dX1_noteBefore_5 : decode cX1_noteBefore 5 = .ok (.getfield 17, 3) := by decide +kernel
theorem dX1_noteBefore_8 : decode cX1_noteBefore 8 = .ok (.aaload, 1) := by decide +kernel
theorem dX1_noteBefore_9 : decode cX1_noteBefore 9 = .ok (.aload_n 1, 1) := by decide +kernel
theorem dX1_noteBefore_10 : decode cX1_noteBefore 10 = .ok (.invokevirtual 22, 3) := by decide +kernel
theorem dX1_noteBefore_13 : decode cX1_noteBefore 13 = .ok (.return_, 1) := by decide +kernel
theorem dX1_keepNoted_0 : decode cX1_keepNoted 0 = .ok (.aload_n 0, 1) := by decide +kernel
theorem dX1_keepNoted_1 : decode cX1_keepNoted 1 = .ok (.getfield 17, 3) := by decide +kernel
theorem dX1_keepNoted_4 : decode cX1_keepNoted 4 = .ok (.bipush 6, 2) := by decide +kernel
theorem dX1_keepNoted_6 : decode cX1_keepNoted 6 = .ok (.if_icmp .ge 14, 3) := by decide +kernel
theorem dX1_keepNoted_9 : decode cX1_keepNoted 9 = .ok (.aload_n 0, 1) := by decide +kernel
theorem dX1_keepNoted_10 : decode cX1_keepNoted 10 = .ok (.dup, 1) := by decide +kernel
theorem dX1_keepNoted_11 : decode cX1_keepNoted 11 = .ok (.getfield 17, 3) := by decide +kernel
theorem dX1_keepNoted_14 : decode cX1_keepNoted 14 = .ok (.iconst 1, 1) := by decide +kernel
theorem dX1_keepNoted_15 : decode cX1_keepNoted 15 = .ok (.iadd, 1) := by decide +kernel
theorem dX1_keepNoted_16 : decode cX1_keepNoted 16 = .ok (.putfield 17, 3) := by decide +kernel
theorem dX1_keepNoted_19 : decode cX1_keepNoted 19 = .ok (.return_, 1) := by decide +kernel
theorem dX1_keepNoted_20 : decode cX1_keepNoted 20 = .ok (.aload_n 0, 1) := by decide +kernel
theorem dX1_keepNoted_21 : decode cX1_keepNoted 21 = .ok (.getfield 11, 3) := by decide +kernel
theorem dX1_keepNoted_24 : decode cX1_keepNoted 24 = .ok (.iconst 0, 1) := by decide +kernel
theorem dX1_keepNoted_25 : decode cX1_keepNoted 25 = .ok (.aaload, 1) := by decide +kernel
theorem dX1_keepNoted_26 : decode cX1_keepNoted 26 = .ok (.astore_n 1, 1) := by decide +kernel
theorem dX1_keepNoted_27 : decode cX1_keepNoted 27 = .ok (.iconst 0, 1) := by decide +kernel
theorem dX1_keepNoted_28 : decode cX1_keepNoted 28 = .ok (.istore_n 2, 1) := by decide +kernel
theorem dX1_keepNoted_29 : decode cX1_keepNoted 29 = .ok (.iload_n 2, 1) := by decide +kernel
theorem dX1_keepNoted_30 : decode cX1_keepNoted 30 = .ok (.bipush 6, 2) := by decide +kernel
theorem dX1_keepNoted_32 : decode cX1_keepNoted 32 = .ok (.if_icmp .ge 23, 3) := by decide +kernel
theorem dX1_keepNoted_35 : decode cX1_keepNoted 35 = .ok (.aload_n 0, 1) := by decide +kernel
theorem dX1_keepNoted_36 : decode cX1_keepNoted 36 = .ok (.getfield 11, 3) := by decide +kernel
theorem dX1_keepNoted_39 : decode cX1_keepNoted 39 = .ok (.iload_n 2, 1) := by decide +kernel
theorem dX1_keepNoted_40 : decode cX1_keepNoted 40 = .ok (.aload_n 0, 1) := by decide +kernel
theorem dX1_keepNoted_41 : decode cX1_keepNoted 41 = .ok (.getfield 11, 3) := by decide +kernel
theorem dX1_keepNoted_44 : decode cX1_keepNoted 44 = .ok (.iload_n 2, 1) := by decide +kernel
theorem dX1_keepNoted_45 : decode cX1_keepNoted 45 = .ok (.iconst 1, 1) := by decide +kernel
theorem dX1_keepNoted_46 : decode cX1_keepNoted 46 = .ok (.iadd, 1) := by decide +kernel
theorem dX1_keepNoted_47 : decode cX1_keepNoted 47 = .ok (.aaload, 1) := by decide +kernel
theorem dX1_keepNoted_48 : decode cX1_keepNoted 48 = .ok (.aastore, 1) := by decide +kernel
theorem dX1_keepNoted_49 : decode cX1_keepNoted 49 = .ok (.iinc 2 1, 3) := by decide +kernel
theorem dX1_keepNoted_52 : decode cX1_keepNoted 52 = .ok (.goto (-23), 3) := by decide +kernel
theorem dX1_keepNoted_55 : decode cX1_keepNoted 55 = .ok (.aload_n 0, 1) := by decide +kernel
theorem dX1_keepNoted_56 : decode cX1_keepNoted 56 = .ok (.getfield 11, 3) := by decide +kernel
theorem dX1_keepNoted_59 : decode cX1_keepNoted 59 = .ok (.bipush 6, 2) := by decide +kernel
theorem dX1_keepNoted_61 : decode cX1_keepNoted 61 = .ok (.aload_n 1, 1) := by decide +kernel
theorem dX1_keepNoted_62 : decode cX1_keepNoted 62 = .ok (.aastore, 1) := by decide +kernel
theorem dX1_keepNoted_63 : decode cX1_keepNoted 63 = .ok (.return_, 1) := by decide +kernel
theorem dX1_takeBack_0 : decode cX1_takeBack 0 = .ok (.aload_n 0, 1) := by decide +kernel
theorem dX1_takeBack_1 : decode cX1_takeBack 1 = .ok (.getfield 17, 3) := by decide +kernel
theorem dX1_takeBack_4 : decode cX1_takeBack 4 = .ok (.ifCond .ne 6, 3) := by decide +kernel
theorem dX1_takeBack_7 : decode cX1_takeBack 7 = .ok (.bipush (-5), 2) := by decide +kernel
theorem dX1_takeBack_9 : decode cX1_takeBack 9 = .ok (.ireturn, 1) := by decide +kernel
theorem dX1_takeBack_10 : decode cX1_takeBack 10 = .ok (.aload_n 0, 1) := by decide +kernel
theorem dX1_takeBack_11 : decode cX1_takeBack 11 = .ok (.dup, 1) := by decide +kernel
theorem dX1_takeBack_12 : decode cX1_takeBack 12 = .ok (.getfield 17, 3) := by decide +kernel
theorem dX1_takeBack_15 : decode cX1_takeBack 15 = .ok (.iconst 1, 1) := by decide +kernel
theorem dX1_takeBack_16 : decode cX1_takeBack 16 = .ok (.isub, 1) := by decide +kernel
theorem dX1_takeBack_17 : decode cX1_takeBack 17 = .ok (.putfield 17, 3) := by decide +kernel
theorem dX1_takeBack_20 : decode cX1_takeBack 20 = .ok (.aload_n 1, 1) := by decide +kernel
theorem dX1_takeBack_21 : decode cX1_takeBack 21 = .ok (.aload_n 0, 1) := by decide +kernel
theorem dX1_takeBack_22 : decode cX1_takeBack 22 = .ok (.getfield 11, 3) := by decide +kernel
theorem dX1_takeBack_25 : decode cX1_takeBack 25 = .ok (.aload_n 0, 1) := by decide +kernel
theorem dX1_takeBack_26 : decode cX1_takeBack 26 = .ok (.getfield 17, 3) := by decide +kernel
theorem dX1_takeBack_29 : decode cX1_takeBack 29 = .ok (.aaload, 1) := by decide +kernel
theorem dX1_takeBack_30 : decode cX1_takeBack 30 = .ok (.invokevirtual 22, 3) := by decide +kernel
theorem dX1_takeBack_33 : decode cX1_takeBack 33 = .ok (.aload_n 0, 1) := by decide +kernel
theorem dX1_takeBack_34 : decode cX1_takeBack 34 = .ok (.getfield 17, 3) := by decide +kernel
theorem dX1_takeBack_37 : decode cX1_takeBack 37 = .ok (.ireturn, 1) := by decide +kernel
end
section
theorem dX2_init_0 : decode cX2_init 0 = .ok (.aload_n 0, 1) := by decide +kernel
theorem dX2_init_1 : decode cX2_init 1 = .ok (.invokespecial 3, 3) := by decide +kernel
theorem dX2_init_4 : decode cX2_init 4 = .ok (.aload_n 0, 1) := by decide +kernel
theorem dX2_init_5 : decode cX2_init 5 = .ok (.bipush 12, 2) := by decide +kernel
theorem dX2_init_7 : decode cX2_init 7 = .ok (.newarray .int, 2) := by decide +kernel
theorem dX2_init_9 : decode cX2_init 9 = .ok (.putfield 9, 3) := by decide +kernel
theorem dX2_init_12 : decode cX2_init 12 = .ok (.aload_n 0, 1) := by decide +kernel
theorem dX2_init_13 : decode cX2_init 13 = .ok (.bipush 12, 2) := by decide +kernel
theorem dX2_init_15 : decode cX2_init 15 = .ok (.newarray .int, 2) := by decide +kernel
theorem dX2_init_17 : decode cX2_init 17 = .ok (.putfield 15, 3) := by decide +kernel
theorem dX2_init_20 : decode cX2_init 20 = .ok (.aload_n 0, 1) := by decide +kernel
theorem dX2_init_21 : decode cX2_init 21 = .ok (.iconst 3, 1) := by decide +kernel
theorem dX2_init_22 : decode cX2_init 22 = .ok (.newarray .int, 2) := by decide +kernel
theorem dX2_init_24 : decode cX2_init 24 = .ok (.putfield 18, 3) := by decide +kernel
theorem dX2_init_27 : decode cX2_init 27 = .ok (.aload_n 0, 1) := by decide +kernel
theorem dX2_init_28 : decode cX2_init 28 = .ok (.bipush 50, 2) := by decide +kernel
theorem dX2_init_30 : decode cX2_init 30 = .ok (.newarray .int, 2) := by decide +kernel
theorem dX2_init_32 : decode cX2_init 32 = .ok (.putfield 21, 3) := by decide +kernel
theorem dX2_init_35 : decode cX2_init 35 = .ok (.aload_n 0, 1) := by decide +kernel
theorem dX2_init_36 : decode cX2_init 36 = .ok (.iconst 0, 1) := by decide +kernel
theorem dX2_init_37 : decode cX2_init 37 = .ok (.putfield 24, 3) := by decide +kernel
theorem dX2_init_40 : decode cX2_init 40 = .ok (.return_, 1) := by decide +kernel
theorem dX2_copyFrom_0 : decode cX2_copyFrom 0 = .ok (.aload_n 0, 1) := by decide +kernel
theorem dX2_copyFrom_1 : decode cX2_copyFrom 1 = .ok (.aload_n 1, 1) := by decide +kernel
theorem dX2_copyFrom_2 : decode cX2_copyFrom 2 = .ok (.getfield 24, 3) := by decide +kernel
theorem dX2_copyFrom_5 : decode cX2_copyFrom 5 = .ok (.putfield 24, 3) := by decide +kernel
theorem dX2_copyFrom_8 : decode cX2_copyFrom 8 = .ok (.aload_n 1, 1) := by decide +kernel
theorem dX2_copyFrom_9 : decode cX2_copyFrom 9 = .ok (.getfield 9, 3) := by decide +kernel
theorem dX2_copyFrom_12 : decode cX2_copyFrom 12 = .ok (.iconst 0, 1) := by decide +kernel
theorem dX2_copyFrom_13 : decode cX2_copyFrom 13 = .ok (.aload_n 0, 1) := by decide +kernel
theorem dX2_copyFrom_14 : decode cX2_copyFrom 14 = .ok (.getfield 9, 3) := by decide +kernel
theorem dX2_copyFrom_17 : decode cX2_copyFrom 17 = .ok (.iconst 0, 1) := by decide +kernel
theorem dX2_copyFrom_18 : decode cX2_copyFrom 18 = .ok (.aload_n 0, 1) := by decide +kernel
theorem dX2_copyFrom_19 : decode cX2_copyFrom 19 = .ok (.getfield 9, 3) := by decide +kernel
theorem dX2_copyFrom_22 : decode cX2_copyFrom 22 = .ok (.arraylength, 1) := by decide +kernel
theorem dX2_copyFrom_23 : decode cX2_copyFrom 23 = .ok (.invokestatic 28, 3) := by decide +kernel
theorem dX2_copyFrom_26 : decode cX2_copyFrom 26 = .ok (.aload_n 1, 1) := by decide +kernel
theorem dX2_copyFrom_27 : decode cX2_copyFrom 27 = .ok (.getfield 15, 3) := by decide +kernel
theorem dX2_copyFrom_30 : decode cX2_copyFrom 30 = .ok (.iconst 0, 1) := by decide +kernel
theorem dX2_copyFrom_31 : decode cX2_copyFrom 31 = .ok (.aload_n 0, 1) := by decide +kernel
theorem dX2_copyFrom_32 : decode cX2_copyFrom 32 = .ok (.getfield 15, 3) := by decide +kernel
theorem dX2_copyFrom_35 : decode cX2_copyFrom 35 = .ok (.iconst 0, 1) := by decide +kernel
theorem dX2_copyFrom_36 : decode cX2_copyFrom 36 = .ok (.aload_n 0, 1) := by decide +kernel
theorem dX2_copyFrom_37 : decode cX2_copyFrom 37 = .ok (.getfield 15, 3) := by decide +kernel
theorem dX2_copyFrom_40 : decode cX2_copyFrom 40 = .ok (.arraylength, 1) := by decide +kernel
theorem dX2_copyFrom_41 : decode cX2_copyFrom 41 = .ok (.invokestatic 28, 3) := by decide +kernel
theorem dX2_copyFrom_44 : decode cX2_copyFrom 44 = .ok (.aload_n 1, 1) := by decide +kernel
theorem dX2_copyFrom_45 : decode cX2_copyFrom 45 = .ok (.getfield 18, 3) := by decide +kernel
theorem dX2_copyFrom_48 : decode cX2_copyFrom 48 = .ok (.iconst 0, 1) := by decide +kernel
theorem dX2_copyFrom_49 : decode cX2_copyFrom 49 = .ok (.aload_n 0, 1) := by decide +kernel
theorem dX2_copyFrom_50 : decode cX2_copyFrom 50 = .ok (.getfield 18, 3) := by decide +kernel
theorem dX2_copyFrom_53 : decode cX2_copyFrom 53 = .ok (.iconst 0, 1) := by decide +kernel
theorem dX2_copyFrom_54 : decode cX2_copyFrom 54 = .ok (.aload_n 0, 1) := by decide +kernel
theorem dX2_copyFrom_55 : decode cX2_copyFrom 55 = .ok (.getfield 18, 3) := by decide +kernel
theorem dX2_copyFrom_58 : decode cX2_copyFrom 58 = .ok (.arraylength, 1) := by decide +kernel
theorem dX2_copyFrom_59 : decode cX2_copyFrom 59 = .ok (.invokestatic 28, 3) := by decide +kernel
theorem dX2_copyFrom_62 : decode cX2_copyFrom 62 = .ok (.aload_n 1, 1) := by decide +kernel
theorem dX2_copyFrom_63 : decode cX2_copyFrom 63 = .ok (.getfield 21, 3) := by decide +kernel
theorem dX2_copyFrom_66 : decode cX2_copyFrom 66 = .ok (.iconst 0, 1) := by decide +kernel
theorem dX2_copyFrom_67 : decode cX2_copyFrom 67 = .ok (.aload_n 0, 1) := by decide +kernel
theorem dX2_copyFrom_68 : decode cX2_copyFrom 68 = .ok (.getfield 21, 3) := by decide +kernel
theorem dX2_copyFrom_71 : decode cX2_copyFrom 71 = .ok (.iconst 0, 1) := by decide +kernel
theorem dX2_copyFrom_72 : decode cX2_copyFrom 72 = .ok (.aload_n 0, 1) := by decide +kernel
theorem dX2_copyFrom_73 : decode cX2_copyFrom 73 = .ok (.getfield 21, 3) := by decide +kernel
theorem dX2_copyFrom_76 : decode cX2_copyFrom 76 = .ok (.arraylength, 1) := by decide +kernel
theorem dX2_copyFrom_77 : decode cX2_copyFrom 77 = .ok (.invokestatic 28, 3) := by decide +kernel
theorem dX2_copyFrom_80 : decode cX2_copyFrom 80 = .ok (.return_, 1) := by decide +kernel
theorem dX2_enterMeaning_0 : decode cX2_enterMeaning 0 = .ok (.iload_n 1, 1) := by decide +kernel
theorem dX2_enterMeaning_1 : decode cX2_enterMeaning 1 = .ok (.iconst 1, 1) := by decide +kernel
theorem dX2_enterMeaning_2 : decode cX2_enterMeaning 2 = .ok (.if_icmp .lt 9, 3) := by decide +kernel
theorem dX2_enterMeaning_5 : decode cX2_enterMeaning 5 = .ok (.iload_n 1, 1) := by decide +kernel
theorem dX2_enterMeaning_6 : decode cX2_enterMeaning 6 = .ok (.bipush 11, 2) := by decide +kernel
theorem dX2_enterMeaning_8 : decode cX2_enterMeaning 8 = .ok (.if_icmp .le 4, 3) := by decide +kernel
theorem dX2_enterMeaning_11 : decode cX2_enterMeaning 11 = .ok (.return_, 1) := by decide +kernel
theorem dX2_enterMeaning_12 : decode cX2_enterMeaning 12 = .ok (.aload_n 0, 1) := by decide +kernel
theorem dX2_enterMeaning_13 : decode cX2_enterMeaning 13 = .ok (.getfield 9, 3) := by decide +kernel
theorem dX2_enterMeaning_16 : decode cX2_enterMeaning 16 = .ok (.iload_n 1, 1) := by decide +kernel
theorem dX2_enterMeaning_17 : decode cX2_enterMeaning 17 = .ok (.dup2, 1) := by decide +kernel
theorem dX2_enterMeaning_18 : decode cX2_enterMeaning 18 = .ok (.iaload, 1) := by decide +kernel
theorem dX2_enterMeaning_19 : decode cX2_enterMeaning 19 = .ok (.iconst 1, 1) := by decide +kernel
theorem dX2_enterMeaning_20 : decode cX2_enterMeaning 20 = .ok (.iadd, 1) := by decide +kernel
theorem dX2_enterMeaning_21 : decode cX2_enterMeaning 21 = .ok (.iastore, 1) := by decide +kernel
theorem dX2_enterMeaning_22 : decode cX2_enterMeaning 22 = .ok (.aload_n 0, 1) := by decide +kernel
theorem dX2_enterMeaning_23 : decode cX2_enterMeaning 23 = .ok (.getfield 15, 3) := by decide +kernel
theorem dX2_enterMeaning_26 : decode cX2_enterMeaning 26 = .ok (.iload_n 1, 1) := by decide +kernel
theorem dX2_enterMeaning_27 : decode cX2_enterMeaning 27 = .ok (.aload_n 0, 1) := by decide +kernel
theorem dX2_enterMeaning_28 : decode cX2_enterMeaning 28 = .ok (.getfield 15, 3) := by decide +kernel
theorem dX2_enterMeaning_31 : decode cX2_enterMeaning 31 = .ok (.iload_n 1, 1) := by decide +kernel
theorem dX2_enterMeaning_32 : decode cX2_enterMeaning 32 = .ok (.iaload, 1) := by decide +kernel
theorem dX2_enterMeaning_33 : decode cX2_enterMeaning 33 = .ok (.iload_n 2, 1) := by decide +kernel
theorem dX2_enterMeaning_34 : decode cX2_enterMeaning 34 = .ok (.invokestatic 34, 3) := by decide +kernel
theorem dX2_enterMeaning_37 : decode cX2_enterMeaning 37 = .ok (.iastore, 1) := by decide +kernel
theorem dX2_enterMeaning_38 : decode cX2_enterMeaning 38 = .ok (.return_, 1) := by decide +kernel
theorem dX2_tellEnd_0 : decode cX2_tellEnd 0 = .ok (.aload_n 0, 1) := by decide +kernel
theorem dX2_tellEnd_1 : decode cX2_tellEnd 1 = .ok (.getfield 21, 3) := by decide +kernel
theorem dX2_tellEnd_4 : decode cX2_tellEnd 4 = .ok (.iconst 0, 1) := by decide +kernel
theorem dX2_tellEnd_5 : decode cX2_tellEnd 5 = .ok (.aload_n 0, 1) := by decide +kernel
theorem dX2_tellEnd_6 : decode cX2_tellEnd 6 = .ok (.getfield 21, 3) := by decide +kernel
theorem dX2_tellEnd_9 : decode cX2_tellEnd 9 = .ok (.iconst 5, 1) := by decide +kernel
theorem dX2_tellEnd_10 : decode cX2_tellEnd 10 = .ok (.aload_n 0, 1) := by decide +kernel
theorem dX2_tellEnd_11 : decode cX2_tellEnd 11 = .ok (.getfield 21, 3) := by decide +kernel
theorem dX2_tellEnd_14 : decode cX2_tellEnd 14 = .ok (.arraylength, 1) := by decide +kernel
theorem dX2_tellEnd_15 : decode cX2_tellEnd 15 = .ok (.iconst 5, 1) := by decide +kernel
theorem dX2_tellEnd_16 : decode cX2_tellEnd 16 = .ok (.isub, 1) := by decide +kernel
theorem dX2_tellEnd_17 : decode cX2_tellEnd 17 = .ok (.invokestatic 28, 3) := by decide +kernel
theorem dX2_tellEnd_20 : decode cX2_tellEnd 20 = .ok (.aload_n 0, 1) := by decide +kernel
theorem dX2_tellEnd_21 : decode cX2_tellEnd 21 = .ok (.getfield 21, 3) := by decide +kernel
theorem dX2_tellEnd_24 : decode cX2_tellEnd 24 = .ok (.iconst 0, 1) := by decide +kernel
theorem dX2_tellEnd_25 : decode cX2_tellEnd 25 = .ok (.iload_n 1, 1) := by decide +kernel
theorem dX2_tellEnd_26 : decode cX2_tellEnd 26 = .ok (.iastore, 1) := by decide +kernel
theorem dX2_tellEnd_27 : decode cX2_tellEnd 27 = .ok (.aload_n 0, 1) := by decide +kernel
theorem dX2_tellEnd_28 : decode cX2_tellEnd 28 = .ok (.getfield 21, 3) := by decide +kernel
theorem dX2_tellEnd_31 : decode cX2_tellEnd 31 = .ok (.iconst 1, 1) := by decide +kernel
theorem dX2_tellEnd_32 : decode cX2_tellEnd 32 = .ok (.iload_n 2, 1) := by decide +kernel
theorem dX2_tellEnd_33 : decode cX2_tellEnd 33 = .ok (.iastore, 1) := by decide +kernel
theorem dX2_tellEnd_34 : decode cX2_tellEnd 34 = .ok (.aload_n 0, 1) := by decide +kernel
theorem dX2_tellEnd_35 : decode cX2_tellEnd 35 = .ok (.getfield 21, 3) := by decide +kernel
theorem dX2_tellEnd_38 : decode cX2_tellEnd 38 = .ok (.iconst 2, 1) := by decide +kernel
theorem dX2_tellEnd_39 : decode cX2_tellEnd 39 = .ok (.iload_n 3, 1) := by decide +kernel
theorem dX2_tellEnd_40 : decode cX2_tellEnd 40 = .ok (.iastore, 1) := by decide +kernel
theorem dX2_tellEnd_41 : decode cX2_tellEnd 41 = .ok (.aload_n 0, 1) := by decide +kernel
theorem dX2_tellEnd_42 : decode cX2_tellEnd 42 = .ok (.getfield 21, 3) := by decide +kernel
theorem dX2_tellEnd_45 : decode cX2_tellEnd 45 = .ok (.iconst 3, 1) := by decide +kernel
theorem dX2_tellEnd_46 : decode cX2_tellEnd 46 = .ok (.iload 4, 2) := by decide +kernel
theorem dX2_tellEnd_48 : decode cX2_tellEnd 48 = .ok (.iastore, 1) := by decide +kernel
theorem dX2_tellEnd_49 : decode cX2_tellEnd 49 = .ok (.aload_n 0, 1) := by decide +kernel
theorem dX2_tellEnd_50 : decode cX2_tellEnd 50 = .ok (.getfield 21, 3) := by decide +kernel
theorem dX2_tellEnd_53 : decode cX2_tellEnd 53 = .ok (.iconst 4, 1) := by decide +kernel
theorem dX2_tellEnd_54 : decode cX2_tellEnd 54 = .ok (.iload 5, 2) := by decide +kernel
theorem dX2_tellEnd_56 : decode cX2_tellEnd 56 = .ok (.iastore, 1) := by decide +kernel
theorem dX2_tellEnd_57 : decode cX2_tellEnd 57 = .ok (.aload_n 0, 1) := by decide +kernel
theorem dX2_tellEnd_58 : decode cX2_tellEnd 58 = .ok (.aload_n 0, 1) := by decide +kernel
theorem dX2_tellEnd_59 : decode cX2_tellEnd 59 = .ok (.getfield 24, 3) := by decide +kernel
theorem dX2_tellEnd_62 : decode cX2_tellEnd 62 = .ok (.iconst 1, 1) := by decide +kernel
theorem dX2_tellEnd_63 : decode cX2_tellEnd 63 = .ok (.iadd, 1) := by decide +kernel
theorem dX2_tellEnd_64 : decode cX2_tellEnd 64 = .ok (.bipush 10, 2) := by decide +kernel
theorem dX2_tellEnd_66 : decode cX2_tellEnd 66 = .ok (.invokestatic 40, 3) := by decide +kernel
theorem dX2_tellEnd_69 : decode cX2_tellEnd 69 = .ok (.putfield 24, 3) := by decide +kernel
theorem dX2_tellEnd_72 : decode cX2_tellEnd 72 = .ok (.aload_n 0, 1) := by decide +kernel
theorem dX2_tellEnd_73 : decode cX2_tellEnd 73 = .ok (.getfield 18, 3) := by decide +kernel
theorem dX2_tellEnd_76 : decode cX2_tellEnd 76 = .ok (.iload_n 1, 1) := by decide +kernel
theorem dX2_tellEnd_77 : decode cX2_tellEnd 77 = .ok (.dup2, 1) := by decide +kernel
theorem dX2_tellEnd_78 : decode cX2_tellEnd 78 = .ok (.iaload, 1) := by decide +kernel
theorem dX2_tellEnd_79 : decode cX2_tellEnd 79 = .ok (.iconst 1, 1) := by decide +kernel
theorem dX2_tellEnd_80 : decode cX2_tellEnd 80 = .ok (.iadd, 1) := by decide +kernel
theorem dX2_tellEnd_81 : decode cX2_tellEnd 81 = .ok (.iastore, 1) := by decide +kernel
theorem dX2_tellEnd_82 : decode cX2_tellEnd 82 = .ok (.return_, 1) := by decide +kernel
theorem dX2_setOfMeant_0 : decode cX2_setOfMeant 0 = .ok (.iconst 0, 1) := by decide +kernel
theorem dX2_setOfMeant_1 : decode cX2_setOfMeant 1 = .ok (.istore_n 1, 1) := by decide +kernel
theorem dX2_setOfMeant_2 : decode cX2_setOfMeant 2 = .ok (.iconst 1, 1) := by decide +kernel
theorem dX2_setOfMeant_3 : decode cX2_setOfMeant 3 = .ok (.istore_n 2, 1) := by decide +kernel
theorem dX2_setOfMeant_4 : decode cX2_setOfMeant 4 = .ok (.iload_n 2, 1) := by decide +kernel
theorem dX2_setOfMeant_5 : decode cX2_setOfMeant 5 = .ok (.bipush 11, 2) := by decide +kernel
theorem dX2_setOfMeant_7 : decode cX2_setOfMeant 7 = .ok (.if_icmp .gt 24, 3) := by decide +kernel
theorem dX2_setOfMeant_10 : decode cX2_setOfMeant 10 = .ok (.aload_n 0, 1) := by decide +kernel
theorem dX2_setOfMeant_11 : decode cX2_setOfMeant 11 = .ok (.getfield 9, 3) := by decide +kernel
theorem dX2_setOfMeant_14 : decode cX2_setOfMeant 14 = .ok (.iload_n 2, 1) := by decide +kernel
theorem dX2_setOfMeant_15 : decode cX2_setOfMeant 15 = .ok (.iaload, 1) := by decide +kernel
theorem dX2_setOfMeant_16 : decode cX2_setOfMeant 16 = .ok (.ifCond .le 9, 3) := by decide +kernel
theorem dX2_setOfMeant_19 : decode cX2_setOfMeant 19 = .ok (.iload_n 1, 1) := by decide +kernel
theorem dX2_setOfMeant_20 : decode cX2_setOfMeant 20 = .ok (.iconst 1, 1) := by decide +kernel
theorem dX2_setOfMeant_21 : decode cX2_setOfMeant 21 = .ok (.iload_n 2, 1) := by decide +kernel
theorem dX2_setOfMeant_22 : decode cX2_setOfMeant 22 = .ok (.ishl, 1) := by decide +kernel
theorem dX2_setOfMeant_23 : decode cX2_setOfMeant 23 = .ok (.ior, 1) := by decide +kernel
theorem dX2_setOfMeant_24 : decode cX2_setOfMeant 24 = .ok (.istore_n 1, 1) := by decide +kernel
theorem dX2_setOfMeant_25 : decode cX2_setOfMeant 25 = .ok (.iinc 2 1, 3) := by decide +kernel
theorem dX2_setOfMeant_28 : decode cX2_setOfMeant 28 = .ok (.goto (-24), 3) := by decide +kernel
theorem dX2_setOfMeant_31 : decode cX2_setOfMeant 31 = .ok (.iload_n 1, 1) := by decide +kernel
theorem dX2_setOfMeant_32 : decode cX2_setOfMeant 32 = .ok (.ireturn, 1) := by decide +kernel
theorem dX2_mostMeant_0 : decode cX2_mostMeant 0 = .ok (.bipush (-6), 2) := by decide +kernel
theorem dX2_mostMeant_2 : decode cX2_mostMeant 2 = .ok (.istore_n 1, 1) := by decide +kernel
theorem dX2_mostMeant_3 : decode cX2_mostMeant 3 = .ok (.iconst 0, 1) := by decide +kernel
theorem dX2_mostMeant_4 : decode cX2_mostMeant 4 = .ok (.istore_n 2, 1) := by decide +kernel
theorem dX2_mostMeant_5 : decode cX2_mostMeant 5 = .ok (.iconst 1, 1) := by decide +kernel
theorem dX2_mostMeant_6 : decode cX2_mostMeant 6 = .ok (.istore_n 3, 1) := by decide +kernel
theorem dX2_mostMeant_7 : decode cX2_mostMeant 7 = .ok (.iload_n 3, 1) := by decide +kernel
theorem dX2_mostMeant_8 : decode cX2_mostMeant 8 = .ok (.bipush 11, 2) := by decide +kernel
theorem dX2_mostMeant_10 : decode cX2_mostMeant 10 = .ok (.if_icmp .gt 28, 3) := by decide +kernel
theorem dX2_mostMeant_13 : decode cX2_mostMeant 13 = .ok (.aload_n 0, 1) := by decide +kernel
theorem dX2_mostMeant_14 : decode cX2_mostMeant 14 = .ok (.getfield 9, 3) := by decide +kernel
theorem dX2_mostMeant_17 : decode cX2_mostMeant 17 = .ok (.iload_n 3, 1) := by decide +kernel
theorem dX2_mostMeant_18 : decode cX2_mostMeant 18 = .ok (.iaload, 1) := by decide +kernel
theorem dX2_mostMeant_19 : decode cX2_mostMeant 19 = .ok (.iload_n 2, 1) := by decide +kernel
theorem dX2_mostMeant_20 : decode cX2_mostMeant 20 = .ok (.if_icmp .le 12, 3) := by decide +kernel
theorem dX2_mostMeant_23 : decode cX2_mostMeant 23 = .ok (.iload_n 3, 1) := by decide +kernel
theorem dX2_mostMeant_24 : decode cX2_mostMeant 24 = .ok (.istore_n 1, 1) := by decide +kernel
theorem dX2_mostMeant_25 : decode cX2_mostMeant 25 = .ok (.aload_n 0, 1) := by decide +kernel
theorem dX2_mostMeant_26 : decode cX2_mostMeant 26 = .ok (.getfield 9, 3) := by decide +kernel
theorem dX2_mostMeant_29 : decode cX2_mostMeant 29 = .ok (.iload_n 3, 1) := by decide +kernel
theorem dX2_mostMeant_30 : decode cX2_mostMeant 30 = .ok (.iaload, 1) := by decide +kernel
theorem dX2_mostMeant_31 : decode cX2_mostMeant 31 = .ok (.istore_n 2, 1) := by decide +kernel
theorem dX2_mostMeant_32 : decode cX2_mostMeant 32 = .ok (.iinc 3 1, 3) := by decide +kernel
theorem dX2_mostMeant_35 : decode cX2_mostMeant 35 = .ok (.goto (-28), 3) := by decide +kernel
theorem dX2_mostMeant_38 : decode cX2_mostMeant 38 = .ok (.iload_n 1, 1) := by decide +kernel
theorem dX2_mostMeant_39 : decode cX2_mostMeant 39 = .ok (.ireturn, 1) := by decide +kernel
end
section
theorem dX3_init_0 : decode cX3_init 0 = .ok (.aload_n 0, 1) := by decide +kernel
theorem dX3_init_1 : decode cX3_init 1 = .ok (.invokespecial 3, 3) := by decide +kernel
theorem dX3_init_4 : decode cX3_init 4 = .ok (.aload_n 0, 1) := by decide +kernel
theorem dX3_init_5 : decode cX3_init 5 = .ok (.bipush 80, 2) := by decide +kernel
theorem dX3_init_7 : decode cX3_init 7 = .ok (.newarray .int, 2) := by decide +kernel
theorem dX3_init_9 : decode cX3_init 9 = .ok (.putfield 9, 3) := by decide +kernel
theorem dX3_init_12 : decode cX3_init 12 = .ok (.aload_n 0, 1) := by decide +kernel
theorem dX3_init_13 : decode cX3_init 13 = .ok (.iconst 0, 1) := by decide +kernel
theorem dX3_init_14 : decode cX3_init 14 = .ok (.putfield 15, 3) := by decide +kernel
theorem dX3_init_17 : decode cX3_init 17 = .ok (.return_, 1) := by decide +kernel
end
section
theorem dX4_init_0 : decode cX4_init 0 = .ok (.aload_n 0, 1) := by decide +kernel
theorem dX4_init_1 : decode cX4_init 1 = .ok (.invokespecial 3, 3) := by decide +kernel
theorem dX4_init_4 : decode cX4_init 4 = .ok (.aload_n 0, 1) := by decide +kernel
theorem dX4_init_5 : decode cX4_init 5 = .ok (.iconst 0, 1) := by decide +kernel
theorem dX4_init_6 : decode cX4_init 6 = .ok (.putfield 9, 3) := by decide +kernel
theorem dX4_init_9 : decode cX4_init 9 = .ok (.aload_n 0, 1) := by decide +kernel
theorem dX4_init_10 : decode cX4_init 10 = .ok (.getstatic 15, 3) := by decide +kernel
theorem dX4_init_13 : decode cX4_init 13 = .ok (.invokevirtual 19, 3) := by decide +kernel
theorem dX4_init_16 : decode cX4_init 16 = .ok (.checkcast 20, 3) := by decide +kernel
theorem dX4_init_19 : decode cX4_init 19 = .ok (.putfield 24, 3) := by decide +kernel
theorem dX4_init_22 : decode cX4_init 22 = .ok (.aload_n 0, 1) := by decide +kernel
theorem dX4_init_23 : decode cX4_init 23 = .ok (.new 27, 3) := by decide +kernel
theorem dX4_init_26 : decode cX4_init 26 = .ok (.dup, 1) := by decide +kernel
theorem dX4_init_27 : decode cX4_init 27 = .ok (.invokespecial 29, 3) := by decide +kernel
theorem dX4_init_30 : decode cX4_init 30 = .ok (.putfield 30, 3) := by decide +kernel
theorem dX4_init_33 : decode cX4_init 33 = .ok (.aload_n 0, 1) := by decide +kernel
theorem dX4_init_34 : decode cX4_init 34 = .ok (.new 34, 3) := by decide +kernel
theorem dX4_init_37 : decode cX4_init 37 = .ok (.dup, 1) := by decide +kernel
theorem dX4_init_38 : decode cX4_init 38 = .ok (.invokespecial 36, 3) := by decide +kernel
theorem dX4_init_41 : decode cX4_init 41 = .ok (.putfield 37, 3) := by decide +kernel
theorem dX4_init_44 : decode cX4_init 44 = .ok (.aload_n 0, 1) := by decide +kernel
theorem dX4_init_45 : decode cX4_init 45 = .ok (.iconst 3, 1) := by decide +kernel
theorem dX4_init_46 : decode cX4_init 46 = .ok (.newarray .int, 2) := by decide +kernel
theorem dX4_init_48 : decode cX4_init 48 = .ok (.dup, 1) := by decide +kernel
theorem dX4_init_49 : decode cX4_init 49 = .ok (.iconst 0, 1) := by decide +kernel
theorem dX4_init_50 : decode cX4_init 50 = .ok (.bipush (-6), 2) := by decide +kernel
theorem dX4_init_52 : decode cX4_init 52 = .ok (.iastore, 1) := by decide +kernel
theorem dX4_init_53 : decode cX4_init 53 = .ok (.dup, 1) := by decide +kernel
theorem dX4_init_54 : decode cX4_init 54 = .ok (.iconst 1, 1) := by decide +kernel
theorem dX4_init_55 : decode cX4_init 55 = .ok (.bipush (-6), 2) := by decide +kernel
theorem dX4_init_57 : decode cX4_init 57 = .ok (.iastore, 1) := by decide +kernel
theorem dX4_init_58 : decode cX4_init 58 = .ok (.dup, 1) := by decide +kernel
theorem dX4_init_59 : decode cX4_init 59 = .ok (.iconst 2, 1) := by decide +kernel
theorem dX4_init_60 : decode cX4_init 60 = .ok (.bipush (-6), 2) := by decide +kernel
theorem dX4_init_62 : decode cX4_init 62 = .ok (.iastore, 1) := by decide +kernel
theorem dX4_init_63 : decode cX4_init 63 = .ok (.putfield 41, 3) := by decide +kernel
theorem dX4_init_66 : decode cX4_init 66 = .ok (.aload_n 0, 1) := by decide +kernel
theorem dX4_init_67 : decode cX4_init 67 = .ok (.iconst 3, 1) := by decide +kernel
theorem dX4_init_68 : decode cX4_init 68 = .ok (.newarray .int, 2) := by decide +kernel
theorem dX4_init_70 : decode cX4_init 70 = .ok (.putfield 44, 3) := by decide +kernel
theorem dX4_init_73 : decode cX4_init 73 = .ok (.return_, 1) := by decide +kernel
theorem dX4_copyFrom_0 : decode cX4_copyFrom 0 = .ok (.aload_n 0, 1) := by decide +kernel
theorem dX4_copyFrom_1 : decode cX4_copyFrom 1 = .ok (.aload_n 1, 1) := by decide +kernel
theorem dX4_copyFrom_2 : decode cX4_copyFrom 2 = .ok (.getfield 9, 3) := by decide +kernel
theorem dX4_copyFrom_5 : decode cX4_copyFrom 5 = .ok (.putfield 9, 3) := by decide +kernel
theorem dX4_copyFrom_8 : decode cX4_copyFrom 8 = .ok (.aload_n 1, 1) := by decide +kernel
theorem dX4_copyFrom_9 : decode cX4_copyFrom 9 = .ok (.getfield 24, 3) := by decide +kernel
theorem dX4_copyFrom_12 : decode cX4_copyFrom 12 = .ok (.iconst 0, 1) := by decide +kernel
theorem dX4_copyFrom_13 : decode cX4_copyFrom 13 = .ok (.aload_n 0, 1) := by decide +kernel
theorem dX4_copyFrom_14 : decode cX4_copyFrom 14 = .ok (.getfield 24, 3) := by decide +kernel
theorem dX4_copyFrom_17 : decode cX4_copyFrom 17 = .ok (.iconst 0, 1) := by decide +kernel
theorem dX4_copyFrom_18 : decode cX4_copyFrom 18 = .ok (.aload_n 0, 1) := by decide +kernel
theorem dX4_copyFrom_19 : decode cX4_copyFrom 19 = .ok (.getfield 24, 3) := by decide +kernel
theorem dX4_copyFrom_22 : decode cX4_copyFrom 22 = .ok (.arraylength, 1) := by decide +kernel
theorem dX4_copyFrom_23 : decode cX4_copyFrom 23 = .ok (.invokestatic 47, 3) := by decide +kernel
theorem dX4_copyFrom_26 : decode cX4_copyFrom 26 = .ok (.aload_n 0, 1) := by decide +kernel
theorem dX4_copyFrom_27 : decode cX4_copyFrom 27 = .ok (.getfield 30, 3) := by decide +kernel
theorem dX4_copyFrom_30 : decode cX4_copyFrom 30 = .ok (.aload_n 1, 1) := by decide +kernel
theorem dX4_copyFrom_31 : decode cX4_copyFrom 31 = .ok (.getfield 30, 3) := by decide +kernel
theorem dX4_copyFrom_34 : decode cX4_copyFrom 34 = .ok (.invokevirtual 53, 3) := by decide +kernel
theorem dX4_copyFrom_37 : decode cX4_copyFrom 37 = .ok (.aload_n 0, 1) := by decide +kernel
theorem dX4_copyFrom_38 : decode cX4_copyFrom 38 = .ok (.getfield 37, 3) := by decide +kernel
theorem dX4_copyFrom_41 : decode cX4_copyFrom 41 = .ok (.aload_n 1, 1) := by decide +kernel
theorem dX4_copyFrom_42 : decode cX4_copyFrom 42 = .ok (.getfield 37, 3) := by decide +kernel
theorem dX4_copyFrom_45 : decode cX4_copyFrom 45 = .ok (.invokevirtual 57, 3) := by decide +kernel
theorem dX4_copyFrom_48 : decode cX4_copyFrom 48 = .ok (.aload_n 1, 1) := by decide +kernel
theorem dX4_copyFrom_49 : decode cX4_copyFrom 49 = .ok (.getfield 41, 3) := by decide +kernel
theorem dX4_copyFrom_52 : decode cX4_copyFrom 52 = .ok (.iconst 0, 1) := by decide +kernel
theorem dX4_copyFrom_53 : decode cX4_copyFrom 53 = .ok (.aload_n 0, 1) := by decide +kernel
theorem dX4_copyFrom_54 : decode cX4_copyFrom 54 = .ok (.getfield 41, 3) := by decide +kernel
theorem dX4_copyFrom_57 : decode cX4_copyFrom 57 = .ok (.iconst 0, 1) := by decide +kernel
theorem dX4_copyFrom_58 : decode cX4_copyFrom 58 = .ok (.iconst 3, 1) := by decide +kernel
theorem dX4_copyFrom_59 : decode cX4_copyFrom 59 = .ok (.invokestatic 47, 3) := by decide +kernel
theorem dX4_copyFrom_62 : decode cX4_copyFrom 62 = .ok (.aload_n 1, 1) := by decide +kernel
theorem dX4_copyFrom_63 : decode cX4_copyFrom 63 = .ok (.getfield 44, 3) := by decide +kernel
theorem dX4_copyFrom_66 : decode cX4_copyFrom 66 = .ok (.iconst 0, 1) := by decide +kernel
theorem dX4_copyFrom_67 : decode cX4_copyFrom 67 = .ok (.aload_n 0, 1) := by decide +kernel
theorem dX4_copyFrom_68 : decode cX4_copyFrom 68 = .ok (.getfield 44, 3) := by decide +kernel
theorem dX4_copyFrom_71 : decode cX4_copyFrom 71 = .ok (.iconst 0, 1) := by decide +kernel
theorem dX4_copyFrom_72 : decode cX4_copyFrom 72 = .ok (.iconst 3, 1) := by decide +kernel
theorem dX4_copyFrom_73 : decode cX4_copyFrom 73 = .ok (.invokestatic 47, 3) := by decide +kernel
theorem dX4_copyFrom_76 : decode cX4_copyFrom 76 = .ok (.return_, 1) := by decide +kernel
theorem dX4_changeSetting_0 : decode cX4_changeSetting 0 = .ok (.iload_n 1, 1) := by decide +kernel
theorem dX4_changeSetting_1 : decode cX4_changeSetting 1 = .ok (.ifCond .lt 12, 3) := by decide +kernel
theorem dX4_changeSetting_4 : decode cX4_changeSetting 4 = .ok (.iload_n 1, 1) := by decide +kernel
theorem dX4_changeSetting_5 : decode cX4_changeSetting 5 = .ok (.aload_n 0, 1) := by decide +kernel
theorem dX4_changeSetting_6 : decode cX4_changeSetting 6 = .ok (.getfield 24, 3) := by decide +kernel
theorem dX4_changeSetting_9 : decode cX4_changeSetting 9 = .ok (.arraylength, 1) := by decide +kernel
theorem dX4_changeSetting_10 : decode cX4_changeSetting 10 = .ok (.if_icmp .lt 6, 3) := by decide +kernel
theorem dX4_changeSetting_13 : decode cX4_changeSetting 13 = .ok (.bipush (-2), 2) := by decide +kernel
theorem dX4_changeSetting_15 : decode cX4_changeSetting 15 = .ok (.ireturn, 1) := by decide +kernel
theorem dX4_changeSetting_16 : decode cX4_changeSetting 16 = .ok (.iload_n 2, 1) := by decide +kernel
theorem dX4_changeSetting_17 : decode cX4_changeSetting 17 = .ok (.iconst 1, 1) := by decide +kernel
theorem dX4_changeSetting_18 : decode cX4_changeSetting 18 = .ok (.if_icmp .lt 12, 3) := by decide +kernel
theorem dX4_changeSetting_21 : decode cX4_changeSetting 21 = .ok (.iload_n 2, 1) := by decide +kernel
theorem dX4_changeSetting_22 : decode cX4_changeSetting 22 = .ok (.getstatic 60, 3) := by decide +kernel
theorem dX4_changeSetting_25 : decode cX4_changeSetting 25 = .ok (.iload_n 1, 1) := by decide +kernel
theorem dX4_changeSetting_26 : decode cX4_changeSetting 26 = .ok (.iaload, 1) := by decide +kernel
theorem dX4_changeSetting_27 : decode cX4_changeSetting 27 = .ok (.if_icmp .le 6, 3) := by decide +kernel
theorem dX4_changeSetting_30 : decode cX4_changeSetting 30 = .ok (.bipush (-2), 2) := by decide +kernel
theorem dX4_changeSetting_32 : decode cX4_changeSetting 32 = .ok (.ireturn, 1) := by decide +kernel
theorem dX4_changeSetting_33 : decode cX4_changeSetting 33 = .ok (.aload_n 0, 1) := by decide +kernel
theorem dX4_changeSetting_34 : decode cX4_changeSetting 34 = .ok (.getfield 24, 3) := by decide +kernel
theorem dX4_changeSetting_37 : decode cX4_changeSetting 37 = .ok (.iload_n 1, 1) := by decide +kernel
theorem dX4_changeSetting_38 : decode cX4_changeSetting 38 = .ok (.iaload, 1) := by decide +kernel
theorem dX4_changeSetting_39 : decode cX4_changeSetting 39 = .ok (.istore_n 3, 1) := by decide +kernel
theorem dX4_changeSetting_40 : decode cX4_changeSetting 40 = .ok (.aload_n 0, 1) := by decide +kernel
theorem dX4_changeSetting_41 : decode cX4_changeSetting 41 = .ok (.getfield 24, 3) := by decide +kernel
theorem dX4_changeSetting_44 : decode cX4_changeSetting 44 = .ok (.iload_n 1, 1) := by decide +kernel
theorem dX4_changeSetting_45 : decode cX4_changeSetting 45 = .ok (.iload_n 2, 1) := by decide +kernel
theorem dX4_changeSetting_46 : decode cX4_changeSetting 46 = .ok (.iastore, 1) := by decide +kernel
theorem dX4_changeSetting_47 : decode cX4_changeSetting 47 = .ok (.iload_n 3, 1) := by decide +kernel
theorem dX4_changeSetting_48 : decode cX4_changeSetting 48 = .ok (.ireturn, 1) := by decide +kernel
theorem dX4_welcome_0 : decode cX4_welcome 0 = .ok (.iload_n 1, 1) := by decide +kernel
theorem dX4_welcome_1 : decode cX4_welcome 1 = .ok (.invokestatic 63, 3) := by decide +kernel
theorem dX4_welcome_4 : decode cX4_welcome 4 = .ok (.ifCond .ne 5, 3) := by decide +kernel
theorem dX4_welcome_7 : decode cX4_welcome 7 = .ok (.iconst (-1), 1) := by decide +kernel
theorem dX4_welcome_8 : decode cX4_welcome 8 = .ok (.ireturn, 1) := by decide +kernel
theorem dX4_welcome_9 : decode cX4_welcome 9 = .ok (.iload_n 2, 1) := by decide +kernel
theorem dX4_welcome_10 : decode cX4_welcome 10 = .ok (.iconst 1, 1) := by decide +kernel
theorem dX4_welcome_11 : decode cX4_welcome 11 = .ok (.if_icmp .lt 9, 3) := by decide +kernel
theorem dX4_welcome_14 : decode cX4_welcome 14 = .ok (.iload_n 2, 1) := by decide +kernel
theorem dX4_welcome_15 : decode cX4_welcome 15 = .ok (.bipush 9, 2) := by decide +kernel
theorem dX4_welcome_17 : decode cX4_welcome 17 = .ok (.if_icmp .le 6, 3) := by decide +kernel
theorem dX4_welcome_20 : decode cX4_welcome 20 = .ok (.bipush (-2), 2) := by decide +kernel
theorem dX4_welcome_22 : decode cX4_welcome 22 = .ok (.ireturn, 1) := by decide +kernel
theorem dX4_welcome_23 : decode cX4_welcome 23 = .ok (.aload_n 0, 1) := by decide +kernel
theorem dX4_welcome_24 : decode cX4_welcome 24 = .ok (.getfield 30, 3) := by decide +kernel
theorem dX4_welcome_27 : decode cX4_welcome 27 = .ok (.iload_n 1, 1) := by decide +kernel
theorem dX4_welcome_28 : decode cX4_welcome 28 = .ok (.iload_n 2, 1) := by decide +kernel
theorem dX4_welcome_29 : decode cX4_welcome 29 = .ok (.aload_n 0, 1) := by decide +kernel
theorem dX4_welcome_30 : decode cX4_welcome 30 = .ok (.getfield 24, 3) := by decide +kernel
theorem dX4_welcome_33 : decode cX4_welcome 33 = .ok (.iconst 2, 1) := by decide +kernel
theorem dX4_welcome_34 : decode cX4_welcome 34 = .ok (.iaload, 1) := by decide +kernel
theorem dX4_welcome_35 : decode cX4_welcome 35 = .ok (.invokevirtual 67, 3) := by decide +kernel
theorem dX4_welcome_38 : decode cX4_welcome 38 = .ok (.ireturn, 1) := by decide +kernel
theorem dX4_seeOff_0 : decode cX4_seeOff 0 = .ok (.aload_n 0, 1) := by decide +kernel
theorem dX4_seeOff_1 : decode cX4_seeOff 1 = .ok (.getfield 30, 3) := by decide +kernel
theorem dX4_seeOff_4 : decode cX4_seeOff 4 = .ok (.iload_n 1, 1) := by decide +kernel
theorem dX4_seeOff_5 : decode cX4_seeOff 5 = .ok (.invokevirtual 71, 3) := by decide +kernel
theorem dX4_seeOff_8 : decode cX4_seeOff 8 = .ok (.ifCond .ne 5, 3) := by decide +kernel
theorem dX4_seeOff_11 : decode cX4_seeOff 11 = .ok (.iconst (-1), 1) := by decide +kernel
theorem dX4_seeOff_12 : decode cX4_seeOff 12 = .ok (.ireturn, 1) := by decide +kernel
theorem dX4_seeOff_13 : decode cX4_seeOff 13 = .ok (.aload_n 0, 1) := by decide +kernel
theorem dX4_seeOff_14 : decode cX4_seeOff 14 = .ok (.getfield 30, 3) := by decide +kernel
theorem dX4_seeOff_17 : decode cX4_seeOff 17 = .ok (.getfield 74, 3) := by decide +kernel
theorem dX4_seeOff_20 : decode cX4_seeOff 20 = .ok (.iload_n 1, 1) := by decide +kernel
theorem dX4_seeOff_21 : decode cX4_seeOff 21 = .ok (.iaload, 1) := by decide +kernel
theorem dX4_seeOff_22 : decode cX4_seeOff 22 = .ok (.istore_n 2, 1) := by decide +kernel
theorem dX4_seeOff_23 : decode cX4_seeOff 23 = .ok (.iload_n 2, 1) := by decide +kernel
theorem dX4_seeOff_24 : decode cX4_seeOff 24 = .ok (.bipush (-6), 2) := by decide +kernel
theorem dX4_seeOff_26 : decode cX4_seeOff 26 = .ok (.if_icmp .ne 6, 3) := by decide +kernel
theorem dX4_seeOff_29 : decode cX4_seeOff 29 = .ok (.bipush (-5), 2) := by decide +kernel
theorem dX4_seeOff_31 : decode cX4_seeOff 31 = .ok (.ireturn, 1) := by decide +kernel
theorem dX4_seeOff_32 : decode cX4_seeOff 32 = .ok (.aload_n 0, 1) := by decide +kernel
theorem dX4_seeOff_33 : decode cX4_seeOff 33 = .ok (.getfield 30, 3) := by decide +kernel
theorem dX4_seeOff_36 : decode cX4_seeOff 36 = .ok (.getfield 74, 3) := by decide +kernel
theorem dX4_seeOff_39 : decode cX4_seeOff 39 = .ok (.iload_n 1, 1) := by decide +kernel
theorem dX4_seeOff_40 : decode cX4_seeOff 40 = .ok (.bipush (-6), 2) := by decide +kernel
theorem dX4_seeOff_42 : decode cX4_seeOff 42 = .ok (.iastore, 1) := by decide +kernel
theorem dX4_seeOff_43 : decode cX4_seeOff 43 = .ok (.aload_n 0, 1) := by decide +kernel
theorem dX4_seeOff_44 : decode cX4_seeOff 44 = .ok (.iload_n 2, 1) := by decide +kernel
theorem dX4_seeOff_45 : decode cX4_seeOff 45 = .ok (.invokevirtual 77, 3) := by decide +kernel
theorem dX4_seeOff_48 : decode cX4_seeOff 48 = .ok (.aload_n 0, 1) := by decide +kernel
theorem dX4_seeOff_49 : decode cX4_seeOff 49 = .ok (.getfield 30, 3) := by decide +kernel
theorem dX4_seeOff_52 : decode cX4_seeOff 52 = .ok (.iload_n 2, 1) := by decide +kernel
theorem dX4_seeOff_53 : decode cX4_seeOff 53 = .ok (.invokevirtual 81, 3) := by decide +kernel
theorem dX4_seeOff_56 : decode cX4_seeOff 56 = .ok (.invokestatic 85, 3) := by decide +kernel
theorem dX4_seeOff_59 : decode cX4_seeOff 59 = .ok (.ireturn, 1) := by decide +kernel
theorem dX4_reseat_0 : decode cX4_reseat 0 = .ok (.aload_n 0, 1) := by decide +kernel
theorem dX4_reseat_1 : decode cX4_reseat 1 = .ok (.getfield 30, 3) := by decide +kernel
theorem dX4_reseat_4 : decode cX4_reseat 4 = .ok (.iload_n 1, 1) := by decide +kernel
theorem dX4_reseat_5 : decode cX4_reseat 5 = .ok (.invokevirtual 71, 3) := by decide +kernel
theorem dX4_reseat_8 : decode cX4_reseat 8 = .ok (.ifCond .eq 10, 3) := by decide +kernel
theorem dX4_reseat_11 : decode cX4_reseat 11 = .ok (.iload_n 2, 1) := by decide +kernel
theorem dX4_reseat_12 : decode cX4_reseat 12 = .ok (.invokestatic 63, 3) := by decide +kernel
theorem dX4_reseat_15 : decode cX4_reseat 15 = .ok (.ifCond .ne 5, 3) := by decide +kernel
theorem dX4_reseat_18 : decode cX4_reseat 18 = .ok (.iconst (-1), 1) := by decide +kernel
theorem dX4_reseat_19 : decode cX4_reseat 19 = .ok (.ireturn, 1) := by decide +kernel
theorem dX4_reseat_20 : decode cX4_reseat 20 = .ok (.aload_n 0, 1) := by decide +kernel
theorem dX4_reseat_21 : decode cX4_reseat 21 = .ok (.getfield 30, 3) := by decide +kernel
theorem dX4_reseat_24 : decode cX4_reseat 24 = .ok (.getfield 74, 3) := by decide +kernel
theorem dX4_reseat_27 : decode cX4_reseat 27 = .ok (.iload_n 1, 1) := by decide +kernel
theorem dX4_reseat_28 : decode cX4_reseat 28 = .ok (.iaload, 1) := by decide +kernel
theorem dX4_reseat_29 : decode cX4_reseat 29 = .ok (.istore_n 3, 1) := by decide +kernel
theorem dX4_reseat_30 : decode cX4_reseat 30 = .ok (.iload_n 3, 1) := by decide +kernel
theorem dX4_reseat_31 : decode cX4_reseat 31 = .ok (.bipush (-6), 2) := by decide +kernel
theorem dX4_reseat_33 : decode cX4_reseat 33 = .ok (.if_icmp .eq 8, 3) := by decide +kernel
theorem dX4_reseat_36 : decode cX4_reseat 36 = .ok (.iload_n 3, 1) := by decide +kernel
theorem dX4_reseat_37 : decode cX4_reseat 37 = .ok (.iload_n 2, 1) := by decide +kernel
theorem dX4_reseat_38 : decode cX4_reseat 38 = .ok (.if_icmp .ne 6, 3) := by decide +kernel
theorem dX4_reseat_41 : decode cX4_reseat 41 = .ok (.bipush (-5), 2) := by decide +kernel
theorem dX4_reseat_43 : decode cX4_reseat 43 = .ok (.ireturn, 1) := by decide +kernel
theorem dX4_reseat_44 : decode cX4_reseat 44 = .ok (.aload_n 0, 1) := by decide +kernel
theorem dX4_reseat_45 : decode cX4_reseat 45 = .ok (.getfield 30, 3) := by decide +kernel
theorem dX4_reseat_48 : decode cX4_reseat 48 = .ok (.getfield 74, 3) := by decide +kernel
theorem dX4_reseat_51 : decode cX4_reseat 51 = .ok (.iload_n 1, 1) := by decide +kernel
theorem dX4_reseat_52 : decode cX4_reseat 52 = .ok (.iload_n 2, 1) := by decide +kernel
theorem dX4_reseat_53 : decode cX4_reseat 53 = .ok (.iastore, 1) := by decide +kernel
theorem dX4_reseat_54 : decode cX4_reseat 54 = .ok (.aload_n 0, 1) := by decide +kernel
theorem dX4_reseat_55 : decode cX4_reseat 55 = .ok (.iload_n 3, 1) := by decide +kernel
theorem dX4_reseat_56 : decode cX4_reseat 56 = .ok (.invokevirtual 77, 3) := by decide +kernel
theorem dX4_reseat_59 : decode cX4_reseat 59 = .ok (.iload_n 3, 1) := by decide +kernel
theorem dX4_reseat_60 : decode cX4_reseat 60 = .ok (.ireturn, 1) := by decide +kernel
theorem dX4_beginPause_0 : decode cX4_beginPause 0 = .ok (.iload_n 1, 1) := by decide +kernel
theorem dX4_beginPause_1 : decode cX4_beginPause 1 = .ok (.invokestatic 63, 3) := by decide +kernel
theorem dX4_beginPause_4 : decode cX4_beginPause 4 = .ok (.ifCond .ne 5, 3) := by decide +kernel
theorem dX4_beginPause_7 : decode cX4_beginPause 7 = .ok (.iconst (-1), 1) := by decide +kernel
theorem dX4_beginPause_8 : decode cX4_beginPause 8 = .ok (.ireturn, 1) := by decide +kernel
theorem dX4_beginPause_9 : decode cX4_beginPause 9 = .ok (.aload_n 0, 1) := by decide +kernel
theorem dX4_beginPause_10 : decode cX4_beginPause 10 = .ok (.getfield 30, 3) := by decide +kernel
theorem dX4_beginPause_13 : decode cX4_beginPause 13 = .ok (.iload_n 1, 1) := by decide +kernel
theorem dX4_beginPause_14 : decode cX4_beginPause 14 = .ok (.bipush (-6), 2) := by decide +kernel
theorem dX4_beginPause_16 : decode cX4_beginPause 16 = .ok (.invokevirtual 90, 3) := by decide +kernel
theorem dX4_beginPause_19 : decode cX4_beginPause 19 = .ok (.istore_n 2, 1) := by decide +kernel
theorem dX4_beginPause_20 : decode cX4_beginPause 20 = .ok (.aload_n 0, 1) := by decide +kernel
theorem dX4_beginPause_21 : decode cX4_beginPause 21 = .ok (.getfield 41, 3) := by decide +kernel
theorem dX4_beginPause_24 : decode cX4_beginPause 24 = .ok (.iload_n 1, 1) := by decide +kernel
theorem dX4_beginPause_25 : decode cX4_beginPause 25 = .ok (.iaload, 1) := by decide +kernel
theorem dX4_beginPause_26 : decode cX4_beginPause 26 = .ok (.bipush (-6), 2) := by decide +kernel
theorem dX4_beginPause_28 : decode cX4_beginPause 28 = .ok (.if_icmp .ne 7, 3) := by decide +kernel
theorem dX4_beginPause_31 : decode cX4_beginPause 31 = .ok (.iload_n 2, 1) := by decide +kernel
theorem dX4_beginPause_32 : decode cX4_beginPause 32 = .ok (.ifCond .ne 6, 3) := by decide +kernel
theorem dX4_beginPause_35 : decode cX4_beginPause 35 = .ok (.bipush (-5), 2) := by decide +kernel
theorem dX4_beginPause_37 : decode cX4_beginPause 37 = .ok (.ireturn, 1) := by decide +kernel
theorem dX4_beginPause_38 : decode cX4_beginPause 38 = .ok (.aload_n 0, 1) := by decide +kernel
theorem dX4_beginPause_39 : decode cX4_beginPause 39 = .ok (.getfield 41, 3) := by decide +kernel
theorem dX4_beginPause_42 : decode cX4_beginPause 42 = .ok (.iload_n 1, 1) := by decide +kernel
theorem dX4_beginPause_43 : decode cX4_beginPause 43 = .ok (.iconst 0, 1) := by decide +kernel
theorem dX4_beginPause_44 : decode cX4_beginPause 44 = .ok (.iastore, 1) := by decide +kernel
theorem dX4_beginPause_45 : decode cX4_beginPause 45 = .ok (.iload_n 2, 1) := by decide +kernel
theorem dX4_beginPause_46 : decode cX4_beginPause 46 = .ok (.ireturn, 1) := by decide +kernel
theorem dX4_closePause_0 : decode cX4_closePause 0 = .ok (.iload_n 1, 1) := by decide +kernel
theorem dX4_closePause_1 : decode cX4_closePause 1 = .ok (.invokestatic 63, 3) := by decide +kernel
theorem dX4_closePause_4 : decode cX4_closePause 4 = .ok (.ifCond .ne 5, 3) := by decide +kernel
theorem dX4_closePause_7 : decode cX4_closePause 7 = .ok (.iconst (-1), 1) := by decide +kernel
theorem dX4_closePause_8 : decode cX4_closePause 8 = .ok (.ireturn, 1) := by decide +kernel
theorem dX4_closePause_9 : decode cX4_closePause 9 = .ok (.aload_n 0, 1) := by decide +kernel
theorem dX4_closePause_10 : decode cX4_closePause 10 = .ok (.getfield 41, 3) := by decide +kernel
theorem dX4_closePause_13 : decode cX4_closePause 13 = .ok (.iload_n 1, 1) := by decide +kernel
theorem dX4_closePause_14 : decode cX4_closePause 14 = .ok (.iaload, 1) := by decide +kernel
theorem dX4_closePause_15 : decode cX4_closePause 15 = .ok (.bipush (-6), 2) := by decide +kernel
theorem dX4_closePause_17 : decode cX4_closePause 17 = .ok (.if_icmp .ne 6, 3) := by decide +kernel
theorem dX4_closePause_20 : decode cX4_closePause 20 = .ok (.bipush (-5), 2) := by decide +kernel
theorem dX4_closePause_22 : decode cX4_closePause 22 = .ok (.ireturn, 1) := by decide +kernel
theorem dX4_closePause_23 : decode cX4_closePause 23 = .ok (.aload_n 0, 1) := by decide +kernel
theorem dX4_closePause_24 : decode cX4_closePause 24 = .ok (.iload_n 1, 1) := by decide +kernel
theorem dX4_closePause_25 : decode cX4_closePause 25 = .ok (.bipush (-6), 2) := by decide +kernel
theorem dX4_closePause_27 : decode cX4_closePause 27 = .ok (.invokevirtual 94, 3) := by decide +kernel
theorem dX4_closePause_30 : decode cX4_closePause 30 = .ok (.istore_n 2, 1) := by decide +kernel
theorem dX4_closePause_31 : decode cX4_closePause 31 = .ok (.aload_n 0, 1) := by decide +kernel
theorem dX4_closePause_32 : decode cX4_closePause 32 = .ok (.getfield 37, 3) := by decide +kernel
theorem dX4_closePause_35 : decode cX4_closePause 35 = .ok (.iload_n 2, 1) := by decide +kernel
theorem dX4_closePause_36 : decode cX4_closePause 36 = .ok (.aload_n 0, 1) := by decide +kernel
theorem dX4_closePause_37 : decode cX4_closePause 37 = .ok (.getfield 41, 3) := by decide +kernel
theorem dX4_closePause_40 : decode cX4_closePause 40 = .ok (.iload_n 1, 1) := by decide +kernel
theorem dX4_closePause_41 : decode cX4_closePause 41 = .ok (.iaload, 1) := by decide +kernel
theorem dX4_closePause_42 : decode cX4_closePause 42 = .ok (.invokevirtual 97, 3) := by decide +kernel
theorem dX4_closePause_45 : decode cX4_closePause 45 = .ok (.aload_n 0, 1) := by decide +kernel
theorem dX4_closePause_46 : decode cX4_closePause 46 = .ok (.iconst 0, 1) := by decide +kernel
theorem dX4_closePause_47 : decode cX4_closePause 47 = .ok (.iload_n 1, 1) := by decide +kernel
theorem dX4_closePause_48 : decode cX4_closePause 48 = .ok (.iload_n 2, 1) := by decide +kernel
theorem dX4_closePause_49 : decode cX4_closePause 49 = .ok (.bipush (-6), 2) := by decide +kernel
theorem dX4_closePause_51 : decode cX4_closePause 51 = .ok (.invokevirtual 101, 3) := by decide +kernel
theorem dX4_closePause_54 : decode cX4_closePause 54 = .ok (.iload_n 2, 1) := by decide +kernel
theorem dX4_closePause_55 : decode cX4_closePause 55 = .ok (.ireturn, 1) := by decide +kernel
theorem dX4_breakByWord_0 : decode cX4_breakByWord 0 = .ok (.aload_n 0, 1) := by decide +kernel
theorem dX4_breakByWord_1 : decode cX4_breakByWord 1 = .ok (.iload_n 1, 1) := by decide +kernel
theorem dX4_breakByWord_2 : decode cX4_breakByWord 2 = .ok (.invokevirtual 105, 3) := by decide +kernel
theorem dX4_breakByWord_5 : decode cX4_breakByWord 5 = .ok (.istore_n 2, 1) := by decide +kernel
theorem dX4_breakByWord_6 : decode cX4_breakByWord 6 = .ok (.iload_n 2, 1) := by decide +kernel
theorem dX4_breakByWord_7 : decode cX4_breakByWord 7 = .ok (.ifCond .eq 5, 3) := by decide +kernel
theorem dX4_breakByWord_10 : decode cX4_breakByWord 10 = .ok (.iload_n 2, 1) := by decide +kernel
theorem dX4_breakByWord_11 : decode cX4_breakByWord 11 = .ok (.ireturn, 1) := by decide +kernel
theorem dX4_breakByWord_12 : decode cX4_breakByWord 12 = .ok (.aload_n 0, 1) := by decide +kernel
theorem dX4_breakByWord_13 : decode cX4_breakByWord 13 = .ok (.getfield 30, 3) := by decide +kernel
theorem dX4_breakByWord_16 : decode cX4_breakByWord 16 = .ok (.getfield 74, 3) := by decide +kernel
theorem dX4_breakByWord_19 : decode cX4_breakByWord 19 = .ok (.iload_n 1, 1) := by decide +kernel
theorem dX4_breakByWord_20 : decode cX4_breakByWord 20 = .ok (.iaload, 1) := by decide +kernel
theorem dX4_breakByWord_21 : decode cX4_breakByWord 21 = .ok (.istore_n 3, 1) := by decide +kernel
theorem dX4_breakByWord_22 : decode cX4_breakByWord 22 = .ok (.aload_n 0, 1) := by decide +kernel
theorem dX4_breakByWord_23 : decode cX4_breakByWord 23 = .ok (.getfield 30, 3) := by decide +kernel
theorem dX4_breakByWord_26 : decode cX4_breakByWord 26 = .ok (.iload_n 3, 1) := by decide +kernel
theorem dX4_breakByWord_27 : decode cX4_breakByWord 27 = .ok (.invokevirtual 108, 3) := by decide +kernel
theorem dX4_breakByWord_30 : decode cX4_breakByWord 30 = .ok (.istore 4, 2) := by decide +kernel
theorem dX4_breakByWord_32 : decode cX4_breakByWord 32 = .ok (.aload_n 0, 1) := by decide +kernel
theorem dX4_breakByWord_33 : decode cX4_breakByWord 33 = .ok (.getfield 30, 3) := by decide +kernel
theorem dX4_breakByWord_36 : decode cX4_breakByWord 36 = .ok (.getfield 111, 3) := by decide +kernel
theorem dX4_breakByWord_39 : decode cX4_breakByWord 39 = .ok (.iload_n 1, 1) := by decide +kernel
theorem dX4_breakByWord_40 : decode cX4_breakByWord 40 = .ok (.dup2, 1) := by decide +kernel
theorem dX4_breakByWord_41 : decode cX4_breakByWord 41 = .ok (.iaload, 1) := by decide +kernel
theorem dX4_breakByWord_42 : decode cX4_breakByWord 42 = .ok (.aload_n 0, 1) := by decide +kernel
theorem dX4_breakByWord_43 : decode cX4_breakByWord 43 = .ok (.getfield 24, 3) := by decide +kernel
theorem dX4_breakByWord_46 : decode cX4_breakByWord 46 = .ok (.iconst 3, 1) := by decide +kernel
theorem dX4_breakByWord_47 : decode cX4_breakByWord 47 = .ok (.iaload, 1) := by decide +kernel
theorem dX4_breakByWord_48 : decode cX4_breakByWord 48 = .ok (.iadd, 1) := by decide +kernel
theorem dX4_breakByWord_49 : decode cX4_breakByWord 49 = .ok (.iastore, 1) := by decide +kernel
theorem dX4_breakByWord_50 : decode cX4_breakByWord 50 = .ok (.iload 4, 2) := by decide +kernel
theorem dX4_breakByWord_52 : decode cX4_breakByWord 52 = .ok (.bipush (-6), 2) := by decide +kernel
theorem dX4_breakByWord_54 : decode cX4_breakByWord 54 = .ok (.if_icmp .eq 23, 3) := by decide +kernel
theorem dX4_breakByWord_57 : decode cX4_breakByWord 57 = .ok (.iload 4, 2) := by decide +kernel
theorem dX4_breakByWord_59 : decode cX4_breakByWord 59 = .ok (.iload_n 1, 1) := by decide +kernel
theorem dX4_breakByWord_60 : decode cX4_breakByWord 60 = .ok (.if_icmp .eq 17, 3) := by decide +kernel
theorem dX4_breakByWord_63 : decode cX4_breakByWord 63 = .ok (.aload_n 0, 1) := by decide +kernel
theorem dX4_breakByWord_64 : decode cX4_breakByWord 64 = .ok (.getfield 30, 3) := by decide +kernel
theorem dX4_breakByWord_67 : decode cX4_breakByWord 67 = .ok (.getfield 111, 3) := by decide +kernel
theorem dX4_breakByWord_70 : decode cX4_breakByWord 70 = .ok (.iload 4, 2) := by decide +kernel
theorem dX4_breakByWord_72 : decode cX4_breakByWord 72 = .ok (.dup2, 1) := by decide +kernel
theorem dX4_breakByWord_73 : decode cX4_breakByWord 73 = .ok (.iaload, 1) := by decide +kernel
theorem dX4_breakByWord_74 : decode cX4_breakByWord 74 = .ok (.iconst 1, 1) := by decide +kernel
theorem dX4_breakByWord_75 : decode cX4_breakByWord 75 = .ok (.iadd, 1) := by decide +kernel
theorem dX4_breakByWord_76 : decode cX4_breakByWord 76 = .ok (.iastore, 1) := by decide +kernel
theorem dX4_breakByWord_77 : decode cX4_breakByWord 77 = .ok (.aload_n 0, 1) := by decide +kernel
theorem dX4_breakByWord_78 : decode cX4_breakByWord 78 = .ok (.getfield 30, 3) := by decide +kernel
theorem dX4_breakByWord_81 : decode cX4_breakByWord 81 = .ok (.getfield 114, 3) := by decide +kernel
theorem dX4_breakByWord_84 : decode cX4_breakByWord 84 = .ok (.iload_n 1, 1) := by decide +kernel
theorem dX4_breakByWord_85 : decode cX4_breakByWord 85 = .ok (.dup2, 1) := by decide +kernel
theorem dX4_breakByWord_86 : decode cX4_breakByWord 86 = .ok (.iaload, 1) := by decide +kernel
theorem dX4_breakByWord_87 : decode cX4_breakByWord 87 = .ok (.iconst 1, 1) := by decide +kernel
theorem dX4_breakByWord_88 : decode cX4_breakByWord 88 = .ok (.iadd, 1) := by decide +kernel
theorem dX4_breakByWord_89 : decode cX4_breakByWord 89 = .ok (.iastore, 1) := by decide +kernel
theorem dX4_breakByWord_90 : decode cX4_breakByWord 90 = .ok (.aload_n 0, 1) := by decide +kernel
theorem dX4_breakByWord_91 : decode cX4_breakByWord 91 = .ok (.iconst 1, 1) := by decide +kernel
theorem dX4_breakByWord_92 : decode cX4_breakByWord 92 = .ok (.iload_n 3, 1) := by decide +kernel
theorem dX4_breakByWord_93 : decode cX4_breakByWord 93 = .ok (.iconst 0, 1) := by decide +kernel
theorem dX4_breakByWord_94 : decode cX4_breakByWord 94 = .ok (.iload_n 1, 1) := by decide +kernel
theorem dX4_breakByWord_95 : decode cX4_breakByWord 95 = .ok (.invokevirtual 101, 3) := by decide +kernel
theorem dX4_breakByWord_98 : decode cX4_breakByWord 98 = .ok (.aload_n 0, 1) := by decide +kernel
theorem dX4_breakByWord_99 : decode cX4_breakByWord 99 = .ok (.getfield 30, 3) := by decide +kernel
theorem dX4_breakByWord_102 : decode cX4_breakByWord 102 = .ok (.getfield 111, 3) := by decide +kernel
theorem dX4_breakByWord_105 : decode cX4_breakByWord 105 = .ok (.iload_n 1, 1) := by decide +kernel
theorem dX4_breakByWord_106 : decode cX4_breakByWord 106 = .ok (.iaload, 1) := by decide +kernel
theorem dX4_breakByWord_107 : decode cX4_breakByWord 107 = .ok (.ireturn, 1) := by decide +kernel
theorem dX4_breakByCough_0 : decode cX4_breakByCough 0 = .ok (.aload_n 0, 1) := by decide +kernel
theorem dX4_breakByCough_1 : decode cX4_breakByCough 1 = .ok (.iload_n 1, 1) := by decide +kernel
theorem dX4_breakByCough_2 : decode cX4_breakByCough 2 = .ok (.invokevirtual 105, 3) := by decide +kernel
theorem dX4_breakByCough_5 : decode cX4_breakByCough 5 = .ok (.istore_n 2, 1) := by decide +kernel
theorem dX4_breakByCough_6 : decode cX4_breakByCough 6 = .ok (.iload_n 2, 1) := by decide +kernel
theorem dX4_breakByCough_7 : decode cX4_breakByCough 7 = .ok (.ifCond .eq 5, 3) := by decide +kernel
theorem dX4_breakByCough_10 : decode cX4_breakByCough 10 = .ok (.iload_n 2, 1) := by decide +kernel
theorem dX4_breakByCough_11 : decode cX4_breakByCough 11 = .ok (.ireturn, 1) := by decide +kernel
theorem dX4_breakByCough_12 : decode cX4_breakByCough 12 = .ok (.aload_n 0, 1) := by decide +kernel
theorem dX4_breakByCough_13 : decode cX4_breakByCough 13 = .ok (.getfield 30, 3) := by decide +kernel
theorem dX4_breakByCough_16 : decode cX4_breakByCough 16 = .ok (.getfield 74, 3) := by decide +kernel
theorem dX4_breakByCough_19 : decode cX4_breakByCough 19 = .ok (.iload_n 1, 1) := by decide +kernel
theorem dX4_breakByCough_20 : decode cX4_breakByCough 20 = .ok (.iaload, 1) := by decide +kernel
theorem dX4_breakByCough_21 : decode cX4_breakByCough 21 = .ok (.istore_n 3, 1) := by decide +kernel
theorem dX4_breakByCough_22 : decode cX4_breakByCough 22 = .ok (.aload_n 0, 1) := by decide +kernel
theorem dX4_breakByCough_23 : decode cX4_breakByCough 23 = .ok (.getfield 30, 3) := by decide +kernel
theorem dX4_breakByCough_26 : decode cX4_breakByCough 26 = .ok (.iload_n 1, 1) := by decide +kernel
theorem dX4_breakByCough_27 : decode cX4_breakByCough 27 = .ok (.iload_n 3, 1) := by decide +kernel
theorem dX4_breakByCough_28 : decode cX4_breakByCough 28 = .ok (.invokevirtual 117, 3) := by decide +kernel
theorem dX4_breakByCough_31 : decode cX4_breakByCough 31 = .ok (.istore 4, 2) := by decide +kernel
theorem dX4_breakByCough_33 : decode cX4_breakByCough 33 = .ok (.iload 4, 2) := by decide +kernel
theorem dX4_breakByCough_35 : decode cX4_breakByCough 35 = .ok (.bipush (-6), 2) := by decide +kernel
theorem dX4_breakByCough_37 : decode cX4_breakByCough 37 = .ok (.if_icmp .ne 24, 3) := by decide +kernel
theorem dX4_breakByCough_40 : decode cX4_breakByCough 40 = .ok (.aload_n 0, 1) := by decide +kernel
theorem dX4_breakByCough_41 : decode cX4_breakByCough 41 = .ok (.getfield 30, 3) := by decide +kernel
theorem dX4_breakByCough_44 : decode cX4_breakByCough 44 = .ok (.getfield 111, 3) := by decide +kernel
theorem dX4_breakByCough_47 : decode cX4_breakByCough 47 = .ok (.iload_n 1, 1) := by decide +kernel
theorem dX4_breakByCough_48 : decode cX4_breakByCough 48 = .ok (.dup2, 1) := by decide +kernel
theorem dX4_breakByCough_49 : decode cX4_breakByCough 49 = .ok (.iaload, 1) := by decide +kernel
theorem dX4_breakByCough_50 : decode cX4_breakByCough 50 = .ok (.aload_n 0, 1) := by decide +kernel
theorem dX4_breakByCough_51 : decode cX4_breakByCough 51 = .ok (.getfield 24, 3) := by decide +kernel
theorem dX4_breakByCough_54 : decode cX4_breakByCough 54 = .ok (.iconst 3, 1) := by decide +kernel
theorem dX4_breakByCough_55 : decode cX4_breakByCough 55 = .ok (.iaload, 1) := by decide +kernel
theorem dX4_breakByCough_56 : decode cX4_breakByCough 56 = .ok (.iadd, 1) := by decide +kernel
theorem dX4_breakByCough_57 : decode cX4_breakByCough 57 = .ok (.iastore, 1) := by decide +kernel
theorem dX4_breakByCough_58 : decode cX4_breakByCough 58 = .ok (.goto 31, 3) := by decide +kernel
theorem dX4_breakByCough_61 : decode cX4_breakByCough 61 = .ok (.aload_n 0, 1) := by decide +kernel
theorem dX4_breakByCough_62 : decode cX4_breakByCough 62 = .ok (.getfield 30, 3) := by decide +kernel
theorem dX4_breakByCough_65 : decode cX4_breakByCough 65 = .ok (.getfield 120, 3) := by decide +kernel
theorem dX4_breakByCough_68 : decode cX4_breakByCough 68 = .ok (.iload 4, 2) := by decide +kernel
theorem dX4_breakByCough_70 : decode cX4_breakByCough 70 = .ok (.dup2, 1) := by decide +kernel
theorem dX4_breakByCough_71 : decode cX4_breakByCough 71 = .ok (.iaload, 1) := by decide +kernel
theorem dX4_breakByCough_72 : decode cX4_breakByCough 72 = .ok (.iconst 1, 1) := by decide +kernel
theorem dX4_breakByCough_73 : decode cX4_breakByCough 73 = .ok (.isub, 1) := by decide +kernel
theorem dX4_breakByCough_74 : decode cX4_breakByCough 74 = .ok (.iastore, 1) := by decide +kernel
theorem dX4_breakByCough_75 : decode cX4_breakByCough 75 = .ok (.aload_n 0, 1) := by decide +kernel
theorem dX4_breakByCough_76 : decode cX4_breakByCough 76 = .ok (.getfield 30, 3) := by decide +kernel
theorem dX4_breakByCough_79 : decode cX4_breakByCough 79 = .ok (.getfield 123, 3) := by decide +kernel
theorem dX4_breakByCough_82 : decode cX4_breakByCough 82 = .ok (.iload 4, 2) := by decide +kernel
theorem dX4_breakByCough_84 : decode cX4_breakByCough 84 = .ok (.dup2, 1) := by decide +kernel
theorem dX4_breakByCough_85 : decode cX4_breakByCough 85 = .ok (.iaload, 1) := by decide +kernel
theorem dX4_breakByCough_86 : decode cX4_breakByCough 86 = .ok (.iconst 1, 1) := by decide +kernel
theorem dX4_breakByCough_87 : decode cX4_breakByCough 87 = .ok (.iadd, 1) := by decide +kernel
theorem dX4_breakByCough_88 : decode cX4_breakByCough 88 = .ok (.iastore, 1) := by decide +kernel
theorem dX4_breakByCough_89 : decode cX4_breakByCough 89 = .ok (.aload_n 0, 1) := by decide +kernel
theorem dX4_breakByCough_90 : decode cX4_breakByCough 90 = .ok (.getfield 30, 3) := by decide +kernel
theorem dX4_breakByCough_93 : decode cX4_breakByCough 93 = .ok (.getfield 114, 3) := by decide +kernel
theorem dX4_breakByCough_96 : decode cX4_breakByCough 96 = .ok (.iload_n 1, 1) := by decide +kernel
theorem dX4_breakByCough_97 : decode cX4_breakByCough 97 = .ok (.dup2, 1) := by decide +kernel
theorem dX4_breakByCough_98 : decode cX4_breakByCough 98 = .ok (.iaload, 1) := by decide +kernel
theorem dX4_breakByCough_99 : decode cX4_breakByCough 99 = .ok (.iconst 1, 1) := by decide +kernel
theorem dX4_breakByCough_100 : decode cX4_breakByCough 100 = .ok (.iadd, 1) := by decide +kernel
theorem dX4_breakByCough_101 : decode cX4_breakByCough 101 = .ok (.iastore, 1) := by decide +kernel
theorem dX4_breakByCough_102 : decode cX4_breakByCough 102 = .ok (.aload_n 0, 1) := by decide +kernel
theorem dX4_breakByCough_103 : decode cX4_breakByCough 103 = .ok (.iconst 2, 1) := by decide +kernel
theorem dX4_breakByCough_104 : decode cX4_breakByCough 104 = .ok (.iload_n 3, 1) := by decide +kernel
theorem dX4_breakByCough_105 : decode cX4_breakByCough 105 = .ok (.iconst 0, 1) := by decide +kernel
theorem dX4_breakByCough_106 : decode cX4_breakByCough 106 = .ok (.iload_n 1, 1) := by decide +kernel
theorem dX4_breakByCough_107 : decode cX4_breakByCough 107 = .ok (.invokevirtual 101, 3) := by decide +kernel
theorem dX4_breakByCough_110 : decode cX4_breakByCough 110 = .ok (.iload 4, 2) := by decide +kernel
theorem dX4_breakByCough_112 : decode cX4_breakByCough 112 = .ok (.ireturn, 1) := by decide +kernel
theorem dX4_letPass_0 : decode cX4_letPass 0 = .ok (.iload_n 1, 1) := by decide +kernel
theorem dX4_letPass_1 : decode cX4_letPass 1 = .ok (.iconst 1, 1) := by decide +kernel
theorem dX4_letPass_2 : decode cX4_letPass 2 = .ok (.if_icmp .lt 9, 3) := by decide +kernel
theorem dX4_letPass_5 : decode cX4_letPass 5 = .ok (.iload_n 1, 1) := by decide +kernel
theorem dX4_letPass_6 : decode cX4_letPass 6 = .ok (.bipush 99, 2) := by decide +kernel
theorem dX4_letPass_8 : decode cX4_letPass 8 = .ok (.if_icmp .le 6, 3) := by decide +kernel
theorem dX4_letPass_11 : decode cX4_letPass 11 = .ok (.bipush (-2), 2) := by decide +kernel
theorem dX4_letPass_13 : decode cX4_letPass 13 = .ok (.ireturn, 1) := by decide +kernel
theorem dX4_letPass_14 : decode cX4_letPass 14 = .ok (.aload_n 0, 1) := by decide +kernel
theorem dX4_letPass_15 : decode cX4_letPass 15 = .ok (.getfield 9, 3) := by decide +kernel
theorem dX4_letPass_18 : decode cX4_letPass 18 = .ok (.iload_n 1, 1) := by decide +kernel
theorem dX4_letPass_19 : decode cX4_letPass 19 = .ok (.iadd, 1) := by decide +kernel
theorem dX4_letPass_20 : decode cX4_letPass 20 = .ok (.sipush 9999, 3) := by decide +kernel
theorem dX4_letPass_23 : decode cX4_letPass 23 = .ok (.if_icmp .le 6, 3) := by decide +kernel
theorem dX4_letPass_26 : decode cX4_letPass 26 = .ok (.bipush (-5), 2) := by decide +kernel
theorem dX4_letPass_28 : decode cX4_letPass 28 = .ok (.ireturn, 1) := by decide +kernel
theorem dX4_letPass_29 : decode cX4_letPass 29 = .ok (.aload_n 0, 1) := by decide +kernel
theorem dX4_letPass_30 : decode cX4_letPass 30 = .ok (.dup, 1) := by decide +kernel
theorem dX4_letPass_31 : decode cX4_letPass 31 = .ok (.getfield 9, 3) := by decide +kernel
theorem dX4_letPass_34 : decode cX4_letPass 34 = .ok (.iload_n 1, 1) := by decide +kernel
theorem dX4_letPass_35 : decode cX4_letPass 35 = .ok (.iadd, 1) := by decide +kernel
theorem dX4_letPass_36 : decode cX4_letPass 36 = .ok (.putfield 9, 3) := by decide +kernel
theorem dX4_letPass_39 : decode cX4_letPass 39 = .ok (.iconst 0, 1) := by decide +kernel
theorem dX4_letPass_40 : decode cX4_letPass 40 = .ok (.istore_n 2, 1) := by decide +kernel
theorem dX4_letPass_41 : decode cX4_letPass 41 = .ok (.iconst 0, 1) := by decide +kernel
theorem dX4_letPass_42 : decode cX4_letPass 42 = .ok (.istore_n 3, 1) := by decide +kernel
theorem dX4_letPass_43 : decode cX4_letPass 43 = .ok (.iload_n 3, 1) := by decide +kernel
theorem dX4_letPass_44 : decode cX4_letPass 44 = .ok (.iconst 3, 1) := by decide +kernel
theorem dX4_letPass_45 : decode cX4_letPass 45 = .ok (.if_icmp .ge 48, 3) := by decide +kernel
theorem dX4_letPass_48 : decode cX4_letPass 48 = .ok (.aload_n 0, 1) := by decide +kernel
theorem dX4_letPass_49 : decode cX4_letPass 49 = .ok (.getfield 41, 3) := by decide +kernel
theorem dX4_letPass_52 : decode cX4_letPass 52 = .ok (.iload_n 3, 1) := by decide +kernel
theorem dX4_letPass_53 : decode cX4_letPass 53 = .ok (.iaload, 1) := by decide +kernel
theorem dX4_letPass_54 : decode cX4_letPass 54 = .ok (.bipush (-6), 2) := by decide +kernel
theorem dX4_letPass_56 : decode cX4_letPass 56 = .ok (.if_icmp .eq 31, 3) := by decide +kernel
theorem dX4_letPass_59 : decode cX4_letPass 59 = .ok (.aload_n 0, 1) := by decide +kernel
theorem dX4_letPass_60 : decode cX4_letPass 60 = .ok (.getfield 41, 3) := by decide +kernel
theorem dX4_letPass_63 : decode cX4_letPass 63 = .ok (.iload_n 3, 1) := by decide +kernel
theorem dX4_letPass_64 : decode cX4_letPass 64 = .ok (.dup2, 1) := by decide +kernel
theorem dX4_letPass_65 : decode cX4_letPass 65 = .ok (.iaload, 1) := by decide +kernel
theorem dX4_letPass_66 : decode cX4_letPass 66 = .ok (.iload_n 1, 1) := by decide +kernel
theorem dX4_letPass_67 : decode cX4_letPass 67 = .ok (.iadd, 1) := by decide +kernel
theorem dX4_letPass_68 : decode cX4_letPass 68 = .ok (.iastore, 1) := by decide +kernel
theorem dX4_letPass_69 : decode cX4_letPass 69 = .ok (.iload_n 2, 1) := by decide +kernel
theorem dX4_letPass_70 : decode cX4_letPass 70 = .ok (.aload_n 0, 1) := by decide +kernel
theorem dX4_letPass_71 : decode cX4_letPass 71 = .ok (.iload_n 3, 1) := by decide +kernel
theorem dX4_letPass_72 : decode cX4_letPass 72 = .ok (.bipush (-6), 2) := by decide +kernel
theorem dX4_letPass_74 : decode cX4_letPass 74 = .ok (.invokevirtual 94, 3) := by decide +kernel
theorem dX4_letPass_77 : decode cX4_letPass 77 = .ok (.ifCond .ne 7, 3) := by decide +kernel
theorem dX4_letPass_80 : decode cX4_letPass 80 = .ok (.iconst 0, 1) := by decide +kernel
theorem dX4_letPass_81 : decode cX4_letPass 81 = .ok (.goto 4, 3) := by decide +kernel
theorem dX4_letPass_84 : decode cX4_letPass 84 = .ok (.iconst 1, 1) := by decide +kernel
theorem dX4_letPass_85 : decode cX4_letPass 85 = .ok (.iadd, 1) := by decide +kernel
theorem dX4_letPass_86 : decode cX4_letPass 86 = .ok (.istore_n 2, 1) := by decide +kernel
theorem dX4_letPass_87 : decode cX4_letPass 87 = .ok (.iinc 3 1, 3) := by decide +kernel
theorem dX4_letPass_90 : decode cX4_letPass 90 = .ok (.goto (-47), 3) := by decide +kernel
theorem dX4_letPass_93 : decode cX4_letPass 93 = .ok (.iload_n 2, 1) := by decide +kernel
theorem dX4_letPass_94 : decode cX4_letPass 94 = .ok (.ireturn, 1) := by decide +kernel
theorem dX4_errorOfBreak_0 : decode cX4_errorOfBreak 0 = .ok (.aload_n 0, 1) := by decide +kernel
theorem dX4_errorOfBreak_1 : decode cX4_errorOfBreak 1 = .ok (.getfield 30, 3) := by decide +kernel
theorem dX4_errorOfBreak_4 : decode cX4_errorOfBreak 4 = .ok (.iload_n 1, 1) := by decide +kernel
theorem dX4_errorOfBreak_5 : decode cX4_errorOfBreak 5 = .ok (.invokevirtual 71, 3) := by decide +kernel
theorem dX4_errorOfBreak_8 : decode cX4_errorOfBreak 8 = .ok (.ifCond .ne 5, 3) := by decide +kernel
theorem dX4_errorOfBreak_11 : decode cX4_errorOfBreak 11 = .ok (.iconst (-1), 1) := by decide +kernel
theorem dX4_errorOfBreak_12 : decode cX4_errorOfBreak 12 = .ok (.ireturn, 1) := by decide +kernel
theorem dX4_errorOfBreak_13 : decode cX4_errorOfBreak 13 = .ok (.aload_n 0, 1) := by decide +kernel
theorem dX4_errorOfBreak_14 : decode cX4_errorOfBreak 14 = .ok (.getfield 30, 3) := by decide +kernel
theorem dX4_errorOfBreak_17 : decode cX4_errorOfBreak 17 = .ok (.getfield 74, 3) := by decide +kernel
theorem dX4_errorOfBreak_20 : decode cX4_errorOfBreak 20 = .ok (.iload_n 1, 1) := by decide +kernel
theorem dX4_errorOfBreak_21 : decode cX4_errorOfBreak 21 = .ok (.iaload, 1) := by decide +kernel
theorem dX4_errorOfBreak_22 : decode cX4_errorOfBreak 22 = .ok (.istore_n 2, 1) := by decide +kernel
theorem dX4_errorOfBreak_23 : decode cX4_errorOfBreak 23 = .ok (.iload_n 2, 1) := by decide +kernel
theorem dX4_errorOfBreak_24 : decode cX4_errorOfBreak 24 = .ok (.invokestatic 63, 3) := by decide +kernel
theorem dX4_errorOfBreak_27 : decode cX4_errorOfBreak 27 = .ok (.ifCond .eq 18, 3) := by decide +kernel
theorem dX4_errorOfBreak_30 : decode cX4_errorOfBreak 30 = .ok (.aload_n 0, 1) := by decide +kernel
theorem dX4_errorOfBreak_31 : decode cX4_errorOfBreak 31 = .ok (.getfield 41, 3) := by decide +kernel
theorem dX4_errorOfBreak_34 : decode cX4_errorOfBreak 34 = .ok (.iload_n 2, 1) := by decide +kernel
theorem dX4_errorOfBreak_35 : decode cX4_errorOfBreak 35 = .ok (.iaload, 1) := by decide +kernel
theorem dX4_errorOfBreak_36 : decode cX4_errorOfBreak 36 = .ok (.bipush (-6), 2) := by decide +kernel
theorem dX4_errorOfBreak_38 : decode cX4_errorOfBreak 38 = .ok (.if_icmp .eq 7, 3) := by decide +kernel
theorem dX4_errorOfBreak_41 : decode cX4_errorOfBreak 41 = .ok (.iconst 0, 1) := by decide +kernel
theorem dX4_errorOfBreak_42 : decode cX4_errorOfBreak 42 = .ok (.goto 5, 3) := by decide +kernel
theorem dX4_errorOfBreak_45 : decode cX4_errorOfBreak 45 = .ok (.bipush (-5), 2) := by decide +kernel
theorem dX4_errorOfBreak_47 : decode cX4_errorOfBreak 47 = .ok (.ireturn, 1) := by decide +kernel
theorem dX4_dropPauseOfNobody_0 : decode cX4_dropPauseOfNobody 0 = .ok (.aload_n 0, 1) := by decide +kernel
theorem dX4_dropPauseOfNobody_1 : decode cX4_dropPauseOfNobody 1 = .ok (.getfield 30, 3) := by decide +kernel
theorem dX4_dropPauseOfNobody_4 : decode cX4_dropPauseOfNobody 4 = .ok (.iload_n 1, 1) := by decide +kernel
theorem dX4_dropPauseOfNobody_5 : decode cX4_dropPauseOfNobody 5 = .ok (.invokevirtual 81, 3) := by decide +kernel
theorem dX4_dropPauseOfNobody_8 : decode cX4_dropPauseOfNobody 8 = .ok (.ifCond .ne 11, 3) := by decide +kernel
theorem dX4_dropPauseOfNobody_11 : decode cX4_dropPauseOfNobody 11 = .ok (.aload_n 0, 1) := by decide +kernel
theorem dX4_dropPauseOfNobody_12 : decode cX4_dropPauseOfNobody 12 = .ok (.getfield 41, 3) := by decide +kernel
theorem dX4_dropPauseOfNobody_15 : decode cX4_dropPauseOfNobody 15 = .ok (.iload_n 1, 1) := by decide +kernel
theorem dX4_dropPauseOfNobody_16 : decode cX4_dropPauseOfNobody 16 = .ok (.bipush (-6), 2) := by decide +kernel
theorem dX4_dropPauseOfNobody_18 : decode cX4_dropPauseOfNobody 18 = .ok (.iastore, 1) := by decide +kernel
theorem dX4_dropPauseOfNobody_19 : decode cX4_dropPauseOfNobody 19 = .ok (.return_, 1) := by decide +kernel
theorem dX4_endPause_0 : decode cX4_endPause 0 = .ok (.aload_n 0, 1) := by decide +kernel
theorem dX4_endPause_1 : decode cX4_endPause 1 = .ok (.getfield 37, 3) := by decide +kernel
theorem dX4_endPause_4 : decode cX4_endPause 4 = .ok (.iload_n 1, 1) := by decide +kernel
theorem dX4_endPause_5 : decode cX4_endPause 5 = .ok (.iload_n 2, 1) := by decide +kernel
theorem dX4_endPause_6 : decode cX4_endPause 6 = .ok (.aload_n 0, 1) := by decide +kernel
theorem dX4_endPause_7 : decode cX4_endPause 7 = .ok (.getfield 41, 3) := by decide +kernel
theorem dX4_endPause_10 : decode cX4_endPause 10 = .ok (.iload_n 2, 1) := by decide +kernel
theorem dX4_endPause_11 : decode cX4_endPause 11 = .ok (.iaload, 1) := by decide +kernel
theorem dX4_endPause_12 : decode cX4_endPause 12 = .ok (.iload_n 3, 1) := by decide +kernel
theorem dX4_endPause_13 : decode cX4_endPause 13 = .ok (.iload 4, 2) := by decide +kernel
theorem dX4_endPause_15 : decode cX4_endPause 15 = .ok (.invokevirtual 126, 3) := by decide +kernel
theorem dX4_endPause_18 : decode cX4_endPause 18 = .ok (.aload_n 0, 1) := by decide +kernel
theorem dX4_endPause_19 : decode cX4_endPause 19 = .ok (.getfield 44, 3) := by decide +kernel
theorem dX4_endPause_22 : decode cX4_endPause 22 = .ok (.iload_n 2, 1) := by decide +kernel
theorem dX4_endPause_23 : decode cX4_endPause 23 = .ok (.dup2, 1) := by decide +kernel
theorem dX4_endPause_24 : decode cX4_endPause 24 = .ok (.iaload, 1) := by decide +kernel
theorem dX4_endPause_25 : decode cX4_endPause 25 = .ok (.iconst 1, 1) := by decide +kernel
theorem dX4_endPause_26 : decode cX4_endPause 26 = .ok (.iadd, 1) := by decide +kernel
theorem dX4_endPause_27 : decode cX4_endPause 27 = .ok (.iastore, 1) := by decide +kernel
theorem dX4_endPause_28 : decode cX4_endPause 28 = .ok (.aload_n 0, 1) := by decide +kernel
theorem dX4_endPause_29 : decode cX4_endPause 29 = .ok (.getfield 41, 3) := by decide +kernel
theorem dX4_endPause_32 : decode cX4_endPause 32 = .ok (.iload_n 2, 1) := by decide +kernel
theorem dX4_endPause_33 : decode cX4_endPause 33 = .ok (.bipush (-6), 2) := by decide +kernel
theorem dX4_endPause_35 : decode cX4_endPause 35 = .ok (.iastore, 1) := by decide +kernel
theorem dX4_endPause_36 : decode cX4_endPause 36 = .ok (.return_, 1) := by decide +kernel
theorem dX4_pausesThatGoOn_0 : decode cX4_pausesThatGoOn 0 = .ok (.iconst 0, 1) := by decide +kernel
theorem dX4_pausesThatGoOn_1 : decode cX4_pausesThatGoOn 1 = .ok (.istore_n 1, 1) := by decide +kernel
theorem dX4_pausesThatGoOn_2 : decode cX4_pausesThatGoOn 2 = .ok (.iconst 0, 1) := by decide +kernel
theorem dX4_pausesThatGoOn_3 : decode cX4_pausesThatGoOn 3 = .ok (.istore_n 2, 1) := by decide +kernel
theorem dX4_pausesThatGoOn_4 : decode cX4_pausesThatGoOn 4 = .ok (.iload_n 2, 1) := by decide +kernel
theorem dX4_pausesThatGoOn_5 : decode cX4_pausesThatGoOn 5 = .ok (.iconst 3, 1) := by decide +kernel
theorem dX4_pausesThatGoOn_6 : decode cX4_pausesThatGoOn 6 = .ok (.if_icmp .ge 28, 3) := by decide +kernel
theorem dX4_pausesThatGoOn_9 : decode cX4_pausesThatGoOn 9 = .ok (.iload_n 1, 1) := by decide +kernel
theorem dX4_pausesThatGoOn_10 : decode cX4_pausesThatGoOn 10 = .ok (.aload_n 0, 1) := by decide +kernel
theorem dX4_pausesThatGoOn_11 : decode cX4_pausesThatGoOn 11 = .ok (.getfield 41, 3) := by decide +kernel
theorem dX4_pausesThatGoOn_14 : decode cX4_pausesThatGoOn 14 = .ok (.iload_n 2, 1) := by decide +kernel
theorem dX4_pausesThatGoOn_15 : decode cX4_pausesThatGoOn 15 = .ok (.iaload, 1) := by decide +kernel
theorem dX4_pausesThatGoOn_16 : decode cX4_pausesThatGoOn 16 = .ok (.bipush (-6), 2) := by decide +kernel
theorem dX4_pausesThatGoOn_18 : decode cX4_pausesThatGoOn 18 = .ok (.if_icmp .ne 7, 3) := by decide +kernel
theorem dX4_pausesThatGoOn_21 : decode cX4_pausesThatGoOn 21 = .ok (.iconst 0, 1) := by decide +kernel
theorem dX4_pausesThatGoOn_22 : decode cX4_pausesThatGoOn 22 = .ok (.goto 4, 3) := by decide +kernel
theorem dX4_pausesThatGoOn_25 : decode cX4_pausesThatGoOn 25 = .ok (.iconst 1, 1) := by decide +kernel
theorem dX4_pausesThatGoOn_26 : decode cX4_pausesThatGoOn 26 = .ok (.iadd, 1) := by decide +kernel
theorem dX4_pausesThatGoOn_27 : decode cX4_pausesThatGoOn 27 = .ok (.istore_n 1, 1) := by decide +kernel
theorem dX4_pausesThatGoOn_28 : decode cX4_pausesThatGoOn 28 = .ok (.iinc 2 1, 3) := by decide +kernel
theorem dX4_pausesThatGoOn_31 : decode cX4_pausesThatGoOn 31 = .ok (.goto (-27), 3) := by decide +kernel
theorem dX4_pausesThatGoOn_34 : decode cX4_pausesThatGoOn 34 = .ok (.iload_n 1, 1) := by decide +kernel
theorem dX4_pausesThatGoOn_35 : decode cX4_pausesThatGoOn 35 = .ok (.ireturn, 1) := by decide +kernel
theorem dX4_meaningNow_0 : decode cX4_meaningNow 0 = .ok (.aload_n 0, 1) := by decide +kernel
theorem dX4_meaningNow_1 : decode cX4_meaningNow 1 = .ok (.aload_n 0, 1) := by decide +kernel
theorem dX4_meaningNow_2 : decode cX4_meaningNow 2 = .ok (.getfield 30, 3) := by decide +kernel
theorem dX4_meaningNow_5 : decode cX4_meaningNow 5 = .ok (.iload_n 1, 1) := by decide +kernel
theorem dX4_meaningNow_6 : decode cX4_meaningNow 6 = .ok (.iload_n 2, 1) := by decide +kernel
theorem dX4_meaningNow_7 : decode cX4_meaningNow 7 = .ok (.invokevirtual 90, 3) := by decide +kernel
theorem dX4_meaningNow_10 : decode cX4_meaningNow 10 = .ok (.aload_n 0, 1) := by decide +kernel
theorem dX4_meaningNow_11 : decode cX4_meaningNow 11 = .ok (.getfield 41, 3) := by decide +kernel
theorem dX4_meaningNow_14 : decode cX4_meaningNow 14 = .ok (.iload_n 1, 1) := by decide +kernel
theorem dX4_meaningNow_15 : decode cX4_meaningNow 15 = .ok (.iaload, 1) := by decide +kernel
theorem dX4_meaningNow_16 : decode cX4_meaningNow 16 = .ok (.invokevirtual 130, 3) := by decide +kernel
theorem dX4_meaningNow_19 : decode cX4_meaningNow 19 = .ok (.ireturn, 1) := by decide +kernel
theorem dX4_meaningFor_0 : decode cX4_meaningFor 0 = .ok (.iload_n 2, 1) := by decide +kernel
theorem dX4_meaningFor_1 : decode cX4_meaningFor 1 = .ok (.aload_n 0, 1) := by decide +kernel
theorem dX4_meaningFor_2 : decode cX4_meaningFor 2 = .ok (.getfield 24, 3) := by decide +kernel
theorem dX4_meaningFor_5 : decode cX4_meaningFor 5 = .ok (.iconst 0, 1) := by decide +kernel
theorem dX4_meaningFor_6 : decode cX4_meaningFor 6 = .ok (.iaload, 1) := by decide +kernel
theorem dX4_meaningFor_7 : decode cX4_meaningFor 7 = .ok (.if_icmp .ge 5, 3) := by decide +kernel
theorem dX4_meaningFor_10 : decode cX4_meaningFor 10 = .ok (.iconst 0, 1) := by decide +kernel
theorem dX4_meaningFor_11 : decode cX4_meaningFor 11 = .ok (.ireturn, 1) := by decide +kernel
theorem dX4_meaningFor_12 : decode cX4_meaningFor 12 = .ok (.iconst 0, 1) := by decide +kernel
theorem dX4_meaningFor_13 : decode cX4_meaningFor 13 = .ok (.istore_n 3, 1) := by decide +kernel
theorem dX4_meaningFor_14 : decode cX4_meaningFor 14 = .ok (.iconst 1, 1) := by decide +kernel
theorem dX4_meaningFor_15 : decode cX4_meaningFor 15 = .ok (.istore 4, 2) := by decide +kernel
theorem dX4_meaningFor_17 : decode cX4_meaningFor 17 = .ok (.iload 4, 2) := by decide +kernel
theorem dX4_meaningFor_19 : decode cX4_meaningFor 19 = .ok (.iconst 4, 1) := by decide +kernel
theorem dX4_meaningFor_20 : decode cX4_meaningFor 20 = .ok (.if_icmp .ge 22, 3) := by decide +kernel
theorem dX4_meaningFor_23 : decode cX4_meaningFor 23 = .ok (.iload_n 2, 1) := by decide +kernel
theorem dX4_meaningFor_24 : decode cX4_meaningFor 24 = .ok (.aload_n 0, 1) := by decide +kernel
theorem dX4_meaningFor_25 : decode cX4_meaningFor 25 = .ok (.iload 4, 2) := by decide +kernel
theorem dX4_meaningFor_27 : decode cX4_meaningFor 27 = .ok (.invokevirtual 133, 3) := by decide +kernel
theorem dX4_meaningFor_30 : decode cX4_meaningFor 30 = .ok (.if_icmp .lt 6, 3) := by decide +kernel
theorem dX4_meaningFor_33 : decode cX4_meaningFor 33 = .ok (.iload 4, 2) := by decide +kernel
theorem dX4_meaningFor_35 : decode cX4_meaningFor 35 = .ok (.istore_n 3, 1) := by decide +kernel
theorem dX4_meaningFor_36 : decode cX4_meaningFor 36 = .ok (.iinc 4 1, 3) := by decide +kernel
theorem dX4_meaningFor_39 : decode cX4_meaningFor 39 = .ok (.goto (-22), 3) := by decide +kernel
theorem dX4_meaningFor_42 : decode cX4_meaningFor 42 = .ok (.getstatic 136, 3) := by decide +kernel
theorem dX4_meaningFor_45 : decode cX4_meaningFor 45 = .ok (.iload_n 1, 1) := by decide +kernel
theorem dX4_meaningFor_46 : decode cX4_meaningFor 46 = .ok (.iconst 4, 1) := by decide +kernel
theorem dX4_meaningFor_47 : decode cX4_meaningFor 47 = .ok (.imul, 1) := by decide +kernel
theorem dX4_meaningFor_48 : decode cX4_meaningFor 48 = .ok (.iload_n 3, 1) := by decide +kernel
theorem dX4_meaningFor_49 : decode cX4_meaningFor 49 = .ok (.iadd, 1) := by decide +kernel
theorem dX4_meaningFor_50 : decode cX4_meaningFor 50 = .ok (.iaload, 1) := by decide +kernel
theorem dX4_meaningFor_51 : decode cX4_meaningFor 51 = .ok (.ireturn, 1) := by decide +kernel
theorem dX4_secondsToTurn_0 : decode cX4_secondsToTurn 0 = .ok (.aload_n 0, 1) := by decide +kernel
theorem dX4_secondsToTurn_1 : decode cX4_secondsToTurn 1 = .ok (.getfield 30, 3) := by decide +kernel
theorem dX4_secondsToTurn_4 : decode cX4_secondsToTurn 4 = .ok (.iload_n 1, 1) := by decide +kernel
theorem dX4_secondsToTurn_5 : decode cX4_secondsToTurn 5 = .ok (.bipush (-6), 2) := by decide +kernel
theorem dX4_secondsToTurn_7 : decode cX4_secondsToTurn 7 = .ok (.invokevirtual 90, 3) := by decide +kernel
theorem dX4_secondsToTurn_10 : decode cX4_secondsToTurn 10 = .ok (.istore_n 2, 1) := by decide +kernel
theorem dX4_secondsToTurn_11 : decode cX4_secondsToTurn 11 = .ok (.aload_n 0, 1) := by decide +kernel
theorem dX4_secondsToTurn_12 : decode cX4_secondsToTurn 12 = .ok (.getfield 41, 3) := by decide +kernel
theorem dX4_secondsToTurn_15 : decode cX4_secondsToTurn 15 = .ok (.iload_n 1, 1) := by decide +kernel
theorem dX4_secondsToTurn_16 : decode cX4_secondsToTurn 16 = .ok (.iaload, 1) := by decide +kernel
theorem dX4_secondsToTurn_17 : decode cX4_secondsToTurn 17 = .ok (.istore_n 3, 1) := by decide +kernel
theorem dX4_secondsToTurn_18 : decode cX4_secondsToTurn 18 = .ok (.aload_n 0, 1) := by decide +kernel
theorem dX4_secondsToTurn_19 : decode cX4_secondsToTurn 19 = .ok (.iload_n 2, 1) := by decide +kernel
theorem dX4_secondsToTurn_20 : decode cX4_secondsToTurn 20 = .ok (.iload_n 3, 1) := by decide +kernel
theorem dX4_secondsToTurn_21 : decode cX4_secondsToTurn 21 = .ok (.invokevirtual 130, 3) := by decide +kernel
theorem dX4_secondsToTurn_24 : decode cX4_secondsToTurn 24 = .ok (.istore 4, 2) := by decide +kernel
theorem dX4_secondsToTurn_26 : decode cX4_secondsToTurn 26 = .ok (.iconst 0, 1) := by decide +kernel
theorem dX4_secondsToTurn_27 : decode cX4_secondsToTurn 27 = .ok (.istore 5, 2) := by decide +kernel
theorem dX4_secondsToTurn_29 : decode cX4_secondsToTurn 29 = .ok (.iload 5, 2) := by decide +kernel
theorem dX4_secondsToTurn_31 : decode cX4_secondsToTurn 31 = .ok (.iconst 4, 1) := by decide +kernel
theorem dX4_secondsToTurn_32 : decode cX4_secondsToTurn 32 = .ok (.if_icmp .ge 40, 3) := by decide +kernel
theorem dX4_secondsToTurn_35 : decode cX4_secondsToTurn 35 = .ok (.aload_n 0, 1) := by decide +kernel
theorem dX4_secondsToTurn_36 : decode cX4_secondsToTurn 36 = .ok (.iload 5, 2) := by decide +kernel
theorem dX4_secondsToTurn_38 : decode cX4_secondsToTurn 38 = .ok (.invokevirtual 133, 3) := by decide +kernel
theorem dX4_secondsToTurn_41 : decode cX4_secondsToTurn 41 = .ok (.istore 6, 2) := by decide +kernel
theorem dX4_secondsToTurn_43 : decode cX4_secondsToTurn 43 = .ok (.iload 6, 2) := by decide +kernel
theorem dX4_secondsToTurn_45 : decode cX4_secondsToTurn 45 = .ok (.iload_n 3, 1) := by decide +kernel
theorem dX4_secondsToTurn_46 : decode cX4_secondsToTurn 46 = .ok (.if_icmp .le 20, 3) := by decide +kernel
theorem dX4_secondsToTurn_49 : decode cX4_secondsToTurn 49 = .ok (.aload_n 0, 1) := by decide +kernel
theorem dX4_secondsToTurn_50 : decode cX4_secondsToTurn 50 = .ok (.iload_n 2, 1) := by decide +kernel
theorem dX4_secondsToTurn_51 : decode cX4_secondsToTurn 51 = .ok (.iload 6, 2) := by decide +kernel
theorem dX4_secondsToTurn_53 : decode cX4_secondsToTurn 53 = .ok (.invokevirtual 130, 3) := by decide +kernel
theorem dX4_secondsToTurn_56 : decode cX4_secondsToTurn 56 = .ok (.iload 4, 2) := by decide +kernel
theorem dX4_secondsToTurn_58 : decode cX4_secondsToTurn 58 = .ok (.if_icmp .eq 8, 3) := by decide +kernel
theorem dX4_secondsToTurn_61 : decode cX4_secondsToTurn 61 = .ok (.iload 6, 2) := by decide +kernel
theorem dX4_secondsToTurn_63 : decode cX4_secondsToTurn 63 = .ok (.iload_n 3, 1) := by decide +kernel
theorem dX4_secondsToTurn_64 : decode cX4_secondsToTurn 64 = .ok (.isub, 1) := by decide +kernel
theorem dX4_secondsToTurn_65 : decode cX4_secondsToTurn 65 = .ok (.ireturn, 1) := by decide +kernel
theorem dX4_secondsToTurn_66 : decode cX4_secondsToTurn 66 = .ok (.iinc 5 1, 3) := by decide +kernel
theorem dX4_secondsToTurn_69 : decode cX4_secondsToTurn 69 = .ok (.goto (-40), 3) := by decide +kernel
theorem dX4_secondsToTurn_72 : decode cX4_secondsToTurn 72 = .ok (.bipush (-6), 2) := by decide +kernel
theorem dX4_secondsToTurn_74 : decode cX4_secondsToTurn 74 = .ok (.ireturn, 1) := by decide +kernel
theorem dX4_beginOfShade_0 : decode cX4_beginOfShade 0 = .ok (.aload_n 0, 1) := by decide +kernel
theorem dX4_beginOfShade_1 : decode cX4_beginOfShade 1 = .ok (.getfield 24, 3) := by decide +kernel
theorem dX4_beginOfShade_4 : decode cX4_beginOfShade 4 = .ok (.iconst 0, 1) := by decide +kernel
theorem dX4_beginOfShade_5 : decode cX4_beginOfShade 5 = .ok (.iaload, 1) := by decide +kernel
theorem dX4_beginOfShade_6 : decode cX4_beginOfShade 6 = .ok (.iload_n 1, 1) := by decide +kernel
theorem dX4_beginOfShade_7 : decode cX4_beginOfShade 7 = .ok (.aload_n 0, 1) := by decide +kernel
theorem dX4_beginOfShade_8 : decode cX4_beginOfShade 8 = .ok (.getfield 24, 3) := by decide +kernel
theorem dX4_beginOfShade_11 : decode cX4_beginOfShade 11 = .ok (.iconst 1, 1) := by decide +kernel
theorem dX4_beginOfShade_12 : decode cX4_beginOfShade 12 = .ok (.iaload, 1) := by decide +kernel
theorem dX4_beginOfShade_13 : decode cX4_beginOfShade 13 = .ok (.imul, 1) := by decide +kernel
theorem dX4_beginOfShade_14 : decode cX4_beginOfShade 14 = .ok (.iadd, 1) := by decide +kernel
theorem dX4_beginOfShade_15 : decode cX4_beginOfShade 15 = .ok (.ireturn, 1) := by decide +kernel
end
section
theorem dX5_init_0 : decode cX5_init 0 = .ok (.aload_n 0, 1) := by decide +kernel
theorem dX5_init_1 : decode cX5_init 1 = .ok (.invokespecial 3, 3) := by decide +kernel
theorem dX5_init_4 : decode cX5_init 4 = .ok (.aload_n 0, 1) := by decide +kernel
theorem dX5_init_5 : decode cX5_init 5 = .ok (.iconst 2, 1) := by decide +kernel
theorem dX5_init_6 : decode cX5_init 6 = .ok (.anewarray 9, 3) := by decide +kernel
theorem dX5_init_9 : decode cX5_init 9 = .ok (.dup, 1) := by decide +kernel
theorem dX5_init_10 : decode cX5_init 10 = .ok (.iconst 0, 1) := by decide +kernel
theorem dX5_init_11 : decode cX5_init 11 = .ok (.new 9, 3) := by decide +kernel
theorem dX5_init_14 : decode cX5_init 14 = .ok (.dup, 1) := by decide +kernel
theorem dX5_init_15 : decode cX5_init 15 = .ok (.invokespecial 11, 3) := by decide +kernel
theorem dX5_init_18 : decode cX5_init 18 = .ok (.aastore, 1) := by decide +kernel
theorem dX5_init_19 : decode cX5_init 19 = .ok (.dup, 1) := by decide +kernel
theorem dX5_init_20 : decode cX5_init 20 = .ok (.iconst 1, 1) := by decide +kernel
theorem dX5_init_21 : decode cX5_init 21 = .ok (.new 9, 3) := by decide +kernel
theorem dX5_init_24 : decode cX5_init 24 = .ok (.dup, 1) := by decide +kernel
theorem dX5_init_25 : decode cX5_init 25 = .ok (.invokespecial 11, 3) := by decide +kernel
theorem dX5_init_28 : decode cX5_init 28 = .ok (.aastore, 1) := by decide +kernel
theorem dX5_init_29 : decode cX5_init 29 = .ok (.putfield 12, 3) := by decide +kernel
theorem dX5_init_32 : decode cX5_init 32 = .ok (.aload_n 0, 1) := by decide +kernel
theorem dX5_init_33 : decode cX5_init 33 = .ok (.iconst 2, 1) := by decide +kernel
theorem dX5_init_34 : decode cX5_init 34 = .ok (.newarray .boolean, 2) := by decide +kernel
theorem dX5_init_36 : decode cX5_init 36 = .ok (.putfield 18, 3) := by decide +kernel
theorem dX5_init_39 : decode cX5_init 39 = .ok (.return_, 1) := by decide +kernel
theorem dX5_keep_0 : decode cX5_keep 0 = .ok (.iload_n 1, 1) := by decide +kernel
theorem dX5_keep_1 : decode cX5_keep 1 = .ok (.ifCond .lt 8, 3) := by decide +kernel
theorem dX5_keep_4 : decode cX5_keep 4 = .ok (.iload_n 1, 1) := by decide +kernel
theorem dX5_keep_5 : decode cX5_keep 5 = .ok (.iconst 2, 1) := by decide +kernel
theorem dX5_keep_6 : decode cX5_keep 6 = .ok (.if_icmp .lt 6, 3) := by decide +kernel
theorem dX5_keep_9 : decode cX5_keep 9 = .ok (.bipush (-2), 2) := by decide +kernel
theorem dX5_keep_11 : decode cX5_keep 11 = .ok (.ireturn, 1) := by decide +kernel
theorem dX5_keep_12 : decode cX5_keep 12 = .ok (.aload_n 0, 1) := by decide +kernel
theorem dX5_keep_13 : decode cX5_keep 13 = .ok (.getfield 12, 3) := by decide +kernel
theorem dX5_keep_16 : decode cX5_keep 16 = .ok (.iload_n 1, 1) := by decide +kernel
theorem dX5_keep_17 : decode cX5_keep 17 = .ok (.aaload, 1) := by decide +kernel
theorem dX5_keep_18 : decode cX5_keep 18 = .ok (.aload_n 2, 1) := by decide +kernel
theorem dX5_keep_19 : decode cX5_keep 19 = .ok (.invokevirtual 22, 3) := by decide +kernel
theorem dX5_keep_22 : decode cX5_keep 22 = .ok (.aload_n 0, 1) := by decide +kernel
theorem dX5_keep_23 : decode cX5_keep 23 = .ok (.getfield 18, 3) := by decide +kernel
theorem dX5_keep_26 : decode cX5_keep 26 = .ok (.iload_n 1, 1) := by decide +kernel
theorem dX5_keep_27 : decode cX5_keep 27 = .ok (.iconst 1, 1) := by decide +kernel
theorem dX5_keep_28 : decode cX5_keep 28 = .ok (.bastore, 1) := by decide +kernel
theorem dX5_keep_29 : decode cX5_keep 29 = .ok (.aload_n 2, 1) := by decide +kernel
theorem dX5_keep_30 : decode cX5_keep 30 = .ok (.getfield 26, 3) := by decide +kernel
theorem dX5_keep_33 : decode cX5_keep 33 = .ok (.getfield 30, 3) := by decide +kernel
theorem dX5_keep_36 : decode cX5_keep 36 = .ok (.ireturn, 1) := by decide +kernel
theorem dX5_giveBack_0 : decode cX5_giveBack 0 = .ok (.iload_n 1, 1) := by decide +kernel
theorem dX5_giveBack_1 : decode cX5_giveBack 1 = .ok (.ifCond .lt 8, 3) := by decide +kernel
theorem dX5_giveBack_4 : decode cX5_giveBack 4 = .ok (.iload_n 1, 1) := by decide +kernel
theorem dX5_giveBack_5 : decode cX5_giveBack 5 = .ok (.iconst 2, 1) := by decide +kernel
theorem dX5_giveBack_6 : decode cX5_giveBack 6 = .ok (.if_icmp .lt 6, 3) := by decide +kernel
theorem dX5_giveBack_9 : decode cX5_giveBack 9 = .ok (.bipush (-2), 2) := by decide +kernel
theorem dX5_giveBack_11 : decode cX5_giveBack 11 = .ok (.ireturn, 1) := by decide +kernel
theorem dX5_giveBack_12 : decode cX5_giveBack 12 = .ok (.aload_n 0, 1) := by decide +kernel
theorem dX5_giveBack_13 : decode cX5_giveBack 13 = .ok (.getfield 18, 3) := by decide +kernel
theorem dX5_giveBack_16 : decode cX5_giveBack 16 = .ok (.iload_n 1, 1) := by decide +kernel
theorem dX5_giveBack_17 : decode cX5_giveBack 17 = .ok (.baload, 1) := by decide +kernel
theorem dX5_giveBack_18 : decode cX5_giveBack 18 = .ok (.ifCond .ne 6, 3) := by decide +kernel
theorem dX5_giveBack_21 : decode cX5_giveBack 21 = .ok (.bipush (-5), 2) := by decide +kernel
theorem dX5_giveBack_23 : decode cX5_giveBack 23 = .ok (.ireturn, 1) := by decide +kernel
theorem dX5_giveBack_24 : decode cX5_giveBack 24 = .ok (.aload_n 2, 1) := by decide +kernel
theorem dX5_giveBack_25 : decode cX5_giveBack 25 = .ok (.aload_n 0, 1) := by decide +kernel
theorem dX5_giveBack_26 : decode cX5_giveBack 26 = .ok (.getfield 12, 3) := by decide +kernel
theorem dX5_giveBack_29 : decode cX5_giveBack 29 = .ok (.iload_n 1, 1) := by decide +kernel
theorem dX5_giveBack_30 : decode cX5_giveBack 30 = .ok (.aaload, 1) := by decide +kernel
theorem dX5_giveBack_31 : decode cX5_giveBack 31 = .ok (.invokevirtual 22, 3) := by decide +kernel
theorem dX5_giveBack_34 : decode cX5_giveBack 34 = .ok (.aload_n 2, 1) := by decide +kernel
theorem dX5_giveBack_35 : decode cX5_giveBack 35 = .ok (.getfield 26, 3) := by decide +kernel
theorem dX5_giveBack_38 : decode cX5_giveBack 38 = .ok (.getfield 30, 3) := by decide +kernel
theorem dX5_giveBack_41 : decode cX5_giveBack 41 = .ok (.ireturn, 1) := by decide +kernel
end
section
theorem dX6_init_0 : decode cX6_init 0 = .ok (.aload_n 0, 1) := by decide +kernel
theorem dX6_init_1 : decode cX6_init 1 = .ok (.invokespecial 1, 3) := by decide +kernel
theorem dX6_init_4 : decode cX6_init 4 = .ok (.aload_n 0, 1) := by decide +kernel
theorem dX6_init_5 : decode cX6_init 5 = .ok (.new 7, 3) := by decide +kernel
theorem dX6_init_8 : decode cX6_init 8 = .ok (.dup, 1) := by decide +kernel
theorem dX6_init_9 : decode cX6_init 9 = .ok (.invokespecial 9, 3) := by decide +kernel
theorem dX6_init_12 : decode cX6_init 12 = .ok (.putfield 10, 3) := by decide +kernel
theorem dX6_init_15 : decode cX6_init 15 = .ok (.aload_n 0, 1) := by decide +kernel
theorem dX6_init_16 : decode cX6_init 16 = .ok (.new 16, 3) := by decide +kernel
theorem dX6_init_19 : decode cX6_init 19 = .ok (.dup, 1) := by decide +kernel
theorem dX6_init_20 : decode cX6_init 20 = .ok (.invokespecial 18, 3) := by decide +kernel
theorem dX6_init_23 : decode cX6_init 23 = .ok (.putfield 19, 3) := by decide +kernel
theorem dX6_init_26 : decode cX6_init 26 = .ok (.aload_n 0, 1) := by decide +kernel
theorem dX6_init_27 : decode cX6_init 27 = .ok (.new 23, 3) := by decide +kernel
theorem dX6_init_30 : decode cX6_init 30 = .ok (.dup, 1) := by decide +kernel
theorem dX6_init_31 : decode cX6_init 31 = .ok (.invokespecial 25, 3) := by decide +kernel
theorem dX6_init_34 : decode cX6_init 34 = .ok (.putfield 26, 3) := by decide +kernel
theorem dX6_init_37 : decode cX6_init 37 = .ok (.aload_n 0, 1) := by decide +kernel
theorem dX6_init_38 : decode cX6_init 38 = .ok (.new 30, 3) := by decide +kernel
theorem dX6_init_41 : decode cX6_init 41 = .ok (.dup, 1) := by decide +kernel
theorem dX6_init_42 : decode cX6_init 42 = .ok (.invokespecial 32, 3) := by decide +kernel
theorem dX6_init_45 : decode cX6_init 45 = .ok (.putfield 33, 3) := by decide +kernel
theorem dX6_init_48 : decode cX6_init 48 = .ok (.return_, 1) := by decide +kernel
theorem dX6_set_0 : decode cX6_set 0 = .ok (.aload_n 0, 1) := by decide +kernel
theorem dX6_set_1 : decode cX6_set 1 = .ok (.getfield 19, 3) := by decide +kernel
theorem dX6_set_4 : decode cX6_set 4 = .ok (.aload_n 0, 1) := by decide +kernel
theorem dX6_set_5 : decode cX6_set 5 = .ok (.getfield 10, 3) := by decide +kernel
theorem dX6_set_8 : decode cX6_set 8 = .ok (.invokevirtual 37, 3) := by decide +kernel
theorem dX6_set_11 : decode cX6_set 11 = .ok (.aload_n 0, 1) := by decide +kernel
theorem dX6_set_12 : decode cX6_set 12 = .ok (.aload_n 0, 1) := by decide +kernel
theorem dX6_set_13 : decode cX6_set 13 = .ok (.getfield 10, 3) := by decide +kernel
theorem dX6_set_16 : decode cX6_set 16 = .ok (.iload_n 1, 1) := by decide +kernel
theorem dX6_set_17 : decode cX6_set 17 = .ok (.iload_n 2, 1) := by decide +kernel
theorem dX6_set_18 : decode cX6_set 18 = .ok (.invokevirtual 41, 3) := by decide +kernel
theorem dX6_set_21 : decode cX6_set 21 = .ok (.invokevirtual 45, 3) := by decide +kernel
theorem dX6_set_24 : decode cX6_set 24 = .ok (.ireturn, 1) := by decide +kernel
theorem dX6_guest_0 : decode cX6_guest 0 = .ok (.aload_n 0, 1) := by decide +kernel
theorem dX6_guest_1 : decode cX6_guest 1 = .ok (.getfield 19, 3) := by decide +kernel
theorem dX6_guest_4 : decode cX6_guest 4 = .ok (.aload_n 0, 1) := by decide +kernel
theorem dX6_guest_5 : decode cX6_guest 5 = .ok (.getfield 10, 3) := by decide +kernel
theorem dX6_guest_8 : decode cX6_guest 8 = .ok (.invokevirtual 37, 3) := by decide +kernel
theorem dX6_guest_11 : decode cX6_guest 11 = .ok (.aload_n 0, 1) := by decide +kernel
theorem dX6_guest_12 : decode cX6_guest 12 = .ok (.aload_n 0, 1) := by decide +kernel
theorem dX6_guest_13 : decode cX6_guest 13 = .ok (.getfield 10, 3) := by decide +kernel
theorem dX6_guest_16 : decode cX6_guest 16 = .ok (.iload_n 1, 1) := by decide +kernel
theorem dX6_guest_17 : decode cX6_guest 17 = .ok (.iload_n 2, 1) := by decide +kernel
theorem dX6_guest_18 : decode cX6_guest 18 = .ok (.invokevirtual 49, 3) := by decide +kernel
theorem dX6_guest_21 : decode cX6_guest 21 = .ok (.invokevirtual 45, 3) := by decide +kernel
theorem dX6_guest_24 : decode cX6_guest 24 = .ok (.ireturn, 1) := by decide +kernel
theorem dX6_leave_0 : decode cX6_leave 0 = .ok (.aload_n 0, 1) := by decide +kernel
theorem dX6_leave_1 : decode cX6_leave 1 = .ok (.getfield 19, 3) := by decide +kernel
theorem dX6_leave_4 : decode cX6_leave 4 = .ok (.aload_n 0, 1) := by decide +kernel
theorem dX6_leave_5 : decode cX6_leave 5 = .ok (.getfield 10, 3) := by decide +kernel
theorem dX6_leave_8 : decode cX6_leave 8 = .ok (.invokevirtual 37, 3) := by decide +kernel
theorem dX6_leave_11 : decode cX6_leave 11 = .ok (.aload_n 0, 1) := by decide +kernel
theorem dX6_leave_12 : decode cX6_leave 12 = .ok (.aload_n 0, 1) := by decide +kernel
theorem dX6_leave_13 : decode cX6_leave 13 = .ok (.getfield 10, 3) := by decide +kernel
theorem dX6_leave_16 : decode cX6_leave 16 = .ok (.iload_n 1, 1) := by decide +kernel
theorem dX6_leave_17 : decode cX6_leave 17 = .ok (.invokevirtual 52, 3) := by decide +kernel
theorem dX6_leave_20 : decode cX6_leave 20 = .ok (.invokevirtual 45, 3) := by decide +kernel
theorem dX6_leave_23 : decode cX6_leave 23 = .ok (.ireturn, 1) := by decide +kernel
theorem dX6_move_0 : decode cX6_move 0 = .ok (.aload_n 0, 1) := by decide +kernel
theorem dX6_move_1 : decode cX6_move 1 = .ok (.getfield 19, 3) := by decide +kernel
theorem dX6_move_4 : decode cX6_move 4 = .ok (.aload_n 0, 1) := by decide +kernel
theorem dX6_move_5 : decode cX6_move 5 = .ok (.getfield 10, 3) := by decide +kernel
theorem dX6_move_8 : decode cX6_move 8 = .ok (.invokevirtual 37, 3) := by decide +kernel
theorem dX6_move_11 : decode cX6_move 11 = .ok (.aload_n 0, 1) := by decide +kernel
theorem dX6_move_12 : decode cX6_move 12 = .ok (.aload_n 0, 1) := by decide +kernel
theorem dX6_move_13 : decode cX6_move 13 = .ok (.getfield 10, 3) := by decide +kernel
theorem dX6_move_16 : decode cX6_move 16 = .ok (.iload_n 1, 1) := by decide +kernel
theorem dX6_move_17 : decode cX6_move 17 = .ok (.iload_n 2, 1) := by decide +kernel
theorem dX6_move_18 : decode cX6_move 18 = .ok (.invokevirtual 55, 3) := by decide +kernel
theorem dX6_move_21 : decode cX6_move 21 = .ok (.invokevirtual 45, 3) := by decide +kernel
theorem dX6_move_24 : decode cX6_move 24 = .ok (.ireturn, 1) := by decide +kernel
theorem dX6_pause_0 : decode cX6_pause 0 = .ok (.aload_n 0, 1) := by decide +kernel
theorem dX6_pause_1 : decode cX6_pause 1 = .ok (.getfield 19, 3) := by decide +kernel
theorem dX6_pause_4 : decode cX6_pause 4 = .ok (.aload_n 0, 1) := by decide +kernel
theorem dX6_pause_5 : decode cX6_pause 5 = .ok (.getfield 10, 3) := by decide +kernel
theorem dX6_pause_8 : decode cX6_pause 8 = .ok (.invokevirtual 37, 3) := by decide +kernel
theorem dX6_pause_11 : decode cX6_pause 11 = .ok (.aload_n 0, 1) := by decide +kernel
theorem dX6_pause_12 : decode cX6_pause 12 = .ok (.aload_n 0, 1) := by decide +kernel
theorem dX6_pause_13 : decode cX6_pause 13 = .ok (.getfield 10, 3) := by decide +kernel
theorem dX6_pause_16 : decode cX6_pause 16 = .ok (.iload_n 1, 1) := by decide +kernel
theorem dX6_pause_17 : decode cX6_pause 17 = .ok (.invokevirtual 58, 3) := by decide +kernel
theorem dX6_pause_20 : decode cX6_pause 20 = .ok (.invokevirtual 45, 3) := by decide +kernel
theorem dX6_pause_23 : decode cX6_pause 23 = .ok (.ireturn, 1) := by decide +kernel
theorem dX6_close_0 : decode cX6_close 0 = .ok (.aload_n 0, 1) := by decide +kernel
theorem dX6_close_1 : decode cX6_close 1 = .ok (.getfield 19, 3) := by decide +kernel
theorem dX6_close_4 : decode cX6_close 4 = .ok (.aload_n 0, 1) := by decide +kernel
theorem dX6_close_5 : decode cX6_close 5 = .ok (.getfield 10, 3) := by decide +kernel
theorem dX6_close_8 : decode cX6_close 8 = .ok (.invokevirtual 37, 3) := by decide +kernel
theorem dX6_close_11 : decode cX6_close 11 = .ok (.aload_n 0, 1) := by decide +kernel
theorem dX6_close_12 : decode cX6_close 12 = .ok (.aload_n 0, 1) := by decide +kernel
theorem dX6_close_13 : decode cX6_close 13 = .ok (.getfield 10, 3) := by decide +kernel
theorem dX6_close_16 : decode cX6_close 16 = .ok (.iload_n 1, 1) := by decide +kernel
theorem dX6_close_17 : decode cX6_close 17 = .ok (.invokevirtual 61, 3) := by decide +kernel
theorem dX6_close_20 : decode cX6_close 20 = .ok (.invokevirtual 45, 3) := by decide +kernel
theorem dX6_close_23 : decode cX6_close 23 = .ok (.ireturn, 1) := by decide +kernel
theorem dX6_word_0 : decode cX6_word 0 = .ok (.aload_n 0, 1) := by decide +kernel
theorem dX6_word_1 : decode cX6_word 1 = .ok (.getfield 19, 3) := by decide +kernel
theorem dX6_word_4 : decode cX6_word 4 = .ok (.aload_n 0, 1) := by decide +kernel
theorem dX6_word_5 : decode cX6_word 5 = .ok (.getfield 10, 3) := by decide +kernel
theorem dX6_word_8 : decode cX6_word 8 = .ok (.invokevirtual 37, 3) := by decide +kernel
theorem dX6_word_11 : decode cX6_word 11 = .ok (.aload_n 0, 1) := by decide +kernel
theorem dX6_word_12 : decode cX6_word 12 = .ok (.aload_n 0, 1) := by decide +kernel
theorem dX6_word_13 : decode cX6_word 13 = .ok (.getfield 10, 3) := by decide +kernel
theorem dX6_word_16 : decode cX6_word 16 = .ok (.iload_n 1, 1) := by decide +kernel
theorem dX6_word_17 : decode cX6_word 17 = .ok (.invokevirtual 64, 3) := by decide +kernel
theorem dX6_word_20 : decode cX6_word 20 = .ok (.invokevirtual 45, 3) := by decide +kernel
theorem dX6_word_23 : decode cX6_word 23 = .ok (.ireturn, 1) := by decide +kernel
theorem dX6_cough_0 : decode cX6_cough 0 = .ok (.aload_n 0, 1) := by decide +kernel
theorem dX6_cough_1 : decode cX6_cough 1 = .ok (.getfield 19, 3) := by decide +kernel
theorem dX6_cough_4 : decode cX6_cough 4 = .ok (.aload_n 0, 1) := by decide +kernel
theorem dX6_cough_5 : decode cX6_cough 5 = .ok (.getfield 10, 3) := by decide +kernel
theorem dX6_cough_8 : decode cX6_cough 8 = .ok (.invokevirtual 37, 3) := by decide +kernel
theorem dX6_cough_11 : decode cX6_cough 11 = .ok (.aload_n 0, 1) := by decide +kernel
theorem dX6_cough_12 : decode cX6_cough 12 = .ok (.aload_n 0, 1) := by decide +kernel
theorem dX6_cough_13 : decode cX6_cough 13 = .ok (.getfield 10, 3) := by decide +kernel
theorem dX6_cough_16 : decode cX6_cough 16 = .ok (.iload_n 1, 1) := by decide +kernel
theorem dX6_cough_17 : decode cX6_cough 17 = .ok (.invokevirtual 67, 3) := by decide +kernel
theorem dX6_cough_20 : decode cX6_cough 20 = .ok (.invokevirtual 45, 3) := by decide +kernel
theorem dX6_cough_23 : decode cX6_cough 23 = .ok (.ireturn, 1) := by decide +kernel
theorem dX6_pass_0 : decode cX6_pass 0 = .ok (.aload_n 0, 1) := by decide +kernel
theorem dX6_pass_1 : decode cX6_pass 1 = .ok (.getfield 19, 3) := by decide +kernel
theorem dX6_pass_4 : decode cX6_pass 4 = .ok (.aload_n 0, 1) := by decide +kernel
theorem dX6_pass_5 : decode cX6_pass 5 = .ok (.getfield 10, 3) := by decide +kernel
theorem dX6_pass_8 : decode cX6_pass 8 = .ok (.invokevirtual 37, 3) := by decide +kernel
theorem dX6_pass_11 : decode cX6_pass 11 = .ok (.aload_n 0, 1) := by decide +kernel
theorem dX6_pass_12 : decode cX6_pass 12 = .ok (.aload_n 0, 1) := by decide +kernel
theorem dX6_pass_13 : decode cX6_pass 13 = .ok (.getfield 10, 3) := by decide +kernel
theorem dX6_pass_16 : decode cX6_pass 16 = .ok (.iload_n 1, 1) := by decide +kernel
theorem dX6_pass_17 : decode cX6_pass 17 = .ok (.invokevirtual 70, 3) := by decide +kernel
theorem dX6_pass_20 : decode cX6_pass 20 = .ok (.invokevirtual 45, 3) := by decide +kernel
theorem dX6_pass_23 : decode cX6_pass 23 = .ok (.ireturn, 1) := by decide +kernel
theorem dX6_of_0 : decode cX6_of 0 = .ok (.aload_n 0, 1) := by decide +kernel
theorem dX6_of_1 : decode cX6_of 1 = .ok (.getfield 10, 3) := by decide +kernel
theorem dX6_of_4 : decode cX6_of 4 = .ok (.getfield 73, 3) := by decide +kernel
theorem dX6_of_7 : decode cX6_of 7 = .ok (.astore_n 3, 1) := by decide +kernel
theorem dX6_of_8 : decode cX6_of 8 = .ok (.aload_n 3, 1) := by decide +kernel
theorem dX6_of_9 : decode cX6_of 9 = .ok (.iload_n 1, 1) := by decide +kernel
theorem dX6_of_10 : decode cX6_of 10 = .ok (.invokevirtual 77, 3) := by decide +kernel
theorem dX6_of_13 : decode cX6_of 13 = .ok (.ifCond .ne 5, 3) := by decide +kernel
theorem dX6_of_16 : decode cX6_of 16 = .ok (.iconst (-1), 1) := by decide +kernel
theorem dX6_of_17 : decode cX6_of 17 = .ok (.ireturn, 1) := by decide +kernel
theorem dX6_of_18 : decode cX6_of 18 = .ok (.iload_n 2, 1) := by decide +kernel
theorem dX6_of_19 : decode cX6_of 19 = .ok (.tableswitch 97 0 6 #[41, 48, 55, 62, 69, 83, 90], 41) := by decide +kernel
theorem dX6_of_60 : decode cX6_of 60 = .ok (.aload_n 3, 1) := by decide +kernel
theorem dX6_of_61 : decode cX6_of 61 = .ok (.getfield 83, 3) := by decide +kernel
theorem dX6_of_64 : decode cX6_of 64 = .ok (.iload_n 1, 1) := by decide +kernel
theorem dX6_of_65 : decode cX6_of 65 = .ok (.iaload, 1) := by decide +kernel
theorem dX6_of_66 : decode cX6_of 66 = .ok (.ireturn, 1) := by decide +kernel
theorem dX6_of_67 : decode cX6_of 67 = .ok (.aload_n 3, 1) := by decide +kernel
theorem dX6_of_68 : decode cX6_of 68 = .ok (.getfield 87, 3) := by decide +kernel
theorem dX6_of_71 : decode cX6_of 71 = .ok (.iload_n 1, 1) := by decide +kernel
theorem dX6_of_72 : decode cX6_of 72 = .ok (.iaload, 1) := by decide +kernel
theorem dX6_of_73 : decode cX6_of 73 = .ok (.ireturn, 1) := by decide +kernel
theorem dX6_of_74 : decode cX6_of 74 = .ok (.aload_n 3, 1) := by decide +kernel
theorem dX6_of_75 : decode cX6_of 75 = .ok (.getfield 90, 3) := by decide +kernel
theorem dX6_of_78 : decode cX6_of 78 = .ok (.iload_n 1, 1) := by decide +kernel
theorem dX6_of_79 : decode cX6_of 79 = .ok (.iaload, 1) := by decide +kernel
theorem dX6_of_80 : decode cX6_of 80 = .ok (.ireturn, 1) := by decide +kernel
theorem dX6_of_81 : decode cX6_of 81 = .ok (.aload_n 3, 1) := by decide +kernel
theorem dX6_of_82 : decode cX6_of 82 = .ok (.getfield 93, 3) := by decide +kernel
theorem dX6_of_85 : decode cX6_of 85 = .ok (.iload_n 1, 1) := by decide +kernel
theorem dX6_of_86 : decode cX6_of 86 = .ok (.iaload, 1) := by decide +kernel
theorem dX6_of_87 : decode cX6_of 87 = .ok (.ireturn, 1) := by decide +kernel
theorem dX6_of_88 : decode cX6_of 88 = .ok (.aload_n 3, 1) := by decide +kernel
theorem dX6_of_89 : decode cX6_of 89 = .ok (.iload_n 1, 1) := by decide +kernel
theorem dX6_of_90 : decode cX6_of 90 = .ok (.invokevirtual 96, 3) := by decide +kernel
theorem dX6_of_93 : decode cX6_of 93 = .ok (.ifCond .eq 7, 3) := by decide +kernel
theorem dX6_of_96 : decode cX6_of 96 = .ok (.iconst 1, 1) := by decide +kernel
theorem dX6_of_97 : decode cX6_of 97 = .ok (.goto 4, 3) := by decide +kernel
theorem dX6_of_100 : decode cX6_of 100 = .ok (.iconst 0, 1) := by decide +kernel
theorem dX6_of_101 : decode cX6_of 101 = .ok (.ireturn, 1) := by decide +kernel
theorem dX6_of_102 : decode cX6_of 102 = .ok (.aload_n 3, 1) := by decide +kernel
theorem dX6_of_103 : decode cX6_of 103 = .ok (.getfield 99, 3) := by decide +kernel
theorem dX6_of_106 : decode cX6_of 106 = .ok (.iload_n 1, 1) := by decide +kernel
theorem dX6_of_107 : decode cX6_of 107 = .ok (.iaload, 1) := by decide +kernel
theorem dX6_of_108 : decode cX6_of 108 = .ok (.ireturn, 1) := by decide +kernel
theorem dX6_of_109 : decode cX6_of 109 = .ok (.aload_n 3, 1) := by decide +kernel
theorem dX6_of_110 : decode cX6_of 110 = .ok (.getfield 102, 3) := by decide +kernel
theorem dX6_of_113 : decode cX6_of 113 = .ok (.iload_n 1, 1) := by decide +kernel
theorem dX6_of_114 : decode cX6_of 114 = .ok (.iaload, 1) := by decide +kernel
theorem dX6_of_115 : decode cX6_of 115 = .ok (.ireturn, 1) := by decide +kernel
theorem dX6_of_116 : decode cX6_of 116 = .ok (.bipush (-2), 2) := by decide +kernel
theorem dX6_of_118 : decode cX6_of 118 = .ok (.ireturn, 1) := by decide +kernel
theorem dX6_table_0 : decode cX6_table 0 = .ok (.iload_n 1, 1) := by decide +kernel
theorem dX6_table_1 : decode cX6_table 1 = .ok (.invokestatic 105, 3) := by decide +kernel
theorem dX6_table_4 : decode cX6_table 4 = .ok (.ifCond .ne 5, 3) := by decide +kernel
theorem dX6_table_7 : decode cX6_table 7 = .ok (.iconst (-1), 1) := by decide +kernel
theorem dX6_table_8 : decode cX6_table 8 = .ok (.ireturn, 1) := by decide +kernel
theorem dX6_table_9 : decode cX6_table 9 = .ok (.iload_n 2, 1) := by decide +kernel
theorem dX6_table_10 : decode cX6_table 10 = .ok (.tableswitch 126 0 5 #[38, 50, 62, 76, 86, 116], 38) := by decide +kernel
theorem dX6_table_48 : decode cX6_table 48 = .ok (.aload_n 0, 1) := by decide +kernel
theorem dX6_table_49 : decode cX6_table 49 = .ok (.getfield 10, 3) := by decide +kernel
theorem dX6_table_52 : decode cX6_table 52 = .ok (.getfield 73, 3) := by decide +kernel
theorem dX6_table_55 : decode cX6_table 55 = .ok (.iload_n 1, 1) := by decide +kernel
theorem dX6_table_56 : decode cX6_table 56 = .ok (.invokevirtual 108, 3) := by decide +kernel
theorem dX6_table_59 : decode cX6_table 59 = .ok (.ireturn, 1) := by decide +kernel
theorem dX6_table_60 : decode cX6_table 60 = .ok (.aload_n 0, 1) := by decide +kernel
theorem dX6_table_61 : decode cX6_table 61 = .ok (.getfield 10, 3) := by decide +kernel
theorem dX6_table_64 : decode cX6_table 64 = .ok (.getfield 73, 3) := by decide +kernel
theorem dX6_table_67 : decode cX6_table 67 = .ok (.iload_n 1, 1) := by decide +kernel
theorem dX6_table_68 : decode cX6_table 68 = .ok (.invokevirtual 111, 3) := by decide +kernel
theorem dX6_table_71 : decode cX6_table 71 = .ok (.ireturn, 1) := by decide +kernel
theorem dX6_table_72 : decode cX6_table 72 = .ok (.aload_n 0, 1) := by decide +kernel
theorem dX6_table_73 : decode cX6_table 73 = .ok (.getfield 10, 3) := by decide +kernel
theorem dX6_table_76 : decode cX6_table 76 = .ok (.getfield 73, 3) := by decide +kernel
theorem dX6_table_79 : decode cX6_table 79 = .ok (.iload_n 1, 1) := by decide +kernel
theorem dX6_table_80 : decode cX6_table 80 = .ok (.bipush (-6), 2) := by decide +kernel
theorem dX6_table_82 : decode cX6_table 82 = .ok (.invokevirtual 114, 3) := by decide +kernel
theorem dX6_table_85 : decode cX6_table 85 = .ok (.ireturn, 1) := by decide +kernel
theorem dX6_table_86 : decode cX6_table 86 = .ok (.aload_n 0, 1) := by decide +kernel
theorem dX6_table_87 : decode cX6_table 87 = .ok (.getfield 10, 3) := by decide +kernel
theorem dX6_table_90 : decode cX6_table 90 = .ok (.getfield 117, 3) := by decide +kernel
theorem dX6_table_93 : decode cX6_table 93 = .ok (.iload_n 1, 1) := by decide +kernel
theorem dX6_table_94 : decode cX6_table 94 = .ok (.iaload, 1) := by decide +kernel
theorem dX6_table_95 : decode cX6_table 95 = .ok (.ireturn, 1) := by decide +kernel
theorem dX6_table_96 : decode cX6_table 96 = .ok (.aload_n 0, 1) := by decide +kernel
theorem dX6_table_97 : decode cX6_table 97 = .ok (.getfield 10, 3) := by decide +kernel
theorem dX6_table_100 : decode cX6_table 100 = .ok (.getfield 117, 3) := by decide +kernel
theorem dX6_table_103 : decode cX6_table 103 = .ok (.iload_n 1, 1) := by decide +kernel
theorem dX6_table_104 : decode cX6_table 104 = .ok (.iaload, 1) := by decide +kernel
theorem dX6_table_105 : decode cX6_table 105 = .ok (.bipush (-6), 2) := by decide +kernel
theorem dX6_table_107 : decode cX6_table 107 = .ok (.if_icmp .ne 8, 3) := by decide +kernel
theorem dX6_table_110 : decode cX6_table 110 = .ok (.bipush (-6), 2) := by decide +kernel
theorem dX6_table_112 : decode cX6_table 112 = .ok (.goto 13, 3) := by decide +kernel
theorem dX6_table_115 : decode cX6_table 115 = .ok (.aload_n 0, 1) := by decide +kernel
theorem dX6_table_116 : decode cX6_table 116 = .ok (.getfield 10, 3) := by decide +kernel
theorem dX6_table_119 : decode cX6_table 119 = .ok (.iload_n 1, 1) := by decide +kernel
theorem dX6_table_120 : decode cX6_table 120 = .ok (.bipush (-6), 2) := by decide +kernel
theorem dX6_table_122 : decode cX6_table 122 = .ok (.invokevirtual 120, 3) := by decide +kernel
theorem dX6_table_125 : decode cX6_table 125 = .ok (.ireturn, 1) := by decide +kernel
theorem dX6_table_126 : decode cX6_table 126 = .ok (.aload_n 0, 1) := by decide +kernel
theorem dX6_table_127 : decode cX6_table 127 = .ok (.getfield 10, 3) := by decide +kernel
theorem dX6_table_130 : decode cX6_table 130 = .ok (.getfield 123, 3) := by decide +kernel
theorem dX6_table_133 : decode cX6_table 133 = .ok (.iload_n 1, 1) := by decide +kernel
theorem dX6_table_134 : decode cX6_table 134 = .ok (.iaload, 1) := by decide +kernel
theorem dX6_table_135 : decode cX6_table 135 = .ok (.ireturn, 1) := by decide +kernel
theorem dX6_table_136 : decode cX6_table 136 = .ok (.bipush (-2), 2) := by decide +kernel
theorem dX6_table_138 : decode cX6_table 138 = .ok (.ireturn, 1) := by decide +kernel
theorem dX6_meaning_0 : decode cX6_meaning 0 = .ok (.iload_n 1, 1) := by decide +kernel
theorem dX6_meaning_1 : decode cX6_meaning 1 = .ok (.iconst 1, 1) := by decide +kernel
theorem dX6_meaning_2 : decode cX6_meaning 2 = .ok (.if_icmp .lt 9, 3) := by decide +kernel
theorem dX6_meaning_5 : decode cX6_meaning 5 = .ok (.iload_n 1, 1) := by decide +kernel
theorem dX6_meaning_6 : decode cX6_meaning 6 = .ok (.bipush 11, 2) := by decide +kernel
theorem dX6_meaning_8 : decode cX6_meaning 8 = .ok (.if_icmp .le 5, 3) := by decide +kernel
theorem dX6_meaning_11 : decode cX6_meaning 11 = .ok (.iconst (-1), 1) := by decide +kernel
theorem dX6_meaning_12 : decode cX6_meaning 12 = .ok (.ireturn, 1) := by decide +kernel
theorem dX6_meaning_13 : decode cX6_meaning 13 = .ok (.iload_n 2, 1) := by decide +kernel
theorem dX6_meaning_14 : decode cX6_meaning 14 = .ok (.lookupswitch 52 #[(0, 26), (1, 39)], 26) := by decide +kernel
theorem dX6_meaning_40 : decode cX6_meaning 40 = .ok (.aload_n 0, 1) := by decide +kernel
theorem dX6_meaning_41 : decode cX6_meaning 41 = .ok (.getfield 10, 3) := by decide +kernel
theorem dX6_meaning_44 : decode cX6_meaning 44 = .ok (.getfield 126, 3) := by decide +kernel
theorem dX6_meaning_47 : decode cX6_meaning 47 = .ok (.getfield 130, 3) := by decide +kernel
theorem dX6_meaning_50 : decode cX6_meaning 50 = .ok (.iload_n 1, 1) := by decide +kernel
theorem dX6_meaning_51 : decode cX6_meaning 51 = .ok (.iaload, 1) := by decide +kernel
theorem dX6_meaning_52 : decode cX6_meaning 52 = .ok (.ireturn, 1) := by decide +kernel
theorem dX6_meaning_53 : decode cX6_meaning 53 = .ok (.aload_n 0, 1) := by decide +kernel
theorem dX6_meaning_54 : decode cX6_meaning 54 = .ok (.getfield 10, 3) := by decide +kernel
theorem dX6_meaning_57 : decode cX6_meaning 57 = .ok (.getfield 126, 3) := by decide +kernel
theorem dX6_meaning_60 : decode cX6_meaning 60 = .ok (.getfield 135, 3) := by decide +kernel
theorem dX6_meaning_63 : decode cX6_meaning 63 = .ok (.iload_n 1, 1) := by decide +kernel
theorem dX6_meaning_64 : decode cX6_meaning 64 = .ok (.iaload, 1) := by decide +kernel
theorem dX6_meaning_65 : decode cX6_meaning 65 = .ok (.ireturn, 1) := by decide +kernel
theorem dX6_meaning_66 : decode cX6_meaning 66 = .ok (.bipush (-2), 2) := by decide +kernel
theorem dX6_meaning_68 : decode cX6_meaning 68 = .ok (.ireturn, 1) := by decide +kernel
theorem dX6_end_0 : decode cX6_end 0 = .ok (.iload_n 1, 1) := by decide +kernel
theorem dX6_end_1 : decode cX6_end 1 = .ok (.ifCond .lt 17, 3) := by decide +kernel
theorem dX6_end_4 : decode cX6_end 4 = .ok (.iload_n 1, 1) := by decide +kernel
theorem dX6_end_5 : decode cX6_end 5 = .ok (.aload_n 0, 1) := by decide +kernel
theorem dX6_end_6 : decode cX6_end 6 = .ok (.getfield 10, 3) := by decide +kernel
theorem dX6_end_9 : decode cX6_end 9 = .ok (.getfield 126, 3) := by decide +kernel
theorem dX6_end_12 : decode cX6_end 12 = .ok (.getfield 138, 3) := by decide +kernel
theorem dX6_end_15 : decode cX6_end 15 = .ok (.if_icmp .lt 5, 3) := by decide +kernel
theorem dX6_end_18 : decode cX6_end 18 = .ok (.iconst (-1), 1) := by decide +kernel
theorem dX6_end_19 : decode cX6_end 19 = .ok (.ireturn, 1) := by decide +kernel
theorem dX6_end_20 : decode cX6_end 20 = .ok (.iload_n 2, 1) := by decide +kernel
theorem dX6_end_21 : decode cX6_end 21 = .ok (.ifCond .lt 8, 3) := by decide +kernel
theorem dX6_end_24 : decode cX6_end 24 = .ok (.iload_n 2, 1) := by decide +kernel
theorem dX6_end_25 : decode cX6_end 25 = .ok (.iconst 5, 1) := by decide +kernel
theorem dX6_end_26 : decode cX6_end 26 = .ok (.if_icmp .lt 6, 3) := by decide +kernel
theorem dX6_end_29 : decode cX6_end 29 = .ok (.bipush (-2), 2) := by decide +kernel
theorem dX6_end_31 : decode cX6_end 31 = .ok (.ireturn, 1) := by decide +kernel
theorem dX6_end_32 : decode cX6_end 32 = .ok (.aload_n 0, 1) := by decide +kernel
theorem dX6_end_33 : decode cX6_end 33 = .ok (.getfield 10, 3) := by decide +kernel
theorem dX6_end_36 : decode cX6_end 36 = .ok (.getfield 126, 3) := by decide +kernel
theorem dX6_end_39 : decode cX6_end 39 = .ok (.getfield 142, 3) := by decide +kernel
theorem dX6_end_42 : decode cX6_end 42 = .ok (.iload_n 1, 1) := by decide +kernel
theorem dX6_end_43 : decode cX6_end 43 = .ok (.iconst 5, 1) := by decide +kernel
theorem dX6_end_44 : decode cX6_end 44 = .ok (.imul, 1) := by decide +kernel
theorem dX6_end_45 : decode cX6_end 45 = .ok (.iload_n 2, 1) := by decide +kernel
theorem dX6_end_46 : decode cX6_end 46 = .ok (.iadd, 1) := by decide +kernel
theorem dX6_end_47 : decode cX6_end 47 = .ok (.iaload, 1) := by decide +kernel
theorem dX6_end_48 : decode cX6_end 48 = .ok (.ireturn, 1) := by decide +kernel
theorem dX6_count_0 : decode cX6_count 0 = .ok (.iload_n 1, 1) := by decide +kernel
theorem dX6_count_1 : decode cX6_count 1 = .ok (.tableswitch 230 0 14 #[75, 83, 94, 102, 115, 128, 141, 152, 163, 174, 184, 194, 204, 214, 222], 75) := by decide +kernel
theorem dX6_count_76 : decode cX6_count 76 = .ok (.aload_n 0, 1) := by decide +kernel
theorem dX6_count_77 : decode cX6_count 77 = .ok (.getfield 10, 3) := by decide +kernel
theorem dX6_count_80 : decode cX6_count 80 = .ok (.getfield 145, 3) := by decide +kernel
theorem dX6_count_83 : decode cX6_count 83 = .ok (.ireturn, 1) := by decide +kernel
theorem dX6_count_84 : decode cX6_count 84 = .ok (.aload_n 0, 1) := by decide +kernel
theorem dX6_count_85 : decode cX6_count 85 = .ok (.getfield 10, 3) := by decide +kernel
theorem dX6_count_88 : decode cX6_count 88 = .ok (.getfield 73, 3) := by decide +kernel
theorem dX6_count_91 : decode cX6_count 91 = .ok (.invokevirtual 148, 3) := by decide +kernel
theorem dX6_count_94 : decode cX6_count 94 = .ok (.ireturn, 1) := by decide +kernel
theorem dX6_count_95 : decode cX6_count 95 = .ok (.aload_n 0, 1) := by decide +kernel
theorem dX6_count_96 : decode cX6_count 96 = .ok (.getfield 10, 3) := by decide +kernel
theorem dX6_count_99 : decode cX6_count 99 = .ok (.invokevirtual 152, 3) := by decide +kernel
theorem dX6_count_102 : decode cX6_count 102 = .ok (.ireturn, 1) := by decide +kernel
theorem dX6_count_103 : decode cX6_count 103 = .ok (.aload_n 0, 1) := by decide +kernel
theorem dX6_count_104 : decode cX6_count 104 = .ok (.getfield 10, 3) := by decide +kernel
theorem dX6_count_107 : decode cX6_count 107 = .ok (.getfield 126, 3) := by decide +kernel
theorem dX6_count_110 : decode cX6_count 110 = .ok (.getfield 155, 3) := by decide +kernel
theorem dX6_count_113 : decode cX6_count 113 = .ok (.iconst 0, 1) := by decide +kernel
theorem dX6_count_114 : decode cX6_count 114 = .ok (.iaload, 1) := by decide +kernel
theorem dX6_count_115 : decode cX6_count 115 = .ok (.ireturn, 1) := by decide +kernel
theorem dX6_count_116 : decode cX6_count 116 = .ok (.aload_n 0, 1) := by decide +kernel
theorem dX6_count_117 : decode cX6_count 117 = .ok (.getfield 10, 3) := by decide +kernel
theorem dX6_count_120 : decode cX6_count 120 = .ok (.getfield 126, 3) := by decide +kernel
theorem dX6_count_123 : decode cX6_count 123 = .ok (.getfield 155, 3) := by decide +kernel
theorem dX6_count_126 : decode cX6_count 126 = .ok (.iconst 1, 1) := by decide +kernel
theorem dX6_count_127 : decode cX6_count 127 = .ok (.iaload, 1) := by decide +kernel
theorem dX6_count_128 : decode cX6_count 128 = .ok (.ireturn, 1) := by decide +kernel
theorem dX6_count_129 : decode cX6_count 129 = .ok (.aload_n 0, 1) := by decide +kernel
theorem dX6_count_130 : decode cX6_count 130 = .ok (.getfield 10, 3) := by decide +kernel
theorem dX6_count_133 : decode cX6_count 133 = .ok (.getfield 126, 3) := by decide +kernel
theorem dX6_count_136 : decode cX6_count 136 = .ok (.getfield 155, 3) := by decide +kernel
theorem dX6_count_139 : decode cX6_count 139 = .ok (.iconst 2, 1) := by decide +kernel
theorem dX6_count_140 : decode cX6_count 140 = .ok (.iaload, 1) := by decide +kernel
theorem dX6_count_141 : decode cX6_count 141 = .ok (.ireturn, 1) := by decide +kernel
theorem dX6_count_142 : decode cX6_count 142 = .ok (.aload_n 0, 1) := by decide +kernel
theorem dX6_count_143 : decode cX6_count 143 = .ok (.getfield 10, 3) := by decide +kernel
theorem dX6_count_146 : decode cX6_count 146 = .ok (.getfield 73, 3) := by decide +kernel
theorem dX6_count_149 : decode cX6_count 149 = .ok (.invokevirtual 158, 3) := by decide +kernel
theorem dX6_count_152 : decode cX6_count 152 = .ok (.ireturn, 1) := by decide +kernel
theorem dX6_count_153 : decode cX6_count 153 = .ok (.aload_n 0, 1) := by decide +kernel
theorem dX6_count_154 : decode cX6_count 154 = .ok (.getfield 10, 3) := by decide +kernel
theorem dX6_count_157 : decode cX6_count 157 = .ok (.getfield 126, 3) := by decide +kernel
theorem dX6_count_160 : decode cX6_count 160 = .ok (.invokevirtual 161, 3) := by decide +kernel
theorem dX6_count_163 : decode cX6_count 163 = .ok (.ireturn, 1) := by decide +kernel
theorem dX6_count_164 : decode cX6_count 164 = .ok (.aload_n 0, 1) := by decide +kernel
theorem dX6_count_165 : decode cX6_count 165 = .ok (.getfield 10, 3) := by decide +kernel
theorem dX6_count_168 : decode cX6_count 168 = .ok (.getfield 73, 3) := by decide +kernel
theorem dX6_count_171 : decode cX6_count 171 = .ok (.invokevirtual 164, 3) := by decide +kernel
theorem dX6_count_174 : decode cX6_count 174 = .ok (.ireturn, 1) := by decide +kernel
theorem dX6_count_175 : decode cX6_count 175 = .ok (.aload_n 0, 1) := by decide +kernel
theorem dX6_count_176 : decode cX6_count 176 = .ok (.getfield 10, 3) := by decide +kernel
theorem dX6_count_179 : decode cX6_count 179 = .ok (.getfield 167, 3) := by decide +kernel
theorem dX6_count_182 : decode cX6_count 182 = .ok (.iconst 0, 1) := by decide +kernel
theorem dX6_count_183 : decode cX6_count 183 = .ok (.iaload, 1) := by decide +kernel
theorem dX6_count_184 : decode cX6_count 184 = .ok (.ireturn, 1) := by decide +kernel
theorem dX6_count_185 : decode cX6_count 185 = .ok (.aload_n 0, 1) := by decide +kernel
theorem dX6_count_186 : decode cX6_count 186 = .ok (.getfield 10, 3) := by decide +kernel
theorem dX6_count_189 : decode cX6_count 189 = .ok (.getfield 167, 3) := by decide +kernel
theorem dX6_count_192 : decode cX6_count 192 = .ok (.iconst 1, 1) := by decide +kernel
theorem dX6_count_193 : decode cX6_count 193 = .ok (.iaload, 1) := by decide +kernel
theorem dX6_count_194 : decode cX6_count 194 = .ok (.ireturn, 1) := by decide +kernel
theorem dX6_count_195 : decode cX6_count 195 = .ok (.aload_n 0, 1) := by decide +kernel
theorem dX6_count_196 : decode cX6_count 196 = .ok (.getfield 10, 3) := by decide +kernel
theorem dX6_count_199 : decode cX6_count 199 = .ok (.getfield 167, 3) := by decide +kernel
theorem dX6_count_202 : decode cX6_count 202 = .ok (.iconst 2, 1) := by decide +kernel
theorem dX6_count_203 : decode cX6_count 203 = .ok (.iaload, 1) := by decide +kernel
theorem dX6_count_204 : decode cX6_count 204 = .ok (.ireturn, 1) := by decide +kernel
theorem dX6_count_205 : decode cX6_count 205 = .ok (.aload_n 0, 1) := by decide +kernel
theorem dX6_count_206 : decode cX6_count 206 = .ok (.getfield 10, 3) := by decide +kernel
theorem dX6_count_209 : decode cX6_count 209 = .ok (.getfield 167, 3) := by decide +kernel
theorem dX6_count_212 : decode cX6_count 212 = .ok (.iconst 3, 1) := by decide +kernel
theorem dX6_count_213 : decode cX6_count 213 = .ok (.iaload, 1) := by decide +kernel
theorem dX6_count_214 : decode cX6_count 214 = .ok (.ireturn, 1) := by decide +kernel
theorem dX6_count_215 : decode cX6_count 215 = .ok (.aload_n 0, 1) := by decide +kernel
theorem dX6_count_216 : decode cX6_count 216 = .ok (.getfield 33, 3) := by decide +kernel
theorem dX6_count_219 : decode cX6_count 219 = .ok (.getfield 170, 3) := by decide +kernel
theorem dX6_count_222 : decode cX6_count 222 = .ok (.ireturn, 1) := by decide +kernel
theorem dX6_count_223 : decode cX6_count 223 = .ok (.aload_n 0, 1) := by decide +kernel
theorem dX6_count_224 : decode cX6_count 224 = .ok (.getfield 19, 3) := by decide +kernel
theorem dX6_count_227 : decode cX6_count 227 = .ok (.getfield 173, 3) := by decide +kernel
theorem dX6_count_230 : decode cX6_count 230 = .ok (.ireturn, 1) := by decide +kernel
theorem dX6_count_231 : decode cX6_count 231 = .ok (.bipush (-2), 2) := by decide +kernel
theorem dX6_count_233 : decode cX6_count 233 = .ok (.ireturn, 1) := by decide +kernel
theorem dX6_wouldMean_0 : decode cX6_wouldMean 0 = .ok (.iload_n 1, 1) := by decide +kernel
theorem dX6_wouldMean_1 : decode cX6_wouldMean 1 = .ok (.invokestatic 105, 3) := by decide +kernel
theorem dX6_wouldMean_4 : decode cX6_wouldMean 4 = .ok (.ifCond .ne 5, 3) := by decide +kernel
theorem dX6_wouldMean_7 : decode cX6_wouldMean 7 = .ok (.iconst (-1), 1) := by decide +kernel
theorem dX6_wouldMean_8 : decode cX6_wouldMean 8 = .ok (.ireturn, 1) := by decide +kernel
theorem dX6_wouldMean_9 : decode cX6_wouldMean 9 = .ok (.iload_n 2, 1) := by decide +kernel
theorem dX6_wouldMean_10 : decode cX6_wouldMean 10 = .ok (.ifCond .lt 10, 3) := by decide +kernel
theorem dX6_wouldMean_13 : decode cX6_wouldMean 13 = .ok (.iload_n 2, 1) := by decide +kernel
theorem dX6_wouldMean_14 : decode cX6_wouldMean 14 = .ok (.sipush 999, 3) := by decide +kernel
theorem dX6_wouldMean_17 : decode cX6_wouldMean 17 = .ok (.if_icmp .le 6, 3) := by decide +kernel
theorem dX6_wouldMean_20 : decode cX6_wouldMean 20 = .ok (.bipush (-2), 2) := by decide +kernel
theorem dX6_wouldMean_22 : decode cX6_wouldMean 22 = .ok (.ireturn, 1) := by decide +kernel
theorem dX6_wouldMean_23 : decode cX6_wouldMean 23 = .ok (.aload_n 0, 1) := by decide +kernel
theorem dX6_wouldMean_24 : decode cX6_wouldMean 24 = .ok (.getfield 10, 3) := by decide +kernel
theorem dX6_wouldMean_27 : decode cX6_wouldMean 27 = .ok (.aload_n 0, 1) := by decide +kernel
theorem dX6_wouldMean_28 : decode cX6_wouldMean 28 = .ok (.getfield 10, 3) := by decide +kernel
theorem dX6_wouldMean_31 : decode cX6_wouldMean 31 = .ok (.getfield 73, 3) := by decide +kernel
theorem dX6_wouldMean_34 : decode cX6_wouldMean 34 = .ok (.iload_n 1, 1) := by decide +kernel
theorem dX6_wouldMean_35 : decode cX6_wouldMean 35 = .ok (.bipush (-6), 2) := by decide +kernel
theorem dX6_wouldMean_37 : decode cX6_wouldMean 37 = .ok (.invokevirtual 114, 3) := by decide +kernel
theorem dX6_wouldMean_40 : decode cX6_wouldMean 40 = .ok (.iload_n 2, 1) := by decide +kernel
theorem dX6_wouldMean_41 : decode cX6_wouldMean 41 = .ok (.invokevirtual 176, 3) := by decide +kernel
theorem dX6_wouldMean_44 : decode cX6_wouldMean 44 = .ok (.ireturn, 1) := by decide +kernel
theorem dX6_turnsIn_0 : decode cX6_turnsIn 0 = .ok (.iload_n 1, 1) := by decide +kernel
theorem dX6_turnsIn_1 : decode cX6_turnsIn 1 = .ok (.invokestatic 105, 3) := by decide +kernel
theorem dX6_turnsIn_4 : decode cX6_turnsIn 4 = .ok (.ifCond .ne 5, 3) := by decide +kernel
theorem dX6_turnsIn_7 : decode cX6_turnsIn 7 = .ok (.iconst (-1), 1) := by decide +kernel
theorem dX6_turnsIn_8 : decode cX6_turnsIn 8 = .ok (.ireturn, 1) := by decide +kernel
theorem dX6_turnsIn_9 : decode cX6_turnsIn 9 = .ok (.aload_n 0, 1) := by decide +kernel
theorem dX6_turnsIn_10 : decode cX6_turnsIn 10 = .ok (.getfield 10, 3) := by decide +kernel
theorem dX6_turnsIn_13 : decode cX6_turnsIn 13 = .ok (.getfield 117, 3) := by decide +kernel
theorem dX6_turnsIn_16 : decode cX6_turnsIn 16 = .ok (.iload_n 1, 1) := by decide +kernel
theorem dX6_turnsIn_17 : decode cX6_turnsIn 17 = .ok (.iaload, 1) := by decide +kernel
theorem dX6_turnsIn_18 : decode cX6_turnsIn 18 = .ok (.bipush (-6), 2) := by decide +kernel
theorem dX6_turnsIn_20 : decode cX6_turnsIn 20 = .ok (.if_icmp .ne 8, 3) := by decide +kernel
theorem dX6_turnsIn_23 : decode cX6_turnsIn 23 = .ok (.bipush (-5), 2) := by decide +kernel
theorem dX6_turnsIn_25 : decode cX6_turnsIn 25 = .ok (.goto 11, 3) := by decide +kernel
theorem dX6_turnsIn_28 : decode cX6_turnsIn 28 = .ok (.aload_n 0, 1) := by decide +kernel
theorem dX6_turnsIn_29 : decode cX6_turnsIn 29 = .ok (.getfield 10, 3) := by decide +kernel
theorem dX6_turnsIn_32 : decode cX6_turnsIn 32 = .ok (.iload_n 1, 1) := by decide +kernel
theorem dX6_turnsIn_33 : decode cX6_turnsIn 33 = .ok (.invokevirtual 179, 3) := by decide +kernel
theorem dX6_turnsIn_36 : decode cX6_turnsIn 36 = .ok (.ireturn, 1) := by decide +kernel
theorem dX6_lender_0 : decode cX6_lender 0 = .ok (.aload_n 0, 1) := by decide +kernel
theorem dX6_lender_1 : decode cX6_lender 1 = .ok (.getfield 10, 3) := by decide +kernel
theorem dX6_lender_4 : decode cX6_lender 4 = .ok (.getfield 73, 3) := by decide +kernel
theorem dX6_lender_7 : decode cX6_lender 7 = .ok (.iload_n 1, 1) := by decide +kernel
theorem dX6_lender_8 : decode cX6_lender 8 = .ok (.invokevirtual 77, 3) := by decide +kernel
theorem dX6_lender_11 : decode cX6_lender 11 = .ok (.ifCond .ne 5, 3) := by decide +kernel
theorem dX6_lender_14 : decode cX6_lender 14 = .ok (.iconst (-1), 1) := by decide +kernel
theorem dX6_lender_15 : decode cX6_lender 15 = .ok (.ireturn, 1) := by decide +kernel
theorem dX6_lender_16 : decode cX6_lender 16 = .ok (.aload_n 0, 1) := by decide +kernel
theorem dX6_lender_17 : decode cX6_lender 17 = .ok (.getfield 10, 3) := by decide +kernel
theorem dX6_lender_20 : decode cX6_lender 20 = .ok (.getfield 73, 3) := by decide +kernel
theorem dX6_lender_23 : decode cX6_lender 23 = .ok (.getfield 83, 3) := by decide +kernel
theorem dX6_lender_26 : decode cX6_lender 26 = .ok (.iload_n 1, 1) := by decide +kernel
theorem dX6_lender_27 : decode cX6_lender 27 = .ok (.iaload, 1) := by decide +kernel
theorem dX6_lender_28 : decode cX6_lender 28 = .ok (.istore_n 2, 1) := by decide +kernel
theorem dX6_lender_29 : decode cX6_lender 29 = .ok (.iload_n 2, 1) := by decide +kernel
theorem dX6_lender_30 : decode cX6_lender 30 = .ok (.bipush (-6), 2) := by decide +kernel
theorem dX6_lender_32 : decode cX6_lender 32 = .ok (.if_icmp .ne 8, 3) := by decide +kernel
theorem dX6_lender_35 : decode cX6_lender 35 = .ok (.bipush (-5), 2) := by decide +kernel
theorem dX6_lender_37 : decode cX6_lender 37 = .ok (.goto 15, 3) := by decide +kernel
theorem dX6_lender_40 : decode cX6_lender 40 = .ok (.aload_n 0, 1) := by decide +kernel
theorem dX6_lender_41 : decode cX6_lender 41 = .ok (.getfield 10, 3) := by decide +kernel
theorem dX6_lender_44 : decode cX6_lender 44 = .ok (.getfield 73, 3) := by decide +kernel
theorem dX6_lender_47 : decode cX6_lender 47 = .ok (.iload_n 1, 1) := by decide +kernel
theorem dX6_lender_48 : decode cX6_lender 48 = .ok (.iload_n 2, 1) := by decide +kernel
theorem dX6_lender_49 : decode cX6_lender 49 = .ok (.invokevirtual 182, 3) := by decide +kernel
theorem dX6_lender_52 : decode cX6_lender 52 = .ok (.ireturn, 1) := by decide +kernel
theorem dX6_usual_0 : decode cX6_usual 0 = .ok (.aload_n 0, 1) := by decide +kernel
theorem dX6_usual_1 : decode cX6_usual 1 = .ok (.getfield 10, 3) := by decide +kernel
theorem dX6_usual_4 : decode cX6_usual 4 = .ok (.getfield 126, 3) := by decide +kernel
theorem dX6_usual_7 : decode cX6_usual 7 = .ok (.invokevirtual 188, 3) := by decide +kernel
theorem dX6_usual_10 : decode cX6_usual 10 = .ok (.ireturn, 1) := by decide +kernel
theorem dX6_undo_0 : decode cX6_undo 0 = .ok (.aload_n 0, 1) := by decide +kernel
theorem dX6_undo_1 : decode cX6_undo 1 = .ok (.getfield 19, 3) := by decide +kernel
theorem dX6_undo_4 : decode cX6_undo 4 = .ok (.aload_n 0, 1) := by decide +kernel
theorem dX6_undo_5 : decode cX6_undo 5 = .ok (.getfield 10, 3) := by decide +kernel
theorem dX6_undo_8 : decode cX6_undo 8 = .ok (.invokevirtual 207, 3) := by decide +kernel
theorem dX6_undo_11 : decode cX6_undo 11 = .ok (.ireturn, 1) := by decide +kernel
theorem dX6_save_0 : decode cX6_save 0 = .ok (.aload_n 0, 1) := by decide +kernel
theorem dX6_save_1 : decode cX6_save 1 = .ok (.getfield 26, 3) := by decide +kernel
theorem dX6_save_4 : decode cX6_save 4 = .ok (.iload_n 1, 1) := by decide +kernel
theorem dX6_save_5 : decode cX6_save 5 = .ok (.aload_n 0, 1) := by decide +kernel
theorem dX6_save_6 : decode cX6_save 6 = .ok (.getfield 10, 3) := by decide +kernel
theorem dX6_save_9 : decode cX6_save 9 = .ok (.invokevirtual 211, 3) := by decide +kernel
theorem dX6_save_12 : decode cX6_save 12 = .ok (.ireturn, 1) := by decide +kernel
theorem dX6_restore_0 : decode cX6_restore 0 = .ok (.aload_n 0, 1) := by decide +kernel
theorem dX6_restore_1 : decode cX6_restore 1 = .ok (.getfield 19, 3) := by decide +kernel
theorem dX6_restore_4 : decode cX6_restore 4 = .ok (.aload_n 0, 1) := by decide +kernel
theorem dX6_restore_5 : decode cX6_restore 5 = .ok (.getfield 10, 3) := by decide +kernel
theorem dX6_restore_8 : decode cX6_restore 8 = .ok (.invokevirtual 37, 3) := by decide +kernel
theorem dX6_restore_11 : decode cX6_restore 11 = .ok (.aload_n 0, 1) := by decide +kernel
theorem dX6_restore_12 : decode cX6_restore 12 = .ok (.aload_n 0, 1) := by decide +kernel
theorem dX6_restore_13 : decode cX6_restore 13 = .ok (.getfield 26, 3) := by decide +kernel
theorem dX6_restore_16 : decode cX6_restore 16 = .ok (.iload_n 1, 1) := by decide +kernel
theorem dX6_restore_17 : decode cX6_restore 17 = .ok (.aload_n 0, 1) := by decide +kernel
theorem dX6_restore_18 : decode cX6_restore 18 = .ok (.getfield 10, 3) := by decide +kernel
theorem dX6_restore_21 : decode cX6_restore 21 = .ok (.invokevirtual 215, 3) := by decide +kernel
theorem dX6_restore_24 : decode cX6_restore 24 = .ok (.invokevirtual 45, 3) := by decide +kernel
theorem dX6_restore_27 : decode cX6_restore 27 = .ok (.ireturn, 1) := by decide +kernel
theorem dX6_keptUnlessError_0 : decode cX6_keptUnlessError 0 = .ok (.iload_n 1, 1) := by decide +kernel
theorem dX6_keptUnlessError_1 : decode cX6_keptUnlessError 1 = .ok (.invokestatic 218, 3) := by decide +kernel
theorem dX6_keptUnlessError_4 : decode cX6_keptUnlessError 4 = .ok (.ifCond .ne 10, 3) := by decide +kernel
theorem dX6_keptUnlessError_7 : decode cX6_keptUnlessError 7 = .ok (.aload_n 0, 1) := by decide +kernel
theorem dX6_keptUnlessError_8 : decode cX6_keptUnlessError 8 = .ok (.getfield 19, 3) := by decide +kernel
theorem dX6_keptUnlessError_11 : decode cX6_keptUnlessError 11 = .ok (.invokevirtual 204, 3) := by decide +kernel
theorem dX6_keptUnlessError_14 : decode cX6_keptUnlessError 14 = .ok (.iload_n 1, 1) := by decide +kernel
theorem dX6_keptUnlessError_15 : decode cX6_keptUnlessError 15 = .ok (.ireturn, 1) := by decide +kernel
theorem dX6_isError_0 : decode cX6_isError 0 = .ok (.iload_n 0, 1) := by decide +kernel
theorem dX6_isError_1 : decode cX6_isError 1 = .ok (.iconst (-1), 1) := by decide +kernel
theorem dX6_isError_2 : decode cX6_isError 2 = .ok (.if_icmp .gt 13, 3) := by decide +kernel
theorem dX6_isError_5 : decode cX6_isError 5 = .ok (.iload_n 0, 1) := by decide +kernel
theorem dX6_isError_6 : decode cX6_isError 6 = .ok (.bipush (-5), 2) := by decide +kernel
theorem dX6_isError_8 : decode cX6_isError 8 = .ok (.if_icmp .lt 7, 3) := by decide +kernel
theorem dX6_isError_11 : decode cX6_isError 11 = .ok (.iconst 1, 1) := by decide +kernel
theorem dX6_isError_12 : decode cX6_isError 12 = .ok (.goto 4, 3) := by decide +kernel
theorem dX6_isError_15 : decode cX6_isError 15 = .ok (.iconst 0, 1) := by decide +kernel
theorem dX6_isError_16 : decode cX6_isError 16 = .ok (.ireturn, 1) := by decide +kernel
theorem dX6_isTable_0 : decode cX6_isTable 0 = .ok (.iload_n 0, 1) := by decide +kernel
theorem dX6_isTable_1 : decode cX6_isTable 1 = .ok (.ifCond .lt 12, 3) := by decide +kernel
theorem dX6_isTable_4 : decode cX6_isTable 4 = .ok (.iload_n 0, 1) := by decide +kernel
theorem dX6_isTable_5 : decode cX6_isTable 5 = .ok (.iconst 3, 1) := by decide +kernel
theorem dX6_isTable_6 : decode cX6_isTable 6 = .ok (.if_icmp .ge 7, 3) := by decide +kernel
theorem dX6_isTable_9 : decode cX6_isTable 9 = .ok (.iconst 1, 1) := by decide +kernel
theorem dX6_isTable_10 : decode cX6_isTable 10 = .ok (.goto 4, 3) := by decide +kernel
theorem dX6_isTable_13 : decode cX6_isTable 13 = .ok (.iconst 0, 1) := by decide +kernel
theorem dX6_isTable_14 : decode cX6_isTable 14 = .ok (.ireturn, 1) := by decide +kernel
end
section
/-! THE SMALL MACHINE. Its heap: a list of shapes (an object of a kind, or an array of a kind and a length), the ints of each cell, the references of each cell. Cells 0 to 3 are read-only arrays of ints (the script, the statics), the others lie in the real heap one behind another from 'base' on. 'mGo' says of a frame at a place that the real machine goes from there to the frame's end with an outcome. -/
abbrev mShp : Type := Nat ⊕ (Nat × Nat)
abbrev mHp : Type := List mShp × (Nat → Nat → Int32) × (Nat → Nat → Option Nat)
abbrev mLs : Type := List (Option Value)
abbrev mSt : Type := Nat × mLs × List Value × mHp
abbrev mOut : Type := Option Value × mHp
abbrev mM : Type := String × ByteArray × Nat × Option FieldType × Bool
def mad (base : Nat) (spa : Nat → Nat) (j : Nat) : Nat := if j < 4 then spa j else base + (j - 4)
def mtv (base : Nat) (spa : Nat → Nat) (v : Value) : Value := match v with
  | .ref j => .ref (mad base spa j)
  | v => v
theorem mtv_cat (base : Nat) (spa : Nat → Nat) (v : Value) : (mtv base spa v).category = v.category := by cases v <;> rfl
theorem mad_hi {base : Nat} {spa : Nat → Nat} {j : Nat} (h : 4 ≤ j) : mad base spa j = base + (j - 4) := if_neg (by omega)
theorem mad_lo {base : Nat} {spa : Nat → Nat} {j : Nat} (h : j < 4) : mad base spa j = spa j := if_pos h
def mfv (ty : FieldType) (i : Int32) (r : Option Nat) : Value := match ty with
  | .int => .int i
  | .boolean => .int i
  | _ => va_rf r
def mce (base : Nat) (spa : Nat → Nat) (cm : Nat → ClassId) (F : Nat → Nat → Int32) (R : Nat → Nat → Option Nat) (j : Nat) (s : mShp) : va_E := match s with
  | .inl ci => .inr (ci, (List.range (mN ci)).map (fun k => mtv base spa (mfv (mty ci k) (F j k) (R j k))))
  | .inr (t, n) => if t = 2 then .inl (cm 2, n, .inr (.inr (.inr (.inr (fun i => (R j i).map (mad base spa)))))) else .inl (cm t, n, .inl (F j))
def mW (base : Nat) (spa : Nat → Nat) (cm : Nat → ClassId) (hp : mHp) : va_W := (List.range (hp.1.length - 4)).map (fun k => (base + k, mce base spa cm hp.2.1 hp.2.2 (k + 4) (hp.1.getD (k + 4) (.inl 0))))
theorem mce_congr {base : Nat} {spa : Nat → Nat} {cm : Nat → ClassId} {F F' : Nat → Nat → Int32} {R R' : Nat → Nat → Option Nat} {j : Nat} {s : mShp} (hF : F' j = F j) (hR : R' j = R j) : mce base spa cm F' R' j s = mce base spa cm F R j s := by
  cases s with
  | inl ci => simp [mce, hF, hR]
  | inr q => obtain ⟨t, n⟩ := q; simp [mce, hF, hR]
theorem mW_len {base : Nat} {spa : Nat → Nat} {cm : Nat → ClassId} {hp : mHp} : (mW base spa cm hp).length = hp.1.length - 4 := by simp [mW]
theorem mW_at {base : Nat} {spa : Nat → Nat} {cm : Nat → ClassId} {hp : mHp} {k : Nat} {q : Nat × va_E} (h : (mW base spa cm hp)[k]? = some q) : k < hp.1.length - 4 ∧ q.1 = base + k := by
  have hk : k < hp.1.length - 4 := by
    have := (List.getElem?_eq_some_iff.mp h).1
    rwa [mW_len] at this
  refine ⟨hk, ?_⟩
  rw [mW, List.getElem?_map, List.getElem?_range hk] at h
  cases h
  rfl
theorem mW_get {base : Nat} {spa : Nat → Nat} {cm : Nat → ClassId} {hp : mHp} {j : Nat} {s : mShp} (h4 : 4 ≤ j) (h : hp.1[j]? = some s) : (mW base spa cm hp)[j - 4]? = some (base + (j - 4), mce base spa cm hp.2.1 hp.2.2 j s) := by
  have hj : j < hp.1.length := (List.getElem?_eq_some_iff.mp h).1
  rw [mW, List.getElem?_map, List.getElem?_range (by omega)]
  have e : j - 4 + 4 = j := by omega
  simp only [Option.map_some, e, List.getD_eq_getElem?_getD, h, Option.getD_some]
theorem mW_D {base : Nat} {spa : Nat → Nat} {cm : Nat → ClassId} {hp : mHp} : va_D (fun q => base ≤ q) (mW base spa cm hp) := by
  refine ⟨fun i j p q hi hj hpq => ?_, fun k q hk => ?_⟩
  · have h1 := (mW_at hi).2
    have h2 := (mW_at hj).2
    omega
  · have h1 := (mW_at hk).2
    omega
theorem mW_upd {base : Nat} {spa : Nat → Nat} {cm : Nat → ClassId} {sh : List mShp} {F F' : Nat → Nat → Int32} {R R' : Nat → Nat → Option Nat} {j : Nat} {s : mShp} (h4 : 4 ≤ j) (hs : sh[j]? = some s) (hF : ∀ a, a ≠ j → F' a = F a) (hR : ∀ a, a ≠ j → R' a = R a) : mW base spa cm (sh, F', R') = (mW base spa cm (sh, F, R)).set (j - 4) (base + (j - 4), mce base spa cm F' R' j s) := by
  have hj : j < sh.length := (List.getElem?_eq_some_iff.mp hs).1
  apply List.ext_getElem?
  intro k
  by_cases hk : k = j - 4
  · subst hk
    rw [mW_get h4 (hp := (sh, F', R')) hs, List.getElem?_set_self (by rw [mW_len]; show j - 4 < sh.length - 4; omega)]
  · rw [List.getElem?_set_ne (Ne.symm hk)]
    by_cases hl : k < sh.length - 4
    · simp only [mW, List.getElem?_map, List.getElem?_range hl, Option.map_some]
      rw [mce_congr (hF _ (by omega)) (hR _ (by omega))]
    · rw [List.getElem?_eq_none (by rw [mW_len]; show sh.length - 4 ≤ k; omega), List.getElem?_eq_none (by rw [mW_len]; show sh.length - 4 ≤ k; omega)]
theorem mW_push {base : Nat} {spa : Nat → Nat} {cm : Nat → ClassId} {sh : List mShp} {F F' : Nat → Nat → Int32} {R R' : Nat → Nat → Option Nat} {s : mShp} (h4 : 4 ≤ sh.length) (hF : ∀ a, a ≠ sh.length → F' a = F a) (hR : ∀ a, a ≠ sh.length → R' a = R a) : mW base spa cm (sh ++ [s], F', R') = mW base spa cm (sh, F, R) ++ [(base + (sh.length - 4), mce base spa cm F' R' sh.length s)] := by
  apply List.ext_getElem?
  intro k
  by_cases hk : k < sh.length - 4
  · rw [List.getElem?_append_left (by rw [mW_len]; exact hk)]
    simp only [mW, List.length_append, List.length_singleton, List.getElem?_map]
    rw [List.getElem?_range (by omega), List.getElem?_range hk]
    simp only [Option.map_some, List.getD_eq_getElem?_getD]
    rw [List.getElem?_append_left (by omega), mce_congr (hF _ (by omega)) (hR _ (by omega))]
  · rw [List.getElem?_append_right (by rw [mW_len]; show sh.length - 4 ≤ k; omega), mW_len]
    show _ = [_][k - (sh.length - 4)]?
    by_cases hk2 : k = sh.length - 4
    · subst hk2
      rw [Nat.sub_self]
      have e := mW_get (base := base) (spa := spa) (cm := cm) (hp := (sh ++ [s], F', R')) (j := sh.length) (s := s) h4 (by simp)
      exact e
    · rw [List.getElem?_eq_none (by rw [mW_len]; show (sh ++ [s]).length - 4 ≤ k; simp; omega), List.getElem?_eq_none (by simp; omega)]
def mSz (sh : List mShp) : Nat := (sh.map (fun s => match s with | .inl ci => mN ci | .inr (_, n) => n)).sum
theorem mSz_push (sh : List mShp) (s : mShp) : mSz (sh ++ [s]) = mSz sh + (match s with | .inl ci => mN ci | .inr (_, n) => n) := by simp [mSz]
def mD (base : Nat) (spa spn : Nat → Nat) (spf : Nat → Nat → Int32) (cm : Nat → ClassId) (D : va_G) (hp : mHp) (H : Heap) : Prop :=
  4 ≤ hp.1.length ∧ H.size = base + (hp.1.length - 4) ∧ va_P D mcl (mW base spa cm hp) H ∧ ∀ j, j < 4 → hp.1[j]? = some (.inr (3, spn j)) ∧ hp.2.1 j = spf j
def mSN (j : Nat) : String := match j with
  | 0 => "FIRST_SETTINGS"
  | 1 => "HIGHEST_SETTINGS"
  | _ => "MEANING_BY_COMPANY"
abbrev mtys (cm : Nat → ClassId) : List (ClassId × FieldType) := [(cm 0, .int), (cm 1, .boolean), (cm 2, .object RX4)]
def mSta (base : Nat) (spa spn : Nat → Nat) (spf : Nat → Nat → Int32) (cm : Nat → ClassId) (D : va_G) (U : State) (H0 : Heap) : Prop :=
  va_K D mcl (mtys cm) U ∧ (∀ w ∈ mNW, va_Nw w U) ∧ va_AO RX4 U ∧ base ≤ H0.size ∧ (∀ j, j < 4 → spa j < base ∧ va_X (spa j) (spn j) (spf j) U H0) ∧ (∀ j, j < 3 → va_Z RX6 (mSN j) "[I" (.ref (spa (j + 1))) (fun q => base ≤ q) U H0) ∧ ∃ scr : Cell, H0[spa 1]? = some scr ∧ scr.cls = cm 0
def mX (base : Nat) (spa spn : Nat → Nat) (spf : Nat → Nat → Int32) (cm : Nat → ClassId) (D : va_G) (M : mM) (p : Program) (s : State) (m : MethodId) (args : Array Value) (meth : Method) (c : Code) : Prop :=
  p.tables.exec = Jvm.exec ∧ c.code = M.2.1 ∧ meth.sig.returnType = M.2.2.2.1 ∧ c.maxLocals = M.2.2.1 ∧ s.vm.findClass M.1 = some m.cls ∧ meth.locks = false ∧ (M.2.2.2.2 = true → meth.name = "<init>") ∧ (∀ w ∈ mGW, w.before args s = true) ∧ mSta base spa spn spf cm D s s.heap
def mh (base : Nat) (spa : Nat → Nat) (ls : Array Slot) (nL : Nat) (L : mLs) : Prop := ls.size = nL ∧ lv_wf ls ∧ ∀ (i : Nat) (v : Value), L[i]? = some (some v) → ls[i]? = some (.val (mtv base spa v))
def mRi (cc : ByteArray) (pc : Nat) (r : Option Value) : Prop := match r with
  | none => decode cc pc = .ok (.return_, 1)
  | some (.int _) => decode cc pc = .ok (.ireturn, 1)
  | some (.long _) => decode cc pc = .ok (.lreturn, 1)
  | _ => False
def mGo (M : mM) (d : Nat) (σ : mSt) (out : mOut) : Prop :=
  (σ.2.2.2.1.length ≤ out.2.1.length ∧ mSz σ.2.2.2.1 ≤ mSz out.2.1) ∧
  ∀ (base : Nat) (spa spn : Nat → Nat) (spf : Nat → Nat → Int32) (cm : Nat → ClassId) (D : va_G) (p : Program) (l : Launch) (e : Env) (R : Room) (s : State) (m : MethodId) (args : Array Value) (below : List Frame) (meth : Method) (c : Code) (Q : State → Prop) (cE sE : Nat) (H : Heap) (locs : List Loc) (cells slots : Nat) (ls : Array Slot),
    mX base spa spn spf cm D M p s m args meth c → d ≤ R.frames → 40 * d ≤ R.locals → cE ≤ R.cells → sE ≤ R.slots →
    (∀ (H1 : Heap) (locs1 : List Loc) (pc1 : Nat) (ls1 : Array Slot), mRi M.2.1 pc1 out.1 → mD base spa spn spf cm D out.2 H1 → va_S (fun q => base ≤ q) s.heap H1 locs1 → W p l e R s m args below meth c H1 locs1 cE sE Q (F0 m pc1 ls1 out.1.toList)) →
    cells + out.2.1.length = cE + σ.2.2.2.1.length → slots + mSz out.2.1 = sE + mSz σ.2.2.2.1 →
    mD base spa spn spf cm D σ.2.2.2 H → va_S (fun q => base ≤ q) s.heap H locs → mh base spa ls M.2.2.1 σ.2.1 →
    W p l e R s m args below meth c H locs cells slots Q (F0 m σ.1 ls (σ.2.2.1.map (mtv base spa)))
theorem g_iconst {M : mM} {d pc : Nat} {L : mLs} {st : List Value} {hp : mHp} {out : mOut} {n : Int} (hd : decode M.2.1 pc = .ok (.iconst n, 1))  (k : mGo M d (pc + 1, L, .int (Int32.ofInt n) :: st, hp) out) : mGo M d (pc, L, st, hp) out := by
  refine ⟨k.1, ?_⟩
  intro base spa spn spf cm D p l e R s m args below meth c Q cE sE H locs cells slots ls hX hfr hlo hcE hsE hK hc hs hD hS hL
  have hx := hX.1
  have hb := hX.2.1
  refine lv_iconst hx hb hd rfl ?_
  exact k.2 base spa spn spf cm D p l e R s m args below meth c Q cE sE H locs cells slots ls hX hfr hlo hcE hsE hK hc hs hD hS hL
theorem g_bipush {M : mM} {d pc : Nat} {L : mLs} {st : List Value} {hp : mHp} {out : mOut} {n : Int} (hd : decode M.2.1 pc = .ok (.bipush n, 2))  (k : mGo M d (pc + 2, L, .int (Int8.ofInt n).toInt32 :: st, hp) out) : mGo M d (pc, L, st, hp) out := by
  refine ⟨k.1, ?_⟩
  intro base spa spn spf cm D p l e R s m args below meth c Q cE sE H locs cells slots ls hX hfr hlo hcE hsE hK hc hs hD hS hL
  have hx := hX.1
  have hb := hX.2.1
  refine lv_bipush hx hb hd rfl ?_
  exact k.2 base spa spn spf cm D p l e R s m args below meth c Q cE sE H locs cells slots ls hX hfr hlo hcE hsE hK hc hs hD hS hL
theorem g_sipush {M : mM} {d pc : Nat} {L : mLs} {st : List Value} {hp : mHp} {out : mOut} {n : Int} (hd : decode M.2.1 pc = .ok (.sipush n, 3))  (k : mGo M d (pc + 3, L, .int (Int16.ofInt n).toInt32 :: st, hp) out) : mGo M d (pc, L, st, hp) out := by
  refine ⟨k.1, ?_⟩
  intro base spa spn spf cm D p l e R s m args below meth c Q cE sE H locs cells slots ls hX hfr hlo hcE hsE hK hc hs hD hS hL
  have hx := hX.1
  have hb := hX.2.1
  refine lv_sipush hx hb hd rfl ?_
  exact k.2 base spa spn spf cm D p l e R s m args below meth c Q cE sE H locs cells slots ls hX hfr hlo hcE hsE hK hc hs hD hS hL
theorem g_lconst {M : mM} {d pc : Nat} {L : mLs} {st : List Value} {hp : mHp} {out : mOut} {n : Fin 2} (hd : decode M.2.1 pc = .ok (.lconst n, 1))  (k : mGo M d (pc + 1, L, .long (Int64.ofNat (n : Nat)) :: st, hp) out) : mGo M d (pc, L, st, hp) out := by
  refine ⟨k.1, ?_⟩
  intro base spa spn spf cm D p l e R s m args below meth c Q cE sE H locs cells slots ls hX hfr hlo hcE hsE hK hc hs hD hS hL
  have hx := hX.1
  have hb := hX.2.1
  refine lv_lconst hx hb hd rfl ?_
  exact k.2 base spa spn spf cm D p l e R s m args below meth c Q cE sE H locs cells slots ls hX hfr hlo hcE hsE hK hc hs hD hS hL
theorem g_iconstv {M : mM} {d pc : Nat} {L : mLs} {st : List Value} {hp : mHp} {out : mOut} {n : Int} (hd : decode M.2.1 pc = .ok (.iconst n, 1)) {v : Int32} (hv : Int32.ofInt n = v) (k : mGo M d (pc + 1, L, .int v :: st, hp) out) : mGo M d (pc, L, st, hp) out := by
  refine ⟨k.1, ?_⟩
  intro base spa spn spf cm D p l e R s m args below meth c Q cE sE H locs cells slots ls hX hfr hlo hcE hsE hK hc hs hD hS hL
  have hx := hX.1
  have hb := hX.2.1
  refine lv_iconst hx hb hd hv ?_
  exact k.2 base spa spn spf cm D p l e R s m args below meth c Q cE sE H locs cells slots ls hX hfr hlo hcE hsE hK hc hs hD hS hL
theorem g_bipushv {M : mM} {d pc : Nat} {L : mLs} {st : List Value} {hp : mHp} {out : mOut} {n : Int} (hd : decode M.2.1 pc = .ok (.bipush n, 2)) {v : Int32} (hv : (Int8.ofInt n).toInt32 = v) (k : mGo M d (pc + 2, L, .int v :: st, hp) out) : mGo M d (pc, L, st, hp) out := by
  refine ⟨k.1, ?_⟩
  intro base spa spn spf cm D p l e R s m args below meth c Q cE sE H locs cells slots ls hX hfr hlo hcE hsE hK hc hs hD hS hL
  have hx := hX.1
  have hb := hX.2.1
  refine lv_bipush hx hb hd hv ?_
  exact k.2 base spa spn spf cm D p l e R s m args below meth c Q cE sE H locs cells slots ls hX hfr hlo hcE hsE hK hc hs hD hS hL
theorem g_sipushv {M : mM} {d pc : Nat} {L : mLs} {st : List Value} {hp : mHp} {out : mOut} {n : Int} (hd : decode M.2.1 pc = .ok (.sipush n, 3)) {v : Int32} (hv : (Int16.ofInt n).toInt32 = v) (k : mGo M d (pc + 3, L, .int v :: st, hp) out) : mGo M d (pc, L, st, hp) out := by
  refine ⟨k.1, ?_⟩
  intro base spa spn spf cm D p l e R s m args below meth c Q cE sE H locs cells slots ls hX hfr hlo hcE hsE hK hc hs hD hS hL
  have hx := hX.1
  have hb := hX.2.1
  refine lv_sipush hx hb hd hv ?_
  exact k.2 base spa spn spf cm D p l e R s m args below meth c Q cE sE H locs cells slots ls hX hfr hlo hcE hsE hK hc hs hD hS hL
theorem g_iadd {M : mM} {d pc : Nat} {L : mLs} {st : List Value} {hp : mHp} {out : mOut} {x y : Int32} (hd : decode M.2.1 pc = .ok (.iadd, 1))  (k : mGo M d (pc + 1, L, .int (x + y) :: st, hp) out) : mGo M d (pc, L, .int y :: .int x :: st, hp) out := by
  refine ⟨k.1, ?_⟩
  intro base spa spn spf cm D p l e R s m args below meth c Q cE sE H locs cells slots ls hX hfr hlo hcE hsE hK hc hs hD hS hL
  have hx := hX.1
  have hb := hX.2.1
  refine lv_iadd hx hb hd ?_
  exact k.2 base spa spn spf cm D p l e R s m args below meth c Q cE sE H locs cells slots ls hX hfr hlo hcE hsE hK hc hs hD hS hL
theorem g_isub {M : mM} {d pc : Nat} {L : mLs} {st : List Value} {hp : mHp} {out : mOut} {x y : Int32} (hd : decode M.2.1 pc = .ok (.isub, 1))  (k : mGo M d (pc + 1, L, .int (x - y) :: st, hp) out) : mGo M d (pc, L, .int y :: .int x :: st, hp) out := by
  refine ⟨k.1, ?_⟩
  intro base spa spn spf cm D p l e R s m args below meth c Q cE sE H locs cells slots ls hX hfr hlo hcE hsE hK hc hs hD hS hL
  have hx := hX.1
  have hb := hX.2.1
  refine lv_isub hx hb hd ?_
  exact k.2 base spa spn spf cm D p l e R s m args below meth c Q cE sE H locs cells slots ls hX hfr hlo hcE hsE hK hc hs hD hS hL
theorem g_imul {M : mM} {d pc : Nat} {L : mLs} {st : List Value} {hp : mHp} {out : mOut} {x y : Int32} (hd : decode M.2.1 pc = .ok (.imul, 1))  (k : mGo M d (pc + 1, L, .int (x * y) :: st, hp) out) : mGo M d (pc, L, .int y :: .int x :: st, hp) out := by
  refine ⟨k.1, ?_⟩
  intro base spa spn spf cm D p l e R s m args below meth c Q cE sE H locs cells slots ls hX hfr hlo hcE hsE hK hc hs hD hS hL
  have hx := hX.1
  have hb := hX.2.1
  refine lv_imul hx hb hd ?_
  exact k.2 base spa spn spf cm D p l e R s m args below meth c Q cE sE H locs cells slots ls hX hfr hlo hcE hsE hK hc hs hD hS hL
theorem g_iand {M : mM} {d pc : Nat} {L : mLs} {st : List Value} {hp : mHp} {out : mOut} {x y : Int32} (hd : decode M.2.1 pc = .ok (.iand, 1))  (k : mGo M d (pc + 1, L, .int (x &&& y) :: st, hp) out) : mGo M d (pc, L, .int y :: .int x :: st, hp) out := by
  refine ⟨k.1, ?_⟩
  intro base spa spn spf cm D p l e R s m args below meth c Q cE sE H locs cells slots ls hX hfr hlo hcE hsE hK hc hs hD hS hL
  have hx := hX.1
  have hb := hX.2.1
  refine lv_iand hx hb hd ?_
  exact k.2 base spa spn spf cm D p l e R s m args below meth c Q cE sE H locs cells slots ls hX hfr hlo hcE hsE hK hc hs hD hS hL
theorem g_ior {M : mM} {d pc : Nat} {L : mLs} {st : List Value} {hp : mHp} {out : mOut} {x y : Int32} (hd : decode M.2.1 pc = .ok (.ior, 1))  (k : mGo M d (pc + 1, L, .int (x ||| y) :: st, hp) out) : mGo M d (pc, L, .int y :: .int x :: st, hp) out := by
  refine ⟨k.1, ?_⟩
  intro base spa spn spf cm D p l e R s m args below meth c Q cE sE H locs cells slots ls hX hfr hlo hcE hsE hK hc hs hD hS hL
  have hx := hX.1
  have hb := hX.2.1
  refine lv_ior hx hb hd ?_
  exact k.2 base spa spn spf cm D p l e R s m args below meth c Q cE sE H locs cells slots ls hX hfr hlo hcE hsE hK hc hs hD hS hL
theorem g_ixor {M : mM} {d pc : Nat} {L : mLs} {st : List Value} {hp : mHp} {out : mOut} {x y : Int32} (hd : decode M.2.1 pc = .ok (.ixor, 1))  (k : mGo M d (pc + 1, L, .int (x ^^^ y) :: st, hp) out) : mGo M d (pc, L, .int y :: .int x :: st, hp) out := by
  refine ⟨k.1, ?_⟩
  intro base spa spn spf cm D p l e R s m args below meth c Q cE sE H locs cells slots ls hX hfr hlo hcE hsE hK hc hs hD hS hL
  have hx := hX.1
  have hb := hX.2.1
  refine lv_ixor hx hb hd ?_
  exact k.2 base spa spn spf cm D p l e R s m args below meth c Q cE sE H locs cells slots ls hX hfr hlo hcE hsE hK hc hs hD hS hL
theorem g_ishl {M : mM} {d pc : Nat} {L : mLs} {st : List Value} {hp : mHp} {out : mOut} {x y : Int32} (hd : decode M.2.1 pc = .ok (.ishl, 1))  (k : mGo M d (pc + 1, L, .int (x <<< (y &&& 31)) :: st, hp) out) : mGo M d (pc, L, .int y :: .int x :: st, hp) out := by
  refine ⟨k.1, ?_⟩
  intro base spa spn spf cm D p l e R s m args below meth c Q cE sE H locs cells slots ls hX hfr hlo hcE hsE hK hc hs hD hS hL
  have hx := hX.1
  have hb := hX.2.1
  refine lv_ishl hx hb hd ?_
  exact k.2 base spa spn spf cm D p l e R s m args below meth c Q cE sE H locs cells slots ls hX hfr hlo hcE hsE hK hc hs hD hS hL
theorem g_ishr {M : mM} {d pc : Nat} {L : mLs} {st : List Value} {hp : mHp} {out : mOut} {x y : Int32} (hd : decode M.2.1 pc = .ok (.ishr, 1))  (k : mGo M d (pc + 1, L, .int (x >>> (y &&& 31)) :: st, hp) out) : mGo M d (pc, L, .int y :: .int x :: st, hp) out := by
  refine ⟨k.1, ?_⟩
  intro base spa spn spf cm D p l e R s m args below meth c Q cE sE H locs cells slots ls hX hfr hlo hcE hsE hK hc hs hD hS hL
  have hx := hX.1
  have hb := hX.2.1
  refine lv_ishr hx hb hd ?_
  exact k.2 base spa spn spf cm D p l e R s m args below meth c Q cE sE H locs cells slots ls hX hfr hlo hcE hsE hK hc hs hD hS hL
theorem g_iushr {M : mM} {d pc : Nat} {L : mLs} {st : List Value} {hp : mHp} {out : mOut} {x y : Int32} (hd : decode M.2.1 pc = .ok (.iushr, 1))  (k : mGo M d (pc + 1, L, .int (x.toUInt32 >>> (y.toUInt32 &&& Int32.toUInt32 31)).toInt32 :: st, hp) out) : mGo M d (pc, L, .int y :: .int x :: st, hp) out := by
  refine ⟨k.1, ?_⟩
  intro base spa spn spf cm D p l e R s m args below meth c Q cE sE H locs cells slots ls hX hfr hlo hcE hsE hK hc hs hD hS hL
  have hx := hX.1
  have hb := hX.2.1
  refine lv_iushr hx hb hd rfl ?_
  exact k.2 base spa spn spf cm D p l e R s m args below meth c Q cE sE H locs cells slots ls hX hfr hlo hcE hsE hK hc hs hD hS hL
theorem g_idiv {M : mM} {d pc : Nat} {L : mLs} {st : List Value} {hp : mHp} {out : mOut} {x y : Int32} (hd : decode M.2.1 pc = .ok (.idiv, 1)) (hne : ¬ y = 0) (k : mGo M d (pc + 1, L, .int (x / y) :: st, hp) out) : mGo M d (pc, L, .int y :: .int x :: st, hp) out := by
  refine ⟨k.1, ?_⟩
  intro base spa spn spf cm D p l e R s m args below meth c Q cE sE H locs cells slots ls hX hfr hlo hcE hsE hK hc hs hD hS hL
  have hx := hX.1
  have hb := hX.2.1
  refine lv_idiv hx hb hd hne ?_
  exact k.2 base spa spn spf cm D p l e R s m args below meth c Q cE sE H locs cells slots ls hX hfr hlo hcE hsE hK hc hs hD hS hL
theorem g_irem {M : mM} {d pc : Nat} {L : mLs} {st : List Value} {hp : mHp} {out : mOut} {x y : Int32} (hd : decode M.2.1 pc = .ok (.irem, 1)) (hne : ¬ y = 0) (k : mGo M d (pc + 1, L, .int (x - x / y * y) :: st, hp) out) : mGo M d (pc, L, .int y :: .int x :: st, hp) out := by
  refine ⟨k.1, ?_⟩
  intro base spa spn spf cm D p l e R s m args below meth c Q cE sE H locs cells slots ls hX hfr hlo hcE hsE hK hc hs hD hS hL
  have hx := hX.1
  have hb := hX.2.1
  refine lv_irem hx hb hd hne ?_
  exact k.2 base spa spn spf cm D p l e R s m args below meth c Q cE sE H locs cells slots ls hX hfr hlo hcE hsE hK hc hs hD hS hL
theorem g_ladd {M : mM} {d pc : Nat} {L : mLs} {st : List Value} {hp : mHp} {out : mOut} {x y : Int64} (hd : decode M.2.1 pc = .ok (.ladd, 1))  (k : mGo M d (pc + 1, L, .long (x + y) :: st, hp) out) : mGo M d (pc, L, .long y :: .long x :: st, hp) out := by
  refine ⟨k.1, ?_⟩
  intro base spa spn spf cm D p l e R s m args below meth c Q cE sE H locs cells slots ls hX hfr hlo hcE hsE hK hc hs hD hS hL
  have hx := hX.1
  have hb := hX.2.1
  refine lv_ladd hx hb hd ?_
  exact k.2 base spa spn spf cm D p l e R s m args below meth c Q cE sE H locs cells slots ls hX hfr hlo hcE hsE hK hc hs hD hS hL
theorem g_lmul {M : mM} {d pc : Nat} {L : mLs} {st : List Value} {hp : mHp} {out : mOut} {x y : Int64} (hd : decode M.2.1 pc = .ok (.lmul, 1))  (k : mGo M d (pc + 1, L, .long (x * y) :: st, hp) out) : mGo M d (pc, L, .long y :: .long x :: st, hp) out := by
  refine ⟨k.1, ?_⟩
  intro base spa spn spf cm D p l e R s m args below meth c Q cE sE H locs cells slots ls hX hfr hlo hcE hsE hK hc hs hD hS hL
  have hx := hX.1
  have hb := hX.2.1
  refine lv_lmul hx hb hd ?_
  exact k.2 base spa spn spf cm D p l e R s m args below meth c Q cE sE H locs cells slots ls hX hfr hlo hcE hsE hK hc hs hD hS hL
theorem g_land {M : mM} {d pc : Nat} {L : mLs} {st : List Value} {hp : mHp} {out : mOut} {x y : Int64} (hd : decode M.2.1 pc = .ok (.land, 1))  (k : mGo M d (pc + 1, L, .long (x &&& y) :: st, hp) out) : mGo M d (pc, L, .long y :: .long x :: st, hp) out := by
  refine ⟨k.1, ?_⟩
  intro base spa spn spf cm D p l e R s m args below meth c Q cE sE H locs cells slots ls hX hfr hlo hcE hsE hK hc hs hD hS hL
  have hx := hX.1
  have hb := hX.2.1
  refine lv_land hx hb hd ?_
  exact k.2 base spa spn spf cm D p l e R s m args below meth c Q cE sE H locs cells slots ls hX hfr hlo hcE hsE hK hc hs hD hS hL
theorem g_lor {M : mM} {d pc : Nat} {L : mLs} {st : List Value} {hp : mHp} {out : mOut} {x y : Int64} (hd : decode M.2.1 pc = .ok (.lor, 1))  (k : mGo M d (pc + 1, L, .long (x ||| y) :: st, hp) out) : mGo M d (pc, L, .long y :: .long x :: st, hp) out := by
  refine ⟨k.1, ?_⟩
  intro base spa spn spf cm D p l e R s m args below meth c Q cE sE H locs cells slots ls hX hfr hlo hcE hsE hK hc hs hD hS hL
  have hx := hX.1
  have hb := hX.2.1
  refine lv_lor hx hb hd ?_
  exact k.2 base spa spn spf cm D p l e R s m args below meth c Q cE sE H locs cells slots ls hX hfr hlo hcE hsE hK hc hs hD hS hL
theorem g_i2l {M : mM} {d pc : Nat} {L : mLs} {st : List Value} {hp : mHp} {out : mOut} {x : Int32} (hd : decode M.2.1 pc = .ok (.i2l, 1))  (k : mGo M d (pc + 1, L, .long x.toInt64 :: st, hp) out) : mGo M d (pc, L, .int x :: st, hp) out := by
  refine ⟨k.1, ?_⟩
  intro base spa spn spf cm D p l e R s m args below meth c Q cE sE H locs cells slots ls hX hfr hlo hcE hsE hK hc hs hD hS hL
  have hx := hX.1
  have hb := hX.2.1
  refine lv_i2l hx hb hd rfl ?_
  exact k.2 base spa spn spf cm D p l e R s m args below meth c Q cE sE H locs cells slots ls hX hfr hlo hcE hsE hK hc hs hD hS hL
theorem g_l2i {M : mM} {d pc : Nat} {L : mLs} {st : List Value} {hp : mHp} {out : mOut} {x : Int64} (hd : decode M.2.1 pc = .ok (.l2i, 1))  (k : mGo M d (pc + 1, L, .int x.toInt32 :: st, hp) out) : mGo M d (pc, L, .long x :: st, hp) out := by
  refine ⟨k.1, ?_⟩
  intro base spa spn spf cm D p l e R s m args below meth c Q cE sE H locs cells slots ls hX hfr hlo hcE hsE hK hc hs hD hS hL
  have hx := hX.1
  have hb := hX.2.1
  refine lv_l2i hx hb hd rfl ?_
  exact k.2 base spa spn spf cm D p l e R s m args below meth c Q cE sE H locs cells slots ls hX hfr hlo hcE hsE hK hc hs hD hS hL
theorem g_lushr {M : mM} {d pc : Nat} {L : mLs} {st : List Value} {hp : mHp} {out : mOut} {x : Int64} {y : Int32} (hd : decode M.2.1 pc = .ok (.lushr, 1))  (k : mGo M d (pc + 1, L, .long (x.toUInt64 >>> (y.toInt64.toUInt64 &&& Int64.toUInt64 63)).toInt64 :: st, hp) out) : mGo M d (pc, L, .int y :: .long x :: st, hp) out := by
  refine ⟨k.1, ?_⟩
  intro base spa spn spf cm D p l e R s m args below meth c Q cE sE H locs cells slots ls hX hfr hlo hcE hsE hK hc hs hD hS hL
  have hx := hX.1
  have hb := hX.2.1
  refine lv_lushr hx hb hd rfl ?_
  exact k.2 base spa spn spf cm D p l e R s m args below meth c Q cE sE H locs cells slots ls hX hfr hlo hcE hsE hK hc hs hD hS hL
theorem g_lshl {M : mM} {d pc : Nat} {L : mLs} {st : List Value} {hp : mHp} {out : mOut} {x : Int64} {y : Int32} (hd : decode M.2.1 pc = .ok (.lshl, 1))  (k : mGo M d (pc + 1, L, .long (x <<< (y.toInt64 &&& 63)) :: st, hp) out) : mGo M d (pc, L, .int y :: .long x :: st, hp) out := by
  refine ⟨k.1, ?_⟩
  intro base spa spn spf cm D p l e R s m args below meth c Q cE sE H locs cells slots ls hX hfr hlo hcE hsE hK hc hs hD hS hL
  have hx := hX.1
  have hb := hX.2.1
  refine lv_lshl hx hb hd rfl ?_
  exact k.2 base spa spn spf cm D p l e R s m args below meth c Q cE sE H locs cells slots ls hX hfr hlo hcE hsE hK hc hs hD hS hL
theorem g_lshr {M : mM} {d pc : Nat} {L : mLs} {st : List Value} {hp : mHp} {out : mOut} {x : Int64} {y : Int32} (hd : decode M.2.1 pc = .ok (.lshr, 1))  (k : mGo M d (pc + 1, L, .long (x >>> (y.toInt64 &&& 63)) :: st, hp) out) : mGo M d (pc, L, .int y :: .long x :: st, hp) out := by
  refine ⟨k.1, ?_⟩
  intro base spa spn spf cm D p l e R s m args below meth c Q cE sE H locs cells slots ls hX hfr hlo hcE hsE hK hc hs hD hS hL
  have hx := hX.1
  have hb := hX.2.1
  refine lv_lshr hx hb hd rfl ?_
  exact k.2 base spa spn spf cm D p l e R s m args below meth c Q cE sE H locs cells slots ls hX hfr hlo hcE hsE hK hc hs hD hS hL
theorem g_dup {M : mM} {d pc : Nat} {L : mLs} {st : List Value} {hp : mHp} {out : mOut} {v : Value} (hd : decode M.2.1 pc = .ok (.dup, 1)) (hv : v.category = 1) (k : mGo M d (pc + 1, L, v :: v :: st, hp) out) : mGo M d (pc, L, v :: st, hp) out := by
  refine ⟨k.1, ?_⟩
  intro base spa spn spf cm D p l e R s m args below meth c Q cE sE H locs cells slots ls hX hfr hlo hcE hsE hK hc hs hD hS hL
  have hx := hX.1
  have hb := hX.2.1
  refine lv_dup hx hb hd (by rw [mtv_cat]; exact hv) ?_
  exact k.2 base spa spn spf cm D p l e R s m args below meth c Q cE sE H locs cells slots ls hX hfr hlo hcE hsE hK hc hs hD hS hL
theorem g_pop {M : mM} {d pc : Nat} {L : mLs} {st : List Value} {hp : mHp} {out : mOut} {v : Value} (hd : decode M.2.1 pc = .ok (.pop, 1)) (hv : v.category = 1) (k : mGo M d (pc + 1, L, st, hp) out) : mGo M d (pc, L, v :: st, hp) out := by
  refine ⟨k.1, ?_⟩
  intro base spa spn spf cm D p l e R s m args below meth c Q cE sE H locs cells slots ls hX hfr hlo hcE hsE hK hc hs hD hS hL
  have hx := hX.1
  have hb := hX.2.1
  refine lv_pop hx hb hd (by rw [mtv_cat]; exact hv) ?_
  exact k.2 base spa spn spf cm D p l e R s m args below meth c Q cE sE H locs cells slots ls hX hfr hlo hcE hsE hK hc hs hD hS hL
theorem g_dup2 {M : mM} {d pc : Nat} {L : mLs} {st : List Value} {hp : mHp} {out : mOut} {v w : Value} (hd : decode M.2.1 pc = .ok (.dup2, 1)) (hv : v.category = 1) (hw : w.category = 1) (k : mGo M d (pc + 1, L, v :: w :: v :: w :: st, hp) out) : mGo M d (pc, L, v :: w :: st, hp) out := by
  refine ⟨k.1, ?_⟩
  intro base spa spn spf cm D p l e R s m args below meth c Q cE sE H locs cells slots ls hX hfr hlo hcE hsE hK hc hs hD hS hL
  have hx := hX.1
  have hb := hX.2.1
  refine lv_dup2_11 hx hb hd (by rw [mtv_cat]; exact hv) (by rw [mtv_cat]; exact hw) ?_
  exact k.2 base spa spn spf cm D p l e R s m args below meth c Q cE sE H locs cells slots ls hX hfr hlo hcE hsE hK hc hs hD hS hL
theorem g_ldcw {M : mM} {d pc : Nat} {L : mLs} {st : List Value} {hp : mHp} {out : mOut} {i : Nat} {v : Int32} (hd : decode M.2.1 pc = .ok (.ldc_w i, 3)) (hw : Cond.constant M.1 i v ∈ mGW) (k : mGo M d (pc + 3, L, .int v :: st, hp) out) : mGo M d (pc, L, st, hp) out := by
  refine ⟨k.1, ?_⟩
  intro base spa spn spf cm D p l e R s m args below meth c Q cE sE H locs cells slots ls hX hfr hlo hcE hsE hK hc hs hD hS hL
  have hx := hX.1
  have hb := hX.2.1
  refine lv_ldcw hx hb hX.2.2.2.2.1 (hX.2.2.2.2.2.2.2.1 _ hw) hd ?_
  exact k.2 base spa spn spf cm D p l e R s m args below meth c Q cE sE H locs cells slots ls hX hfr hlo hcE hsE hK hc hs hD hS hL
theorem g_ldc {M : mM} {d pc : Nat} {L : mLs} {st : List Value} {hp : mHp} {out : mOut} {i : Nat} {v : Int32} (hd : decode M.2.1 pc = .ok (.ldc i, 2)) (hw : Cond.constant M.1 i v ∈ mGW) (k : mGo M d (pc + 2, L, .int v :: st, hp) out) : mGo M d (pc, L, st, hp) out := by
  refine ⟨k.1, ?_⟩
  intro base spa spn spf cm D p l e R s m args below meth c Q cE sE H locs cells slots ls hX hfr hlo hcE hsE hK hc hs hD hS hL
  have hx := hX.1
  have hb := hX.2.1
  refine lv_ldc hx hb hX.2.2.2.2.1 (hX.2.2.2.2.2.2.2.1 _ hw) hd ?_
  exact k.2 base spa spn spf cm D p l e R s m args below meth c Q cE sE H locs cells slots ls hX hfr hlo hcE hsE hK hc hs hD hS hL
theorem g_ldc2 {M : mM} {d pc : Nat} {L : mLs} {st : List Value} {hp : mHp} {out : mOut} {i : Nat} {v : Int64} (hd : decode M.2.1 pc = .ok (.ldc2_w i, 3)) (hw : Cond.constantLong M.1 i v ∈ mGW) (k : mGo M d (pc + 3, L, .long v :: st, hp) out) : mGo M d (pc, L, st, hp) out := by
  refine ⟨k.1, ?_⟩
  intro base spa spn spf cm D p l e R s m args below meth c Q cE sE H locs cells slots ls hX hfr hlo hcE hsE hK hc hs hD hS hL
  have hx := hX.1
  have hb := hX.2.1
  refine lv_ldc2 hx hb hX.2.2.2.2.1 (hX.2.2.2.2.2.2.2.1 _ hw) hd ?_
  exact k.2 base spa spn spf cm D p l e R s m args below meth c Q cE sE H locs cells slots ls hX hfr hlo hcE hsE hK hc hs hD hS hL
theorem g_lcmp {M : mM} {d pc : Nat} {L : mLs} {st : List Value} {hp : mHp} {out : mOut} {x y : Int64} (hd : decode M.2.1 pc = .ok (.lcmp, 1)) (k : mGo M d (pc + 1, L, .int (lg_cmp x y) :: st, hp) out) : mGo M d (pc, L, .long y :: .long x :: st, hp) out := by
  refine ⟨k.1, ?_⟩
  intro base spa spn spf cm D p l e R s m args below meth c Q cE sE H locs cells slots ls hX hfr hlo hcE hsE hK hc hs hD hS hL
  have hx := hX.1
  have hb := hX.2.1
  refine W.lcmp hx hb hd ?_
  exact k.2 base spa spn spf cm D p l e R s m args below meth c Q cE sE H locs cells slots ls hX hfr hlo hcE hsE hK hc hs hD hS hL
theorem g_iload_n {M : mM} {d pc : Nat} {L : mLs} {st : List Value} {hp : mHp} {out : mOut} {n : Fin 4} {x : Int32} (hd : decode M.2.1 pc = .ok (.iload_n n, 1)) (hl : L[(n : Nat)]? = some (some (.int x))) (k : mGo M d (pc + 1, L, .int x :: st, hp) out) : mGo M d (pc, L, st, hp) out := by
  refine ⟨k.1, ?_⟩
  intro base spa spn spf cm D p l e R s m args below meth c Q cE sE H locs cells slots ls hX hfr hlo hcE hsE hK hc hs hD hS hL
  have hx := hX.1
  have hb := hX.2.1
  refine lv_iload_n hx hb hd rfl (hL.2.2 _ _ hl) ?_
  exact k.2 base spa spn spf cm D p l e R s m args below meth c Q cE sE H locs cells slots ls hX hfr hlo hcE hsE hK hc hs hD hS hL
theorem g_iload {M : mM} {d pc : Nat} {L : mLs} {st : List Value} {hp : mHp} {out : mOut} {n : Nat} {x : Int32} (hd : decode M.2.1 pc = .ok (.iload n, 2)) (hl : L[n]? = some (some (.int x))) (k : mGo M d (pc + 2, L, .int x :: st, hp) out) : mGo M d (pc, L, st, hp) out := by
  refine ⟨k.1, ?_⟩
  intro base spa spn spf cm D p l e R s m args below meth c Q cE sE H locs cells slots ls hX hfr hlo hcE hsE hK hc hs hD hS hL
  have hx := hX.1
  have hb := hX.2.1
  refine lv_iload hx hb hd (hL.2.2 _ _ hl) ?_
  exact k.2 base spa spn spf cm D p l e R s m args below meth c Q cE sE H locs cells slots ls hX hfr hlo hcE hsE hK hc hs hD hS hL
theorem g_lload_n {M : mM} {d pc : Nat} {L : mLs} {st : List Value} {hp : mHp} {out : mOut} {n : Fin 4} {x : Int64} (hd : decode M.2.1 pc = .ok (.lload_n n, 1)) (hl : L[(n : Nat)]? = some (some (.long x))) (k : mGo M d (pc + 1, L, .long x :: st, hp) out) : mGo M d (pc, L, st, hp) out := by
  refine ⟨k.1, ?_⟩
  intro base spa spn spf cm D p l e R s m args below meth c Q cE sE H locs cells slots ls hX hfr hlo hcE hsE hK hc hs hD hS hL
  have hx := hX.1
  have hb := hX.2.1
  refine lv_lload_n hx hb hd rfl (hL.2.2 _ _ hl) ?_
  exact k.2 base spa spn spf cm D p l e R s m args below meth c Q cE sE H locs cells slots ls hX hfr hlo hcE hsE hK hc hs hD hS hL
theorem g_lload {M : mM} {d pc : Nat} {L : mLs} {st : List Value} {hp : mHp} {out : mOut} {n : Nat} {x : Int64} (hd : decode M.2.1 pc = .ok (.lload n, 2)) (hl : L[n]? = some (some (.long x))) (k : mGo M d (pc + 2, L, .long x :: st, hp) out) : mGo M d (pc, L, st, hp) out := by
  refine ⟨k.1, ?_⟩
  intro base spa spn spf cm D p l e R s m args below meth c Q cE sE H locs cells slots ls hX hfr hlo hcE hsE hK hc hs hD hS hL
  have hx := hX.1
  have hb := hX.2.1
  refine lv_lload hx hb hd (hL.2.2 _ _ hl) ?_
  exact k.2 base spa spn spf cm D p l e R s m args below meth c Q cE sE H locs cells slots ls hX hfr hlo hcE hsE hK hc hs hD hS hL
theorem g_aload_n {M : mM} {d pc : Nat} {L : mLs} {st : List Value} {hp : mHp} {out : mOut} {n : Fin 4} {x : Nat} (hd : decode M.2.1 pc = .ok (.aload_n n, 1)) (hl : L[(n : Nat)]? = some (some (.ref x))) (k : mGo M d (pc + 1, L, .ref x :: st, hp) out) : mGo M d (pc, L, st, hp) out := by
  refine ⟨k.1, ?_⟩
  intro base spa spn spf cm D p l e R s m args below meth c Q cE sE H locs cells slots ls hX hfr hlo hcE hsE hK hc hs hD hS hL
  have hx := hX.1
  have hb := hX.2.1
  refine lv_aload_n hx hb hd rfl (hL.2.2 _ _ hl) ?_
  exact k.2 base spa spn spf cm D p l e R s m args below meth c Q cE sE H locs cells slots ls hX hfr hlo hcE hsE hK hc hs hD hS hL
theorem g_aload {M : mM} {d pc : Nat} {L : mLs} {st : List Value} {hp : mHp} {out : mOut} {n : Nat} {x : Nat} (hd : decode M.2.1 pc = .ok (.aload n, 2)) (hl : L[n]? = some (some (.ref x))) (k : mGo M d (pc + 2, L, .ref x :: st, hp) out) : mGo M d (pc, L, st, hp) out := by
  refine ⟨k.1, ?_⟩
  intro base spa spn spf cm D p l e R s m args below meth c Q cE sE H locs cells slots ls hX hfr hlo hcE hsE hK hc hs hD hS hL
  have hx := hX.1
  have hb := hX.2.1
  refine lv_aload hx hb hd (hL.2.2 _ _ hl) ?_
  exact k.2 base spa spn spf cm D p l e R s m args below meth c Q cE sE H locs cells slots ls hX hfr hlo hcE hsE hK hc hs hD hS hL
def mSb (L : mLs) (i : Nat) : Bool := match i with
  | 0 => true
  | j + 1 => match L[j]? with
    | some (some v) => v.category == 1
    | _ => true
theorem mh_store1 {base : Nat} {spa : Nat → Nat} {ls : Array Slot} {nL i : Nat} {L : mLs} {v : Value} (h : mh base spa ls nL L) (hi : i < nL) (hc : v.category = 1) (hb : mSb L i = true) : ∃ ls', storeLocals ls i (mtv base spa v) = some ls' ∧ mh base spa ls' nL (L.set i (some v)) := by
  have h0 : lv_has ls nL ((List.range L.length).filterMap (fun j => (L.getD j none).map (fun w => (j, mtv base spa w)))) := by
    refine ⟨h.1, h.2.1, fun q hq => ?_⟩
    obtain ⟨j, hj, e⟩ := List.mem_filterMap.mp hq
    cases hw : L.getD j none with
    | none => rw [hw] at e; cases e
    | some w =>
      rw [hw] at e
      cases e
      have hjl := List.mem_range.mp hj
      refine h.2.2 j w ?_
      rw [List.getD_eq_getElem?_getD, List.getElem?_eq_getElem hjl] at hw
      rw [List.getElem?_eq_getElem hjl]
      exact congrArg some hw
  obtain ⟨ls', e', h'⟩ := lv_store1 (v := mtv base spa v) h0 hi (by rw [mtv_cat]; exact hc)
  refine ⟨ls', e', h'.1, h'.2.1, fun a w ha => ?_⟩
  by_cases hai : a = i
  · subst hai
    have hl : a < L.length := by
      have := (List.getElem?_eq_some_iff.mp ha).1
      simpa using this
    rw [List.getElem?_set_self hl] at ha
    cases ha
    exact h'.2.2 (a, _) List.mem_cons_self
  · rw [List.getElem?_set_ne (Ne.symm hai)] at ha
    refine h'.2.2 (a, mtv base spa w) (List.mem_cons_of_mem _ (List.mem_filter.mpr ⟨?_, ?_⟩))
    · refine List.mem_filterMap.mpr ⟨a, List.mem_range.mpr (List.getElem?_eq_some_iff.mp ha).1, ?_⟩
      rw [List.getD_eq_getElem?_getD, ha]
      rfl
    · by_cases h1 : a + 1 = i
      · subst h1
        simp only [mSb, ha] at hb
        have hcat : w.category = 1 := by simpa using hb
        simp [hai, mtv_cat, hcat]
      · simp [hai, h1]
theorem mh_store2 {base : Nat} {spa : Nat → Nat} {ls : Array Slot} {nL i : Nat} {L : mLs} {v : Value} (h : mh base spa ls nL L) (hi : i + 1 < nL) (hc : v.category = 2) (hb : mSb L i = true) : ∃ ls', storeLocals ls i (mtv base spa v) = some ls' ∧ mh base spa ls' nL ((L.set i (some v)).set (i + 1) none) := by
  have h0 : lv_has ls nL ((List.range L.length).filterMap (fun j => (L.getD j none).map (fun w => (j, mtv base spa w)))) := by
    refine ⟨h.1, h.2.1, fun q hq => ?_⟩
    obtain ⟨j, hj, e⟩ := List.mem_filterMap.mp hq
    cases hw : L.getD j none with
    | none => rw [hw] at e; cases e
    | some w =>
      rw [hw] at e
      cases e
      have hjl := List.mem_range.mp hj
      refine h.2.2 j w ?_
      rw [List.getD_eq_getElem?_getD, List.getElem?_eq_getElem hjl] at hw
      rw [List.getElem?_eq_getElem hjl]
      exact congrArg some hw
  obtain ⟨ls', e', h'⟩ := lv_store2 (v := mtv base spa v) h0 hi (by rw [mtv_cat]; exact hc)
  refine ⟨ls', e', h'.1, h'.2.1, fun a w ha => ?_⟩
  by_cases ha1 : a = i + 1
  · subst ha1
    have hl : i + 1 < L.length := by
      have := (List.getElem?_eq_some_iff.mp ha).1
      simpa using this
    rw [List.getElem?_set_self (by simpa using hl)] at ha
    cases ha
  · rw [List.getElem?_set_ne (Ne.symm ha1)] at ha
    by_cases hai : a = i
    · subst hai
      have hl : a < L.length := by
        have := (List.getElem?_eq_some_iff.mp ha).1
        simpa using this
      rw [List.getElem?_set_self hl] at ha
      cases ha
      exact h'.2.2 (a, _) List.mem_cons_self
    · rw [List.getElem?_set_ne (Ne.symm hai)] at ha
      refine h'.2.2 (a, mtv base spa w) (List.mem_cons_of_mem _ (List.mem_filter.mpr ⟨?_, ?_⟩))
      · refine List.mem_filterMap.mpr ⟨a, List.mem_range.mpr (List.getElem?_eq_some_iff.mp ha).1, ?_⟩
        rw [List.getD_eq_getElem?_getD, ha]
        rfl
      · by_cases h1 : a + 1 = i
        · subst h1
          simp only [mSb, ha] at hb
          have hcat : w.category = 1 := by simpa using hb
          simp [hai, ha1, mtv_cat, hcat]
        · simp [hai, h1, ha1]
theorem g_istore_n {M : mM} {d pc : Nat} {L : mLs} {st : List Value} {hp : mHp} {out : mOut} {n : Fin 4} {x : Int32} (hd : decode M.2.1 pc = .ok (.istore_n n, 1)) (hi : (n : Nat) < M.2.2.1) (hb1 : mSb L (n : Nat) = true) (k : mGo M d (pc + 1, L.set (n : Nat) (some (.int x)), st, hp) out) : mGo M d (pc, L, .int x :: st, hp) out := by
  refine ⟨k.1, ?_⟩
  intro base spa spn spf cm D p l e R s m args below meth c Q cE sE H locs cells slots ls hX hfr hlo hcE hsE hK hc hs hD hS hL
  have hx := hX.1
  have hb := hX.2.1
  obtain ⟨ls', e', h'⟩ := mh_store1 (v := .int x) hL hi rfl hb1
  intro T hT X
  obtain ⟨t, a, b⟩ := k.2 base spa spn spf cm D p l e R s m args below meth c Q cE sE H locs cells slots ls' hX hfr hlo hcE hsE hK hc hs hD hS h' T hT X
  refine ⟨t, ?_, b⟩
  simp only [mtv] at e'
  show Steps p.tables e below (T.setTop (F0 m pc ls (_ :: st.map (mtv base spa)))) t
  jvm_step X.here [X.here.top, ↓top_set X.here.top, hx, hb, hd, e', mtv]
  exact a
theorem g_istore {M : mM} {d pc : Nat} {L : mLs} {st : List Value} {hp : mHp} {out : mOut} {n : Nat} {x : Int32} (hd : decode M.2.1 pc = .ok (.istore n, 2)) (hi : n < M.2.2.1) (hb1 : mSb L n = true) (k : mGo M d (pc + 2, L.set n (some (.int x)), st, hp) out) : mGo M d (pc, L, .int x :: st, hp) out := by
  refine ⟨k.1, ?_⟩
  intro base spa spn spf cm D p l e R s m args below meth c Q cE sE H locs cells slots ls hX hfr hlo hcE hsE hK hc hs hD hS hL
  have hx := hX.1
  have hb := hX.2.1
  obtain ⟨ls', e', h'⟩ := mh_store1 (v := .int x) hL hi rfl hb1
  intro T hT X
  obtain ⟨t, a, b⟩ := k.2 base spa spn spf cm D p l e R s m args below meth c Q cE sE H locs cells slots ls' hX hfr hlo hcE hsE hK hc hs hD hS h' T hT X
  refine ⟨t, ?_, b⟩
  simp only [mtv] at e'
  show Steps p.tables e below (T.setTop (F0 m pc ls (_ :: st.map (mtv base spa)))) t
  jvm_step X.here [X.here.top, ↓top_set X.here.top, hx, hb, hd, e', mtv]
  exact a
theorem g_astore_n {M : mM} {d pc : Nat} {L : mLs} {st : List Value} {hp : mHp} {out : mOut} {n : Fin 4} {x : Nat} (hd : decode M.2.1 pc = .ok (.astore_n n, 1)) (hi : (n : Nat) < M.2.2.1) (hb1 : mSb L (n : Nat) = true) (k : mGo M d (pc + 1, L.set (n : Nat) (some (.ref x)), st, hp) out) : mGo M d (pc, L, .ref x :: st, hp) out := by
  refine ⟨k.1, ?_⟩
  intro base spa spn spf cm D p l e R s m args below meth c Q cE sE H locs cells slots ls hX hfr hlo hcE hsE hK hc hs hD hS hL
  have hx := hX.1
  have hb := hX.2.1
  obtain ⟨ls', e', h'⟩ := mh_store1 (v := .ref x) hL hi rfl hb1
  intro T hT X
  obtain ⟨t, a, b⟩ := k.2 base spa spn spf cm D p l e R s m args below meth c Q cE sE H locs cells slots ls' hX hfr hlo hcE hsE hK hc hs hD hS h' T hT X
  refine ⟨t, ?_, b⟩
  simp only [mtv] at e'
  show Steps p.tables e below (T.setTop (F0 m pc ls (_ :: st.map (mtv base spa)))) t
  jvm_step X.here [X.here.top, ↓top_set X.here.top, hx, hb, hd, e', mtv]
  exact ⟨rfl, a⟩
theorem g_astore {M : mM} {d pc : Nat} {L : mLs} {st : List Value} {hp : mHp} {out : mOut} {n : Nat} {x : Nat} (hd : decode M.2.1 pc = .ok (.astore n, 2)) (hi : n < M.2.2.1) (hb1 : mSb L n = true) (k : mGo M d (pc + 2, L.set n (some (.ref x)), st, hp) out) : mGo M d (pc, L, .ref x :: st, hp) out := by
  refine ⟨k.1, ?_⟩
  intro base spa spn spf cm D p l e R s m args below meth c Q cE sE H locs cells slots ls hX hfr hlo hcE hsE hK hc hs hD hS hL
  have hx := hX.1
  have hb := hX.2.1
  obtain ⟨ls', e', h'⟩ := mh_store1 (v := .ref x) hL hi rfl hb1
  intro T hT X
  obtain ⟨t, a, b⟩ := k.2 base spa spn spf cm D p l e R s m args below meth c Q cE sE H locs cells slots ls' hX hfr hlo hcE hsE hK hc hs hD hS h' T hT X
  refine ⟨t, ?_, b⟩
  simp only [mtv] at e'
  show Steps p.tables e below (T.setTop (F0 m pc ls (_ :: st.map (mtv base spa)))) t
  jvm_step X.here [X.here.top, ↓top_set X.here.top, hx, hb, hd, e', mtv]
  exact ⟨rfl, a⟩
theorem g_lstore_n {M : mM} {d pc : Nat} {L : mLs} {st : List Value} {hp : mHp} {out : mOut} {n : Fin 4} {x : Int64} (hd : decode M.2.1 pc = .ok (.lstore_n n, 1)) (hi : (n : Nat) + 1 < M.2.2.1) (hb1 : mSb L (n : Nat) = true) (k : mGo M d (pc + 1, (L.set (n : Nat) (some (.long x))).set ((n : Nat) + 1) none, st, hp) out) : mGo M d (pc, L, .long x :: st, hp) out := by
  refine ⟨k.1, ?_⟩
  intro base spa spn spf cm D p l e R s m args below meth c Q cE sE H locs cells slots ls hX hfr hlo hcE hsE hK hc hs hD hS hL
  have hx := hX.1
  have hb := hX.2.1
  obtain ⟨ls', e', h'⟩ := mh_store2 (v := .long x) hL hi rfl hb1
  intro T hT X
  obtain ⟨t, a, b⟩ := k.2 base spa spn spf cm D p l e R s m args below meth c Q cE sE H locs cells slots ls' hX hfr hlo hcE hsE hK hc hs hD hS h' T hT X
  refine ⟨t, ?_, b⟩
  simp only [mtv] at e'
  show Steps p.tables e below (T.setTop (F0 m pc ls (_ :: st.map (mtv base spa)))) t
  jvm_step X.here [X.here.top, ↓top_set X.here.top, hx, hb, hd, e', mtv]
  exact a
theorem g_lstore {M : mM} {d pc : Nat} {L : mLs} {st : List Value} {hp : mHp} {out : mOut} {n : Nat} {x : Int64} (hd : decode M.2.1 pc = .ok (.lstore n, 2)) (hi : n + 1 < M.2.2.1) (hb1 : mSb L n = true) (k : mGo M d (pc + 2, (L.set n (some (.long x))).set (n + 1) none, st, hp) out) : mGo M d (pc, L, .long x :: st, hp) out := by
  refine ⟨k.1, ?_⟩
  intro base spa spn spf cm D p l e R s m args below meth c Q cE sE H locs cells slots ls hX hfr hlo hcE hsE hK hc hs hD hS hL
  have hx := hX.1
  have hb := hX.2.1
  obtain ⟨ls', e', h'⟩ := mh_store2 (v := .long x) hL hi rfl hb1
  intro T hT X
  obtain ⟨t, a, b⟩ := k.2 base spa spn spf cm D p l e R s m args below meth c Q cE sE H locs cells slots ls' hX hfr hlo hcE hsE hK hc hs hD hS h' T hT X
  refine ⟨t, ?_, b⟩
  simp only [mtv] at e'
  show Steps p.tables e below (T.setTop (F0 m pc ls (_ :: st.map (mtv base spa)))) t
  jvm_step X.here [X.here.top, ↓top_set X.here.top, hx, hb, hd, e', mtv]
  exact a
theorem g_iinc {M : mM} {d pc : Nat} {L : mLs} {st : List Value} {hp : mHp} {out : mOut} {n : Nat} {z : Int} {x : Int32} (hd : decode M.2.1 pc = .ok (.iinc n z, 3)) (hl : L[n]? = some (some (.int x))) (hi : n < M.2.2.1) (hb1 : mSb L n = true) (k : mGo M d (pc + 3, L.set n (some (.int (x + Int32.ofInt z))), st, hp) out) : mGo M d (pc, L, st, hp) out := by
  refine ⟨k.1, ?_⟩
  intro base spa spn spf cm D p l e R s m args below meth c Q cE sE H locs cells slots ls hX hfr hlo hcE hsE hK hc hs hD hS hL
  have hx := hX.1
  have hb := hX.2.1
  obtain ⟨ls', e', h'⟩ := mh_store1 (v := .int (x + Int32.ofInt z)) hL hi rfl hb1
  have hg : ls[n]? = some (.val (.int x)) := hL.2.2 _ _ hl
  intro T hT X
  obtain ⟨t, a, b⟩ := k.2 base spa spn spf cm D p l e R s m args below meth c Q cE sE H locs cells slots ls' hX hfr hlo hcE hsE hK hc hs hD hS h' T hT X
  refine ⟨t, ?_, b⟩
  simp only [mtv] at e'
  show Steps p.tables e below (T.setTop (F0 m pc ls (st.map (mtv base spa)))) t
  jvm_step X.here [X.here.top, ↓top_set X.here.top, hx, hb, hd, hg, e', mtv]
  exact a
theorem g_goto {M : mM} {d pc tgt : Nat} {L : mLs} {st : List Value} {hp : mHp} {out : mOut} {off : Int} (hd : decode M.2.1 pc = .ok (.goto off, 3)) (ht : (pc : Int) + off = (tgt : Int)) (k : mGo M d (tgt, L, st, hp) out) : mGo M d (pc, L, st, hp) out := by
  refine ⟨k.1, ?_⟩
  intro base spa spn spf cm D p l e R s m args below meth c Q cE sE H locs cells slots ls hX hfr hlo hcE hsE hK hc hs hD hS hL
  have hx := hX.1
  have hb := hX.2.1
  refine lv_goto hx hb hd ht ?_
  exact k.2 base spa spn spf cm D p l e R s m args below meth c Q cE sE H locs cells slots ls hX hfr hlo hcE hsE hK hc hs hD hS hL
theorem g_if_eq {M : mM} {d pc tgt : Nat} {L : mLs} {st : List Value} {hp : mHp} {out : mOut} {x : Int32} {off : Int} (hd : decode M.2.1 pc = .ok (.ifCond .eq off, 3)) (ht : (pc : Int) + off = (tgt : Int)) (kt : x = 0 → mGo M d (tgt, L, st, hp) out) (kf : ¬ (x = 0) → mGo M d (pc + 3, L, st, hp) out) : mGo M d (pc, L, .int x :: st, hp) out := by
  refine ⟨by by_cases q : x = 0
             · exact (kt q).1
             · exact (kf q).1, ?_⟩
  intro base spa spn spf cm D p l e R s m args below meth c Q cE sE H locs cells slots ls hX hfr hlo hcE hsE hK hc hs hD hS hL
  have hx := hX.1
  have hb := hX.2.1
  refine lv_if_eq hx hb hd ht (fun q => ?_) (fun q => ?_)
  · exact (kt q).2 base spa spn spf cm D p l e R s m args below meth c Q cE sE H locs cells slots ls hX hfr hlo hcE hsE hK hc hs hD hS hL
  · exact (kf q).2 base spa spn spf cm D p l e R s m args below meth c Q cE sE H locs cells slots ls hX hfr hlo hcE hsE hK hc hs hD hS hL
theorem g_icmp_eq {M : mM} {d pc tgt : Nat} {L : mLs} {st : List Value} {hp : mHp} {out : mOut} {x y : Int32} {off : Int} (hd : decode M.2.1 pc = .ok (.if_icmp .eq off, 3)) (ht : (pc : Int) + off = (tgt : Int)) (kt : x = y → mGo M d (tgt, L, st, hp) out) (kf : ¬ (x = y) → mGo M d (pc + 3, L, st, hp) out) : mGo M d (pc, L, .int y :: .int x :: st, hp) out := by
  refine ⟨by by_cases q : x = y
             · exact (kt q).1
             · exact (kf q).1, ?_⟩
  intro base spa spn spf cm D p l e R s m args below meth c Q cE sE H locs cells slots ls hX hfr hlo hcE hsE hK hc hs hD hS hL
  have hx := hX.1
  have hb := hX.2.1
  refine lv_icmp_eq hx hb hd ht (fun q => ?_) (fun q => ?_)
  · exact (kt q).2 base spa spn spf cm D p l e R s m args below meth c Q cE sE H locs cells slots ls hX hfr hlo hcE hsE hK hc hs hD hS hL
  · exact (kf q).2 base spa spn spf cm D p l e R s m args below meth c Q cE sE H locs cells slots ls hX hfr hlo hcE hsE hK hc hs hD hS hL
theorem g_if_ne {M : mM} {d pc tgt : Nat} {L : mLs} {st : List Value} {hp : mHp} {out : mOut} {x : Int32} {off : Int} (hd : decode M.2.1 pc = .ok (.ifCond .ne off, 3)) (ht : (pc : Int) + off = (tgt : Int)) (kt : ¬ (x = 0) → mGo M d (tgt, L, st, hp) out) (kf : x = 0 → mGo M d (pc + 3, L, st, hp) out) : mGo M d (pc, L, .int x :: st, hp) out := by
  refine ⟨by by_cases q : x = 0
             · exact (kf q).1
             · exact (kt q).1, ?_⟩
  intro base spa spn spf cm D p l e R s m args below meth c Q cE sE H locs cells slots ls hX hfr hlo hcE hsE hK hc hs hD hS hL
  have hx := hX.1
  have hb := hX.2.1
  refine lv_if_ne hx hb hd ht (fun q => ?_) (fun q => ?_)
  · exact (kt q).2 base spa spn spf cm D p l e R s m args below meth c Q cE sE H locs cells slots ls hX hfr hlo hcE hsE hK hc hs hD hS hL
  · exact (kf q).2 base spa spn spf cm D p l e R s m args below meth c Q cE sE H locs cells slots ls hX hfr hlo hcE hsE hK hc hs hD hS hL
theorem g_icmp_ne {M : mM} {d pc tgt : Nat} {L : mLs} {st : List Value} {hp : mHp} {out : mOut} {x y : Int32} {off : Int} (hd : decode M.2.1 pc = .ok (.if_icmp .ne off, 3)) (ht : (pc : Int) + off = (tgt : Int)) (kt : ¬ (x = y) → mGo M d (tgt, L, st, hp) out) (kf : x = y → mGo M d (pc + 3, L, st, hp) out) : mGo M d (pc, L, .int y :: .int x :: st, hp) out := by
  refine ⟨by by_cases q : x = y
             · exact (kf q).1
             · exact (kt q).1, ?_⟩
  intro base spa spn spf cm D p l e R s m args below meth c Q cE sE H locs cells slots ls hX hfr hlo hcE hsE hK hc hs hD hS hL
  have hx := hX.1
  have hb := hX.2.1
  refine lv_icmp_ne hx hb hd ht (fun q => ?_) (fun q => ?_)
  · exact (kt q).2 base spa spn spf cm D p l e R s m args below meth c Q cE sE H locs cells slots ls hX hfr hlo hcE hsE hK hc hs hD hS hL
  · exact (kf q).2 base spa spn spf cm D p l e R s m args below meth c Q cE sE H locs cells slots ls hX hfr hlo hcE hsE hK hc hs hD hS hL
theorem g_if_lt {M : mM} {d pc tgt : Nat} {L : mLs} {st : List Value} {hp : mHp} {out : mOut} {x : Int32} {off : Int} (hd : decode M.2.1 pc = .ok (.ifCond .lt off, 3)) (ht : (pc : Int) + off = (tgt : Int)) (kt : x < 0 → mGo M d (tgt, L, st, hp) out) (kf : ¬ (x < 0) → mGo M d (pc + 3, L, st, hp) out) : mGo M d (pc, L, .int x :: st, hp) out := by
  refine ⟨by by_cases q : x < 0
             · exact (kt q).1
             · exact (kf q).1, ?_⟩
  intro base spa spn spf cm D p l e R s m args below meth c Q cE sE H locs cells slots ls hX hfr hlo hcE hsE hK hc hs hD hS hL
  have hx := hX.1
  have hb := hX.2.1
  refine lv_if_lt hx hb hd ht (fun q => ?_) (fun q => ?_)
  · exact (kt q).2 base spa spn spf cm D p l e R s m args below meth c Q cE sE H locs cells slots ls hX hfr hlo hcE hsE hK hc hs hD hS hL
  · exact (kf q).2 base spa spn spf cm D p l e R s m args below meth c Q cE sE H locs cells slots ls hX hfr hlo hcE hsE hK hc hs hD hS hL
theorem g_icmp_lt {M : mM} {d pc tgt : Nat} {L : mLs} {st : List Value} {hp : mHp} {out : mOut} {x y : Int32} {off : Int} (hd : decode M.2.1 pc = .ok (.if_icmp .lt off, 3)) (ht : (pc : Int) + off = (tgt : Int)) (kt : x < y → mGo M d (tgt, L, st, hp) out) (kf : ¬ (x < y) → mGo M d (pc + 3, L, st, hp) out) : mGo M d (pc, L, .int y :: .int x :: st, hp) out := by
  refine ⟨by by_cases q : x < y
             · exact (kt q).1
             · exact (kf q).1, ?_⟩
  intro base spa spn spf cm D p l e R s m args below meth c Q cE sE H locs cells slots ls hX hfr hlo hcE hsE hK hc hs hD hS hL
  have hx := hX.1
  have hb := hX.2.1
  refine lv_icmp_lt hx hb hd ht (fun q => ?_) (fun q => ?_)
  · exact (kt q).2 base spa spn spf cm D p l e R s m args below meth c Q cE sE H locs cells slots ls hX hfr hlo hcE hsE hK hc hs hD hS hL
  · exact (kf q).2 base spa spn spf cm D p l e R s m args below meth c Q cE sE H locs cells slots ls hX hfr hlo hcE hsE hK hc hs hD hS hL
theorem g_if_ge {M : mM} {d pc tgt : Nat} {L : mLs} {st : List Value} {hp : mHp} {out : mOut} {x : Int32} {off : Int} (hd : decode M.2.1 pc = .ok (.ifCond .ge off, 3)) (ht : (pc : Int) + off = (tgt : Int)) (kt : 0 ≤ x → mGo M d (tgt, L, st, hp) out) (kf : ¬ (0 ≤ x) → mGo M d (pc + 3, L, st, hp) out) : mGo M d (pc, L, .int x :: st, hp) out := by
  refine ⟨by by_cases q : 0 ≤ x
             · exact (kt q).1
             · exact (kf q).1, ?_⟩
  intro base spa spn spf cm D p l e R s m args below meth c Q cE sE H locs cells slots ls hX hfr hlo hcE hsE hK hc hs hD hS hL
  have hx := hX.1
  have hb := hX.2.1
  refine lv_if_ge hx hb hd ht (fun q => ?_) (fun q => ?_)
  · exact (kt q).2 base spa spn spf cm D p l e R s m args below meth c Q cE sE H locs cells slots ls hX hfr hlo hcE hsE hK hc hs hD hS hL
  · exact (kf q).2 base spa spn spf cm D p l e R s m args below meth c Q cE sE H locs cells slots ls hX hfr hlo hcE hsE hK hc hs hD hS hL
theorem g_icmp_ge {M : mM} {d pc tgt : Nat} {L : mLs} {st : List Value} {hp : mHp} {out : mOut} {x y : Int32} {off : Int} (hd : decode M.2.1 pc = .ok (.if_icmp .ge off, 3)) (ht : (pc : Int) + off = (tgt : Int)) (kt : y ≤ x → mGo M d (tgt, L, st, hp) out) (kf : ¬ (y ≤ x) → mGo M d (pc + 3, L, st, hp) out) : mGo M d (pc, L, .int y :: .int x :: st, hp) out := by
  refine ⟨by by_cases q : y ≤ x
             · exact (kt q).1
             · exact (kf q).1, ?_⟩
  intro base spa spn spf cm D p l e R s m args below meth c Q cE sE H locs cells slots ls hX hfr hlo hcE hsE hK hc hs hD hS hL
  have hx := hX.1
  have hb := hX.2.1
  refine lv_icmp_ge hx hb hd ht (fun q => ?_) (fun q => ?_)
  · exact (kt q).2 base spa spn spf cm D p l e R s m args below meth c Q cE sE H locs cells slots ls hX hfr hlo hcE hsE hK hc hs hD hS hL
  · exact (kf q).2 base spa spn spf cm D p l e R s m args below meth c Q cE sE H locs cells slots ls hX hfr hlo hcE hsE hK hc hs hD hS hL
theorem g_if_gt {M : mM} {d pc tgt : Nat} {L : mLs} {st : List Value} {hp : mHp} {out : mOut} {x : Int32} {off : Int} (hd : decode M.2.1 pc = .ok (.ifCond .gt off, 3)) (ht : (pc : Int) + off = (tgt : Int)) (kt : 0 < x → mGo M d (tgt, L, st, hp) out) (kf : ¬ (0 < x) → mGo M d (pc + 3, L, st, hp) out) : mGo M d (pc, L, .int x :: st, hp) out := by
  refine ⟨by by_cases q : 0 < x
             · exact (kt q).1
             · exact (kf q).1, ?_⟩
  intro base spa spn spf cm D p l e R s m args below meth c Q cE sE H locs cells slots ls hX hfr hlo hcE hsE hK hc hs hD hS hL
  have hx := hX.1
  have hb := hX.2.1
  refine lv_if_gt hx hb hd ht (fun q => ?_) (fun q => ?_)
  · exact (kt q).2 base spa spn spf cm D p l e R s m args below meth c Q cE sE H locs cells slots ls hX hfr hlo hcE hsE hK hc hs hD hS hL
  · exact (kf q).2 base spa spn spf cm D p l e R s m args below meth c Q cE sE H locs cells slots ls hX hfr hlo hcE hsE hK hc hs hD hS hL
theorem g_icmp_gt {M : mM} {d pc tgt : Nat} {L : mLs} {st : List Value} {hp : mHp} {out : mOut} {x y : Int32} {off : Int} (hd : decode M.2.1 pc = .ok (.if_icmp .gt off, 3)) (ht : (pc : Int) + off = (tgt : Int)) (kt : y < x → mGo M d (tgt, L, st, hp) out) (kf : ¬ (y < x) → mGo M d (pc + 3, L, st, hp) out) : mGo M d (pc, L, .int y :: .int x :: st, hp) out := by
  refine ⟨by by_cases q : y < x
             · exact (kt q).1
             · exact (kf q).1, ?_⟩
  intro base spa spn spf cm D p l e R s m args below meth c Q cE sE H locs cells slots ls hX hfr hlo hcE hsE hK hc hs hD hS hL
  have hx := hX.1
  have hb := hX.2.1
  refine lv_icmp_gt hx hb hd ht (fun q => ?_) (fun q => ?_)
  · exact (kt q).2 base spa spn spf cm D p l e R s m args below meth c Q cE sE H locs cells slots ls hX hfr hlo hcE hsE hK hc hs hD hS hL
  · exact (kf q).2 base spa spn spf cm D p l e R s m args below meth c Q cE sE H locs cells slots ls hX hfr hlo hcE hsE hK hc hs hD hS hL
theorem g_if_le {M : mM} {d pc tgt : Nat} {L : mLs} {st : List Value} {hp : mHp} {out : mOut} {x : Int32} {off : Int} (hd : decode M.2.1 pc = .ok (.ifCond .le off, 3)) (ht : (pc : Int) + off = (tgt : Int)) (kt : x ≤ 0 → mGo M d (tgt, L, st, hp) out) (kf : ¬ (x ≤ 0) → mGo M d (pc + 3, L, st, hp) out) : mGo M d (pc, L, .int x :: st, hp) out := by
  refine ⟨by by_cases q : x ≤ 0
             · exact (kt q).1
             · exact (kf q).1, ?_⟩
  intro base spa spn spf cm D p l e R s m args below meth c Q cE sE H locs cells slots ls hX hfr hlo hcE hsE hK hc hs hD hS hL
  have hx := hX.1
  have hb := hX.2.1
  refine lv_if_le hx hb hd ht (fun q => ?_) (fun q => ?_)
  · exact (kt q).2 base spa spn spf cm D p l e R s m args below meth c Q cE sE H locs cells slots ls hX hfr hlo hcE hsE hK hc hs hD hS hL
  · exact (kf q).2 base spa spn spf cm D p l e R s m args below meth c Q cE sE H locs cells slots ls hX hfr hlo hcE hsE hK hc hs hD hS hL
theorem g_icmp_le {M : mM} {d pc tgt : Nat} {L : mLs} {st : List Value} {hp : mHp} {out : mOut} {x y : Int32} {off : Int} (hd : decode M.2.1 pc = .ok (.if_icmp .le off, 3)) (ht : (pc : Int) + off = (tgt : Int)) (kt : x ≤ y → mGo M d (tgt, L, st, hp) out) (kf : ¬ (x ≤ y) → mGo M d (pc + 3, L, st, hp) out) : mGo M d (pc, L, .int y :: .int x :: st, hp) out := by
  refine ⟨by by_cases q : x ≤ y
             · exact (kt q).1
             · exact (kf q).1, ?_⟩
  intro base spa spn spf cm D p l e R s m args below meth c Q cE sE H locs cells slots ls hX hfr hlo hcE hsE hK hc hs hD hS hL
  have hx := hX.1
  have hb := hX.2.1
  refine lv_icmp_le hx hb hd ht (fun q => ?_) (fun q => ?_)
  · exact (kt q).2 base spa spn spf cm D p l e R s m args below meth c Q cE sE H locs cells slots ls hX hfr hlo hcE hsE hK hc hs hD hS hL
  · exact (kf q).2 base spa spn spf cm D p l e R s m args below meth c Q cE sE H locs cells slots ls hX hfr hlo hcE hsE hK hc hs hD hS hL
theorem g_lookup {M : mM} {d pc len tgt : Nat} {L : mLs} {st : List Value} {hp : mHp} {out : mOut} {x : Int32} {dflt off : Int} {ps : Array (Int × Int)} (hd : decode M.2.1 pc = .ok (.lookupswitch dflt ps, len)) (hp1 : (ps.toList.zip (ps.toList.drop 1)).all (fun (a, next) => a.1 < next.1) = true) (ho : Op.lookupswitch.offset ps.toList dflt x.toInt = off) (ht : (pc : Int) + off = (tgt : Int)) (k : mGo M d (tgt, L, st, hp) out) : mGo M d (pc, L, .int x :: st, hp) out := by
  refine ⟨k.1, ?_⟩
  intro base spa spn spf cm D p l e R s m args below meth c Q cE sE H locs cells slots ls hX hfr hlo hcE hsE hK hc hs hD hS hL
  have hx := hX.1
  have hb := hX.2.1
  refine lv_lookup hx hb hd hp1 ho ht ?_
  exact k.2 base spa spn spf cm D p l e R s m args below meth c Q cE sE H locs cells slots ls hX hfr hlo hcE hsE hK hc hs hD hS hL
theorem g_tabOut {M : mM} {d pc len tgt : Nat} {L : mLs} {st : List Value} {hp : mHp} {out : mOut} {x : Int32} {dflt lo hi : Int} {offs : Array Int} (hd : decode M.2.1 pc = .ok (.tableswitch dflt lo hi offs, len)) (h : x.toInt < lo ∨ hi < x.toInt) (ht : (pc : Int) + dflt = (tgt : Int)) (k : mGo M d (tgt, L, st, hp) out) : mGo M d (pc, L, .int x :: st, hp) out := by
  refine ⟨k.1, ?_⟩
  intro base spa spn spf cm D p l e R s m args below meth c Q cE sE H locs cells slots ls hX hfr hlo hcE hsE hK hc hs hD hS hL
  have hx := hX.1
  have hb := hX.2.1
  refine lv_tableOut hx hb hd h ht ?_
  exact k.2 base spa spn spf cm D p l e R s m args below meth c Q cE sE H locs cells slots ls hX hfr hlo hcE hsE hK hc hs hD hS hL
theorem g_tabIn {M : mM} {d pc len tgt : Nat} {L : mLs} {st : List Value} {hp : mHp} {out : mOut} {x : Int32} {dflt lo hi off : Int} {offs : Array Int} (hd : decode M.2.1 pc = .ok (.tableswitch dflt lo hi offs, len)) (h1 : ¬ x.toInt < lo) (h2 : ¬ hi < x.toInt) (ho : offs[(x.toInt - lo).toNat]? = some off) (ht : (pc : Int) + off = (tgt : Int)) (k : mGo M d (tgt, L, st, hp) out) : mGo M d (pc, L, .int x :: st, hp) out := by
  refine ⟨k.1, ?_⟩
  intro base spa spn spf cm D p l e R s m args below meth c Q cE sE H locs cells slots ls hX hfr hlo hcE hsE hK hc hs hD hS hL
  have hx := hX.1
  have hb := hX.2.1
  refine lv_tableIn hx hb hd h1 h2 ho ht ?_
  exact k.2 base spa spn spf cm D p l e R s m args below meth c Q cE sE H locs cells slots ls hX hfr hlo hcE hsE hK hc hs hD hS hL
theorem g_iret {M : mM} {d pc : Nat} {L : mLs} {hp : mHp} {out : mOut} {v : Int32} (hd : decode M.2.1 pc = .ok (.ireturn, 1)) (ho : out = (some (.int v), hp)) : mGo M d (pc, L, [.int v], hp) out := by
  subst ho
  refine ⟨⟨Nat.le_refl _, Nat.le_refl _⟩, ?_⟩
  intro base spa spn spf cm D p l e R s m args below meth c Q cE sE H locs cells slots ls hX hfr hlo hcE hsE hK hc hs hD hS hL
  have hx := hX.1
  have hb := hX.2.1
  have e1 : cells = cE := Nat.add_right_cancel hc
  have e2 : slots = sE := Nat.add_right_cancel hs
  subst e1
  subst e2
  exact hK H locs pc ls hd hD hS
theorem g_lret {M : mM} {d pc : Nat} {L : mLs} {hp : mHp} {out : mOut} {v : Int64} (hd : decode M.2.1 pc = .ok (.lreturn, 1)) (ho : out = (some (.long v), hp)) : mGo M d (pc, L, [.long v], hp) out := by
  subst ho
  refine ⟨⟨Nat.le_refl _, Nat.le_refl _⟩, ?_⟩
  intro base spa spn spf cm D p l e R s m args below meth c Q cE sE H locs cells slots ls hX hfr hlo hcE hsE hK hc hs hD hS hL
  have hx := hX.1
  have hb := hX.2.1
  have e1 : cells = cE := Nat.add_right_cancel hc
  have e2 : slots = sE := Nat.add_right_cancel hs
  subst e1
  subst e2
  exact hK H locs pc ls hd hD hS
theorem g_vret {M : mM} {d pc : Nat} {L : mLs} {hp : mHp} {out : mOut}  (hd : decode M.2.1 pc = .ok (.return_, 1)) (ho : out = (none, hp)) : mGo M d (pc, L, [], hp) out := by
  subst ho
  refine ⟨⟨Nat.le_refl _, Nat.le_refl _⟩, ?_⟩
  intro base spa spn spf cm D p l e R s m args below meth c Q cE sE H locs cells slots ls hX hfr hlo hcE hsE hK hc hs hD hS hL
  have hx := hX.1
  have hb := hX.2.1
  have e1 : cells = cE := Nat.add_right_cancel hc
  have e2 : slots = sE := Nat.add_right_cancel hs
  subst e1
  subst e2
  exact hK H locs pc ls hd hD hS
def mfin (ci k : Nat) : Bool := match mcl[ci]? with
  | some q => (q.2.1 k).2.2.2
  | none => false
def mdc (ci : Nat) : String := match mcl[ci]? with
  | some q => q.1
  | none => ""
def mFL (own : String) (idx ci k : Nat) : Prop := ∃ (C : String) (T : u_T) (N : Nat), mcl[ci]? = some (C, T, N) ∧ mN ci = N ∧ k < N ∧ (∀ w ∈ u_ws C T N, w ∈ mGW) ∧ Cond.fieldLink own idx (T k).1 (T k).2.1 (T k).2.2.1 ∈ mGW ∧ (∀ j, j < N → parseFieldDescriptor (T j).2.2.1 = some (mty ci j)) ∧ (∀ a, a < N → ∀ b, b < N → a ≠ b → (T a).2.1 ≠ (T b).2.1) ∧ (T k).1 = C
def mNC (ci : Nat) (C : String) : Prop := ∃ (T : u_T) (N : Nat), mcl[ci]? = some (C, T, N) ∧ mN ci = N ∧ (∀ w ∈ u_ws C T N, w ∈ mGW) ∧ Cond.instantiable C N ∈ mGW ∧ Cond.initialized C ∈ mGW ∧ (∀ j, j < N → parseFieldDescriptor (T j).2.2.1 = some (mty ci j)) ∧ ∀ j, j < N → defaultValue (mty ci j) = mfv (mty ci j) 0 none
theorem mce_obj {base : Nat} {spa : Nat → Nat} {cm : Nat → ClassId} {F : Nat → Nat → Int32} {R : Nat → Nat → Option Nat} {j ci : Nat} : mce base spa cm F R j (.inl ci) = .inr (ci, (List.range (mN ci)).map (fun k => mtv base spa (mfv (mty ci k) (F j k) (R j k)))) := rfl
theorem mce_int {base : Nat} {spa : Nat → Nat} {cm : Nat → ClassId} {F : Nat → Nat → Int32} {R : Nat → Nat → Option Nat} {j t n : Nat} (h : t ≠ 2) : mce base spa cm F R j (.inr (t, n)) = .inl (cm t, n, .inl (F j)) := by
  show (if t = 2 then _ else _) = _
  rw [if_neg h]
theorem mce_ref {base : Nat} {spa : Nat → Nat} {cm : Nat → ClassId} {F : Nat → Nat → Int32} {R : Nat → Nat → Option Nat} {j n : Nat} : mce base spa cm F R j (.inr (2, n)) = .inl (cm 2, n, .inr (.inr (.inr (.inr (fun i => (R j i).map (mad base spa)))))) := rfl
theorem m_rf (base : Nat) (spa : Nat → Nat) (r : Option Nat) : va_rf (r.map (mad base spa)) = mtv base spa (va_rf r) := by cases r <;> rfl
theorem mD_upd {base : Nat} {spa spn : Nat → Nat} {spf : Nat → Nat → Int32} {cm : Nat → ClassId} {D : va_G} {sh : List mShp} {F F' : Nat → Nat → Int32} {R R' : Nat → Nat → Option Nat} {j : Nat} {s : mShp} {H H1 : Heap} (hD : mD base spa spn spf cm D (sh, F, R) H) (h4 : 4 ≤ j) (hs : sh[j]? = some s) (hF : ∀ a, a ≠ j → F' a = F a) (hR : ∀ a, a ≠ j → R' a = R a) (z : H1.size = H.size) (oq : ∀ q : Nat, q ≠ base + (j - 4) → H1[q]? = H[q]?) (hat : va_at D mcl (base + (j - 4), mce base spa cm F' R' j s) H1) : mD base spa spn spf cm D (sh, F', R') H1 := by
  obtain ⟨h1, h2, h3, h5⟩ := hD
  refine ⟨h1, z.trans h2, ?_, fun a ha => ⟨(h5 a ha).1, (hF a (by omega)).trans (h5 a ha).2⟩⟩
  rw [mW_upd (sh := sh) (F := F) (R := R) h4 hs hF hR]
  exact h3.set mW_D (mW_get (hp := (sh, F, R)) h4 hs) hat oq
theorem mD_push {base : Nat} {spa spn : Nat → Nat} {spf : Nat → Nat → Int32} {cm : Nat → ClassId} {D : va_G} {sh : List mShp} {F F' : Nat → Nat → Int32} {R R' : Nat → Nat → Option Nat} {s : mShp} {H H1 : Heap} (hD : mD base spa spn spf cm D (sh, F, R) H) (hF : ∀ a, a ≠ sh.length → F' a = F a) (hR : ∀ a, a ≠ sh.length → R' a = R a) (z : H1.size = H.size + 1) (oq : ∀ q : Nat, q < H.size → H1[q]? = H[q]?) (hat : va_at D mcl (H.size, mce base spa cm F' R' sh.length s) H1) : mD base spa spn spf cm D (sh ++ [s], F', R') H1 := by
  obtain ⟨h1, h2, h3, h5⟩ := hD
  have h1' : 4 ≤ sh.length := h1
  have h2' : H.size = base + (sh.length - 4) := h2
  refine ⟨by show 4 ≤ (sh ++ [s]).length; simp; omega, by show H1.size = base + ((sh ++ [s]).length - 4); simp; omega, ?_, fun a ha => ⟨?_, (hF a (by omega)).trans (h5 a ha).2⟩⟩
  · rw [mW_push (sh := sh) (F := F) (R := R) h1 hF hR]
    refine (h3.kept (fun k q hk => oq q.1 ((h3 k q hk).lt))).app (fun k q hk => ?_)
    have hz : k < 1 := (List.getElem?_eq_some_iff.mp hk).1
    rw [show k = 0 by omega] at hk
    cases hk
    rw [← h2']
    exact hat
  · show (sh ++ [s])[a]? = _
    rw [List.getElem?_append_left (by omega)]
    exact (h5 a ha).1
theorem g_get {M : mM} {d pc : Nat} {L : mLs} {st : List Value} {hp : mHp} {out : mOut} {idx ci f j : Nat} (hd : decode M.2.1 pc = .ok (.getfield idx, 3)) (hf : mFL M.1 idx ci f) (hsh : hp.1[j]? = some (.inl ci)) (h4 : 4 ≤ j) (k : mGo M d (pc + 3, L, mfv (mty ci f) (hp.2.1 j f) (hp.2.2 j f) :: st, hp) out) : mGo M d (pc, L, .ref j :: st, hp) out := by
  refine ⟨k.1, ?_⟩
  intro base spa spn spf cm D p l e R s m args below meth c Q cE sE H locs cells slots ls hX hfr hlo hcE hsE hK hc hs hD hS hL
  have hx := hX.1
  have hb := hX.2.1
  obtain ⟨C, T, N, e1, e2, e3, e4, e5, -, -, -⟩ := hf
  have hts := hX.2.2.2.2.2.2.2.1
  show W p l e R s m args below meth c H locs cells slots Q (F0 m pc ls (.ref (mad base spa j) :: st.map (mtv base spa)))
  rw [mad_hi h4]
  refine va_get (D := D) (cl := mcl) (tys := mtys cm) (ws := mW base spa cm hp) (own := M.1) hx hb hts e4 hX.2.2.2.2.1 hX.2.2.2.2.2.2.2.2.1 hD.2.2.1 (j - 4) (mW_get h4 hsh) e1 f e3 (hts _ e5) (fun _ h => h) (v := mtv base spa (mfv (mty ci f) (hp.2.1 j f) (hp.2.2 j f))) ?_ hd ?_
  · rw [e2, List.getElem?_map, List.getElem?_range e3]
    rfl
  · exact k.2 base spa spn spf cm D p l e R s m args below meth c Q cE sE H locs cells slots ls hX hfr hlo hcE hsE hK hc hs hD hS hL
theorem g_getI {M : mM} {d pc : Nat} {L : mLs} {st : List Value} {hp : mHp} {out : mOut} {idx ci f j : Nat} (hd : decode M.2.1 pc = .ok (.getfield idx, 3)) (hf : mFL M.1 idx ci f) (ht : ∀ i r, mfv (mty ci f) i r = .int i) (hsh : hp.1[j]? = some (.inl ci)) (h4 : 4 ≤ j) (k : mGo M d (pc + 3, L, .int (hp.2.1 j f) :: st, hp) out) : mGo M d (pc, L, .ref j :: st, hp) out :=
  g_get hd hf hsh h4 (by rw [ht]; exact k)
theorem g_getR {M : mM} {d pc : Nat} {L : mLs} {st : List Value} {hp : mHp} {out : mOut} {idx ci f j r : Nat} (hd : decode M.2.1 pc = .ok (.getfield idx, 3)) (hf : mFL M.1 idx ci f) (ht : ∀ i r, mfv (mty ci f) i r = va_rf r) (hsh : hp.1[j]? = some (.inl ci)) (h4 : 4 ≤ j) (hr : hp.2.2 j f = some r) (k : mGo M d (pc + 3, L, .ref r :: st, hp) out) : mGo M d (pc, L, .ref j :: st, hp) out :=
  g_get hd hf hsh h4 (by rw [ht, hr]; exact k)
theorem g_put {M : mM} {d pc : Nat} {L : mLs} {st : List Value} {sh : List mShp} {F F' : Nat → Nat → Int32} {R0 R1 : Nat → Nat → Option Nat} {out : mOut} {idx ci f j : Nat} {v : Value} (hd : decode M.2.1 pc = .ok (.putfield idx, 3)) (hf : mFL M.1 idx ci f) (hfin : mfin ci f = false ∨ (mfin ci f = true ∧ M.2.2.2.2 = true ∧ mdc ci = M.1)) (hsh : sh[j]? = some (.inl ci)) (h4 : 4 ≤ j)
    (hF : ∀ a, a ≠ j → F' a = F a) (hR : ∀ a, a ≠ j → R1 a = R0 a) (hset : ∀ i, mfv (mty ci i) (F' j i) (R1 j i) = if i = f then v else mfv (mty ci i) (F j i) (R0 j i)) (hnf : ∀ base spa, narrow (mty ci f) (mtv base spa v) = mtv base spa v ∧ fits (mty ci f) (mtv base spa v) = true)
    (k : mGo M d (pc + 3, L, st, (sh, F', R1)) out) : mGo M d (pc, L, v :: .ref j :: st, (sh, F, R0)) out := by
  refine ⟨k.1, ?_⟩
  intro base spa spn spf cm D p l e R s m args below meth c Q cE sE H locs cells slots ls hX hfr hlo hcE hsE hK hc hs hD hS hL
  have hx := hX.1
  have hb := hX.2.1
  obtain ⟨C, T, N, e1, e2, e3, e4, e5, e6, e7, e8⟩ := hf
  have hts := hX.2.2.2.2.2.2.2.1
  have hown := hX.2.2.2.2.1
  have hK0 : va_K D mcl (mtys cm) s := hX.2.2.2.2.2.2.2.2.1
  have hap := va_apart (own := M.1) hts e4 (mty ci) e6 e7 hK0 e1
  have hw := mW_get (base := base) (spa := spa) (cm := cm) (hp := (sh, F, R0)) h4 hsh
  obtain ⟨r, h1, cell, q1, q2, q3, q4⟩ := hD.2.2.1 (j - 4) _ hw
  have hr : r = (C, T, N) := Option.some.inj (h1.symm.trans e1)
  subst hr
  obtain ⟨hS0, hfc, kC, hkC, hkind⟩ := hK0.1 ci _ e1
  obtain ⟨cf, kf, fi, fd, hi, hsl⟩ := hS0 f e3
  have hlay := hts _ (e4 _ (u_in_lay e3))
  have hst := (u_facts hfc hkC (u_lays hts e4 e3) hi).1
  have hfs : ((List.range (mN ci)).map (fun k => mtv base spa (mfv (mty ci k) (F j k) (R0 j k)))).set f (mtv base spa v) = (List.range (mN ci)).map (fun k => mtv base spa (mfv (mty ci k) (F' j k) (R1 j k))) := by
    apply List.ext_getElem?
    intro i
    by_cases hif : i = f
    · subst hif
      rw [List.getElem?_set_self (by simp; omega), List.getElem?_map, List.getElem?_range (by omega)]
      show _ = some (mtv base spa (mfv (mty ci i) (F' j i) (R1 j i)))
      rw [hset i, if_pos rfl]
    · rw [List.getElem?_set_ne (Ne.symm hif), List.getElem?_map, List.getElem?_map]
      by_cases hin : i < mN ci
      · rw [List.getElem?_range hin]
        simp only [Option.map_some, hset i, if_neg hif]
      · rw [List.getElem?_eq_none (by simp; omega)]
        rfl
  have hlen : f < ((List.range (mN ci)).map (fun k => mtv base spa (mfv (mty ci k) (F j k) (R0 j k)))).length := by simp; omega
  show W p l e R s m args below meth c H locs cells slots Q (F0 m pc ls (mtv base spa v :: .ref (mad base spa j) :: st.map (mtv base spa)))
  rw [mad_hi h4]
  have fin1 : ∀ H' : Heap, H'[base + (j - 4)]? = some (cell.setSlot fd.slot (mtv base spa v)) → H'.size = H.size → (∀ q, q ≠ base + (j - 4) → H'[q]? = H[q]?) → W p l e R s m args below meth c H' (locs ++ [⟨base + (j - 4), fd.slot⟩]) cells slots Q (F0 m (pc + 3) ls (st.map (mtv base spa))) := by
    intro H' g1 g2 g3
    rw [hsl] at g1
    refine k.2 base spa spn spf cm D p l e R s m args below meth c Q cE sE H' _ cells slots ls hX hfr hlo hcE hsE hK hc hs (mD_upd hD h4 hsh hF hR g2 g3 ?_) (hS.put g2 g3 (by show base ≤ base + (j - 4); omega)) hL
    rw [mce_obj, ← hfs]
    exact ⟨_, e1, t_OB.to (V := updV (vp_V _) f (mtv base spa v)) ⟨_, g1, q2, q3, t_set q4 hap e3 (mtv base spa v)⟩ (fun i _ => vp_updV_set hlen (mtv base spa v) i)⟩
  have hmf : mfin ci f = (T f).2.2.2 := by simp [mfin, e1]
  rcases hfin with hfin | ⟨hfin, hini, hdc⟩
  · rw [hmf] at hfin
    unfold u_lay at hlay
    rw [if_neg (by rw [hfin]; decide)] at hlay
    have h6 := u_store hfc hkC hkind hlay hi (e6 f e3) (hnf base spa).1 (hnf base spa).2
    exact W.putK hx hb (f := fd) ⟨hown, hts _ e5, ⟨_, _, _, hi⟩, hst⟩ (by rw [q2]; exact h6) q1 q3 (by rw [hsl]; exact k2_hasslot (q4 f e3)) rfl rfl hd fin1
  · rw [hmf] at hfin
    have hC : C = M.1 := by rw [← hdc]; simp [mdc, e1]
    unfold u_lay at hlay
    rw [if_pos hfin] at hlay
    have hcf : m.cls = cf := by
      obtain ⟨_, _, c', _, _, _, -, -, hf', -, -, -, hown2, -⟩ := Cond.laysFinal_spec hlay
      have e1' : c' = cf := by have := hi.symm.trans hf'; simp at this; exact this.1.symm
      rw [e8, hC] at hown2
      rw [← e1']; exact Option.some.inj (hown.symm.trans hown2)
    have h6 := u_fits hfc hkC hkind (Or.inr hlay) hi (e6 f e3) (hnf base spa).1 (hnf base spa).2
    exact W.putFinK hx hb hown (hts _ e5) hi hst hcf (hX.2.2.2.2.2.2.1 hini) (by rw [q2]; exact h6) q1 q3 (by rw [hsl]; exact k2_hasslot (q4 f e3)) rfl rfl hd fin1
theorem va_up_eq {α : Type} (f : Nat → α) (k : Nat) (v : α) : va_up f k v k = v := if_pos rfl
theorem g_putI {M : mM} {d pc : Nat} {L : mLs} {st : List Value} {sh : List mShp} {F : Nat → Nat → Int32} {R0 : Nat → Nat → Option Nat} {out : mOut} {idx ci f j : Nat} {x : Int32} (hd : decode M.2.1 pc = .ok (.putfield idx, 3)) (hf : mFL M.1 idx ci f) (hfin : mfin ci f = false ∨ (mfin ci f = true ∧ M.2.2.2.2 = true ∧ mdc ci = M.1)) (hsh : sh[j]? = some (.inl ci)) (h4 : 4 ≤ j) (ht : mty ci f = .int)
    (k : mGo M d (pc + 3, L, st, (sh, va_up F j (va_up (F j) f x), R0)) out) : mGo M d (pc, L, .int x :: .ref j :: st, (sh, F, R0)) out := by
  refine g_put hd hf hfin hsh h4 (fun a ha => va_up_ne _ _ ha) (fun _ _ => rfl) (fun i => ?_) (fun _ _ => by rw [ht]; exact ⟨rfl, rfl⟩) k
  rw [va_up_eq]
  by_cases hi : i = f
  · subst hi
    rw [if_pos rfl, va_up_eq, ht]
    rfl
  · rw [if_neg hi, va_up_ne _ _ hi]
theorem g_putZ {M : mM} {d pc : Nat} {L : mLs} {st : List Value} {sh : List mShp} {F : Nat → Nat → Int32} {R0 : Nat → Nat → Option Nat} {out : mOut} {idx ci f j : Nat} {x : Int32} (hd : decode M.2.1 pc = .ok (.putfield idx, 3)) (hf : mFL M.1 idx ci f) (hfin : mfin ci f = false ∨ (mfin ci f = true ∧ M.2.2.2.2 = true ∧ mdc ci = M.1)) (hsh : sh[j]? = some (.inl ci)) (h4 : 4 ≤ j) (ht : mty ci f = .boolean) (h01 : x = 0 ∨ x = 1)
    (k : mGo M d (pc + 3, L, st, (sh, va_up F j (va_up (F j) f x), R0)) out) : mGo M d (pc, L, .int x :: .ref j :: st, (sh, F, R0)) out := by
  refine g_put hd hf hfin hsh h4 (fun a ha => va_up_ne _ _ ha) (fun _ _ => rfl) (fun i => ?_) (fun _ _ => by rw [ht]; rcases h01 with rfl | rfl <;> exact ⟨rfl, rfl⟩) k
  rw [va_up_eq]
  by_cases hi : i = f
  · subst hi
    rw [if_pos rfl, va_up_eq, ht]
    rfl
  · rw [if_neg hi, va_up_ne _ _ hi]
theorem g_putR {M : mM} {d pc : Nat} {L : mLs} {st : List Value} {sh : List mShp} {F : Nat → Nat → Int32} {R0 : Nat → Nat → Option Nat} {out : mOut} {idx ci f j r : Nat} (hd : decode M.2.1 pc = .ok (.putfield idx, 3)) (hf : mFL M.1 idx ci f) (hfin : mfin ci f = false ∨ (mfin ci f = true ∧ M.2.2.2.2 = true ∧ mdc ci = M.1)) (hsh : sh[j]? = some (.inl ci)) (h4 : 4 ≤ j) (ht : ∀ i r, mfv (mty ci f) i r = va_rf r) (hnf : ∀ x, narrow (mty ci f) (.ref x) = .ref x ∧ fits (mty ci f) (.ref x) = true)
    (k : mGo M d (pc + 3, L, st, (sh, F, va_up R0 j (va_up (R0 j) f (some r)))) out) : mGo M d (pc, L, .ref r :: .ref j :: st, (sh, F, R0)) out := by
  refine g_put hd hf hfin hsh h4 (fun _ _ => rfl) (fun a ha => va_up_ne _ _ ha) (fun i => ?_) (fun base spa => hnf _) k
  rw [va_up_eq]
  by_cases hi : i = f
  · subst hi
    rw [if_pos rfl, va_up_eq, ht]
    rfl
  · rw [if_neg hi, va_up_ne _ _ hi]
theorem g_iald {M : mM} {d pc : Nat} {L : mLs} {st : List Value} {hp : mHp} {out : mOut} {j n : Nat} {i : Int32} (hd : decode M.2.1 pc = .ok (.iaload, 1)) (hsh : hp.1[j]? = some (.inr (0, n))) (h4 : 4 ≤ j) (hi : vp_in i n) (k : mGo M d (pc + 1, L, .int (hp.2.1 j i.toNatClampNeg) :: st, hp) out) : mGo M d (pc, L, .int i :: .ref j :: st, hp) out := by
  refine ⟨k.1, ?_⟩
  intro base spa spn spf cm D p l e R s m args below meth c Q cE sE H locs cells slots ls hX hfr hlo hcE hsE hK hc hs hD hS hL
  have hx := hX.1
  have hb := hX.2.1
  show W p l e R s m args below meth c H locs cells slots Q (F0 m pc ls (.int i :: .ref (mad base spa j) :: st.map (mtv base spa)))
  rw [mad_hi h4]
  refine va_iald (D := D) (cl := mcl) (tys := mtys cm) (ws := mW base spa cm hp) hx hb hX.2.2.2.2.2.2.2.2.1 hD.2.2.1 (j - 4) 0 (mW_get h4 hsh) rfl hi hd ?_
  exact k.2 base spa spn spf cm D p l e R s m args below meth c Q cE sE H locs cells slots ls hX hfr hlo hcE hsE hK hc hs hD hS hL
theorem g_zald {M : mM} {d pc : Nat} {L : mLs} {st : List Value} {hp : mHp} {out : mOut} {j n : Nat} {i : Int32} (hd : decode M.2.1 pc = .ok (.baload, 1)) (hsh : hp.1[j]? = some (.inr (1, n))) (h4 : 4 ≤ j) (hi : vp_in i n) (k : mGo M d (pc + 1, L, .int (hp.2.1 j i.toNatClampNeg) :: st, hp) out) : mGo M d (pc, L, .int i :: .ref j :: st, hp) out := by
  refine ⟨k.1, ?_⟩
  intro base spa spn spf cm D p l e R s m args below meth c Q cE sE H locs cells slots ls hX hfr hlo hcE hsE hK hc hs hD hS hL
  have hx := hX.1
  have hb := hX.2.1
  show W p l e R s m args below meth c H locs cells slots Q (F0 m pc ls (.int i :: .ref (mad base spa j) :: st.map (mtv base spa)))
  rw [mad_hi h4]
  refine va_zald (D := D) (cl := mcl) (tys := mtys cm) (ws := mW base spa cm hp) hx hb hX.2.2.2.2.2.2.2.2.1 hD.2.2.1 (j - 4) 1 (mW_get h4 hsh) rfl hi hd ?_
  exact k.2 base spa spn spf cm D p l e R s m args below meth c Q cE sE H locs cells slots ls hX hfr hlo hcE hsE hK hc hs hD hS hL
theorem g_aald {M : mM} {d pc : Nat} {L : mLs} {st : List Value} {hp : mHp} {out : mOut} {j n r : Nat} {i : Int32} (hd : decode M.2.1 pc = .ok (.aaload, 1)) (hsh : hp.1[j]? = some (.inr (2, n))) (h4 : 4 ≤ j) (hi : vp_in i n) (hr : hp.2.2 j i.toNatClampNeg = some r) (k : mGo M d (pc + 1, L, .ref r :: st, hp) out) : mGo M d (pc, L, .int i :: .ref j :: st, hp) out := by
  refine ⟨k.1, ?_⟩
  intro base spa spn spf cm D p l e R s m args below meth c Q cE sE H locs cells slots ls hX hfr hlo hcE hsE hK hc hs hD hS hL
  have hx := hX.1
  have hb := hX.2.1
  show W p l e R s m args below meth c H locs cells slots Q (F0 m pc ls (.int i :: .ref (mad base spa j) :: st.map (mtv base spa)))
  rw [mad_hi h4]
  refine va_aldq (D := D) (cl := mcl) (tys := mtys cm) (ws := mW base spa cm hp) (C := RX4) hx hb hX.2.2.2.2.2.2.2.2.1 hD.2.2.1 (j - 4) 2 (mW_get h4 hsh) rfl hi hd ?_
  simp only [hr, Option.map_some]
  exact k.2 base spa spn spf cm D p l e R s m args below meth c Q cE sE H locs cells slots ls hX hfr hlo hcE hsE hK hc hs hD hS hL
theorem g_sald {M : mM} {d pc : Nat} {L : mLs} {st : List Value} {hp : mHp} {out : mOut} {j n : Nat} {i : Int32} (hd : decode M.2.1 pc = .ok (.iaload, 1)) (hsh : hp.1[j]? = some (.inr (3, n))) (h4 : j < 4) (hi : vp_in i n) (k : mGo M d (pc + 1, L, .int (hp.2.1 j i.toNatClampNeg) :: st, hp) out) : mGo M d (pc, L, .int i :: .ref j :: st, hp) out := by
  refine ⟨k.1, ?_⟩
  intro base spa spn spf cm D p l e R s m args below meth c Q cE sE H locs cells slots ls hX hfr hlo hcE hsE hK hc hs hD hS hL
  have hx := hX.1
  have hb := hX.2.1
  have h5 := hD.2.2.2 j h4
  have h6 := hX.2.2.2.2.2.2.2.2.2.2.2.2.1 j h4
  have h7 : base ≤ s.heap.size := hX.2.2.2.2.2.2.2.2.2.2.2.1
  have hn : n = spn j := by
    have := hsh.symm.trans h5.1
    simpa using this
  show W p l e R s m args below meth c H locs cells slots Q (F0 m pc ls (.int i :: .ref (mad base spa j) :: st.map (mtv base spa)))
  rw [mad_lo h4]
  refine va_sld (A := fun q => base ≤ q) hx hb h6.2 (by omega) (by show ¬ base ≤ spa j; omega) hS (by rw [← hn]; exact hi) hd ?_
  rw [← h5.2]
  exact k.2 base spa spn spf cm D p l e R s m args below meth c Q cE sE H locs cells slots ls hX hfr hlo hcE hsE hK hc hs hD hS hL
theorem g_alen {M : mM} {d pc : Nat} {L : mLs} {st : List Value} {hp : mHp} {out : mOut} {j t n : Nat} (hd : decode M.2.1 pc = .ok (.arraylength, 1)) (hsh : hp.1[j]? = some (.inr (t, n))) (ht : t < 3) (h4 : 4 ≤ j) (k : mGo M d (pc + 1, L, .int (Int32.ofNat n) :: st, hp) out) : mGo M d (pc, L, .ref j :: st, hp) out := by
  refine ⟨k.1, ?_⟩
  intro base spa spn spf cm D p l e R s m args below meth c Q cE sE H locs cells slots ls hX hfr hlo hcE hsE hK hc hs hD hS hL
  have hx := hX.1
  have hb := hX.2.1
  show W p l e R s m args below meth c H locs cells slots Q (F0 m pc ls (.ref (mad base spa j) :: st.map (mtv base spa)))
  rw [mad_hi h4]
  have hw := mW_get (base := base) (spa := spa) (cm := cm) h4 hsh
  rcases (by omega : t = 0 ∨ t = 1 ∨ t = 2) with rfl | rfl | rfl
  · refine va_alen (D := D) (cl := mcl) (tys := mtys cm) (ws := mW base spa cm hp) hx hb hX.2.2.2.2.2.2.2.2.1 hD.2.2.1 (j - 4) 0 hw rfl rfl hd ?_
    exact k.2 base spa spn spf cm D p l e R s m args below meth c Q cE sE H locs cells slots ls hX hfr hlo hcE hsE hK hc hs hD hS hL
  · refine va_alen (D := D) (cl := mcl) (tys := mtys cm) (ws := mW base spa cm hp) hx hb hX.2.2.2.2.2.2.2.2.1 hD.2.2.1 (j - 4) 1 hw rfl rfl hd ?_
    exact k.2 base spa spn spf cm D p l e R s m args below meth c Q cE sE H locs cells slots ls hX hfr hlo hcE hsE hK hc hs hD hS hL
  · refine va_alen (D := D) (cl := mcl) (tys := mtys cm) (ws := mW base spa cm hp) hx hb hX.2.2.2.2.2.2.2.2.1 hD.2.2.1 (j - 4) 2 hw rfl rfl hd ?_
    exact k.2 base spa spn spf cm D p l e R s m args below meth c Q cE sE H locs cells slots ls hX hfr hlo hcE hsE hK hc hs hD hS hL
theorem g_slen {M : mM} {d pc : Nat} {L : mLs} {st : List Value} {hp : mHp} {out : mOut} {j n : Nat} (hd : decode M.2.1 pc = .ok (.arraylength, 1)) (hsh : hp.1[j]? = some (.inr (3, n))) (h4 : j < 4) (k : mGo M d (pc + 1, L, .int (Int32.ofNat n) :: st, hp) out) : mGo M d (pc, L, .ref j :: st, hp) out := by
  refine ⟨k.1, ?_⟩
  intro base spa spn spf cm D p l e R s m args below meth c Q cE sE H locs cells slots ls hX hfr hlo hcE hsE hK hc hs hD hS hL
  have hx := hX.1
  have hb := hX.2.1
  have h5 := hD.2.2.2 j h4
  have h6 := hX.2.2.2.2.2.2.2.2.2.2.2.2.1 j h4
  have h7 : base ≤ s.heap.size := hX.2.2.2.2.2.2.2.2.2.2.2.1
  have hn : n = spn j := by
    have := hsh.symm.trans h5.1
    simpa using this
  show W p l e R s m args below meth c H locs cells slots Q (F0 m pc ls (.ref (mad base spa j) :: st.map (mtv base spa)))
  rw [mad_lo h4]
  refine va_slen (A := fun q => base ≤ q) hx hb h6.2 (by omega) (by show ¬ base ≤ spa j; omega) hS hd ?_
  rw [← hn]
  exact k.2 base spa spn spf cm D p l e R s m args below meth c Q cE sE H locs cells slots ls hX hfr hlo hcE hsE hK hc hs hD hS hL
theorem g_iast {M : mM} {d pc : Nat} {L : mLs} {st : List Value} {sh : List mShp} {F : Nat → Nat → Int32} {R0 : Nat → Nat → Option Nat} {out : mOut} {j n : Nat} {i x : Int32} (hd : decode M.2.1 pc = .ok (.iastore, 1)) (hsh : sh[j]? = some (.inr (0, n))) (h4 : 4 ≤ j) (hi : vp_in i n) (k : mGo M d (pc + 1, L, st, (sh, va_up F j (va_up (F j) i.toNatClampNeg x), R0)) out) : mGo M d (pc, L, .int x :: .int i :: .ref j :: st, (sh, F, R0)) out := by
  refine ⟨k.1, ?_⟩
  intro base spa spn spf cm D p l e R s m args below meth c Q cE sE H locs cells slots ls hX hfr hlo hcE hsE hK hc hs hD hS hL
  have hx := hX.1
  have hb := hX.2.1
  show W p l e R s m args below meth c H locs cells slots Q (F0 m pc ls (.int x :: .int i :: .ref (mad base spa j) :: st.map (mtv base spa)))
  rw [mad_hi h4]
  have hK0 : va_K D mcl (mtys cm) s := hX.2.2.2.2.2.2.2.2.1
  have hw := hD.2.2.1 _ _ (mW_get (base := base) (spa := spa) (cm := cm) h4 hsh)
  refine W.iast (a := base + (j - 4)) (cell := vp_cell (cm 0) (n, .inl (F j))) hx hb hw ((hK0.2 0 _ rfl).1 n (fun a => .int (F j a))) (fun q => by cases q) (by show ¬ (i < 0 ∨ (arrV _ _ _).slots.size ≤ _); rw [arrV_size]; exact hi) rfl rfl hd fun H1 e1 z oq => ?_
  refine k.2 base spa spn spf cm D p l e R s m args below meth c Q cE sE H1 _ cells slots ls hX hfr hlo hcE hsE hK hc hs (mD_upd hD h4 hsh (fun a ha => va_up_ne _ _ ha) (fun _ _ => rfl) z oq ?_) (hS.put z oq (by show base ≤ base + (j - 4); omega)) hL
  rw [mce_int (by decide), va_up_eq]
  show H1[base + (j - 4)]? = some (vp_cell _ _)
  rw [e1, vp_cell_i, vp_cell_i, arrV_store]
  congr 2
  funext q
  by_cases hq : q = i.toNatClampNeg
  · subst hq
    simp [updV, va_up]
  · simp [updV, va_up, hq]
theorem g_zast {M : mM} {d pc : Nat} {L : mLs} {st : List Value} {sh : List mShp} {F : Nat → Nat → Int32} {R0 : Nat → Nat → Option Nat} {out : mOut} {j n : Nat} {i x : Int32} (hd : decode M.2.1 pc = .ok (.bastore, 1)) (hsh : sh[j]? = some (.inr (1, n))) (h4 : 4 ≤ j) (hi : vp_in i n) (h01 : narrow .boolean (.int x) = .int x) (k : mGo M d (pc + 1, L, st, (sh, va_up F j (va_up (F j) i.toNatClampNeg x), R0)) out) : mGo M d (pc, L, .int x :: .int i :: .ref j :: st, (sh, F, R0)) out := by
  refine ⟨k.1, ?_⟩
  intro base spa spn spf cm D p l e R s m args below meth c Q cE sE H locs cells slots ls hX hfr hlo hcE hsE hK hc hs hD hS hL
  have hx := hX.1
  have hb := hX.2.1
  show W p l e R s m args below meth c H locs cells slots Q (F0 m pc ls (.int x :: .int i :: .ref (mad base spa j) :: st.map (mtv base spa)))
  rw [mad_hi h4]
  have hK0 : va_K D mcl (mtys cm) s := hX.2.2.2.2.2.2.2.2.1
  have hw := hD.2.2.1 _ _ (mW_get (base := base) (spa := spa) (cm := cm) h4 hsh)
  refine W.zast (a := base + (j - 4)) (cell := vp_cell (cm 1) (n, .inl (F j))) hx hb hw ((hK0.2 1 _ rfl).1 n (fun a => .int (F j a))) (fun q => by cases q) (by show ¬ (i < 0 ∨ (arrV _ _ _).slots.size ≤ _); rw [arrV_size]; exact hi) rfl rfl hd fun H1 e1 z oq => ?_
  refine k.2 base spa spn spf cm D p l e R s m args below meth c Q cE sE H1 _ cells slots ls hX hfr hlo hcE hsE hK hc hs (mD_upd hD h4 hsh (fun a ha => va_up_ne _ _ ha) (fun _ _ => rfl) z oq ?_) (hS.put z oq (by show base ≤ base + (j - 4); omega)) hL
  rw [mce_int (by decide), va_up_eq]
  show H1[base + (j - 4)]? = some (vp_cell _ _)
  rw [e1, vp_cell_i, vp_cell_i, arrV_store]
  congr 2
  funext q
  by_cases hq : q = i.toNatClampNeg
  · subst hq
    simp [updV, va_up, h01]
  · simp [updV, va_up, hq]
theorem g_aast {M : mM} {d pc : Nat} {L : mLs} {st : List Value} {sh : List mShp} {F : Nat → Nat → Int32} {R0 : Nat → Nat → Option Nat} {out : mOut} {j n v ci : Nat} {i : Int32} (hd : decode M.2.1 pc = .ok (.aastore, 1)) (hsh : sh[j]? = some (.inr (2, n))) (h4 : 4 ≤ j) (hi : vp_in i n) (hv : sh[v]? = some (.inl ci)) (hv4 : 4 ≤ v) (hci : mcl[ci]?.map (fun q => q.1) = some RX4) (k : mGo M d (pc + 1, L, st, (sh, F, va_up R0 j (va_up (R0 j) i.toNatClampNeg (some v)))) out) : mGo M d (pc, L, .ref v :: .int i :: .ref j :: st, (sh, F, R0)) out := by
  refine ⟨k.1, ?_⟩
  intro base spa spn spf cm D p l e R s m args below meth c Q cE sE H locs cells slots ls hX hfr hlo hcE hsE hK hc hs hD hS hL
  have hx := hX.1
  have hb := hX.2.1
  show W p l e R s m args below meth c H locs cells slots Q (F0 m pc ls (.ref (mad base spa v) :: .int i :: .ref (mad base spa j) :: st.map (mtv base spa)))
  rw [mad_hi h4, mad_hi hv4]
  have hK0 : va_K D mcl (mtys cm) s := hX.2.2.2.2.2.2.2.2.1
  have hw := hD.2.2.1 _ _ (mW_get (base := base) (spa := spa) (cm := cm) h4 hsh)
  obtain ⟨r, hr, hr1⟩ := Option.map_eq_some_iff.mp hci
  obtain ⟨r', hr', cellV, g1, g2, g3, -⟩ := hD.2.2.1 _ _ (mW_get (base := base) (spa := spa) (cm := cm) hv4 hv)
  have hcls := (hK0.1 ci r hr).2
  rw [hr1] at hcls
  obtain ⟨kA, comp, k1, k2, k3, -⟩ := (hK0.2 2 _ rfl).2
  have hcomp : comp = D.1 ci := Option.some.inj (k3.symm.trans hcls.1)
  subst hcomp
  obtain ⟨kC, hkC, -⟩ := hcls.2
  have hlt : i.toNatClampNeg < n := Nat.not_le.mp fun q => hi (Or.inr q)
  have h0 : ¬ i < 0 := fun q => hi (Or.inl q)
  refine W.aast (a := base + (j - 4)) (cell := vp_cell (cm 2) (n, .inr (.inr (.inr (.inr (fun i => (R0 j i).map (mad base spa))))))) hx hb hw (fun q h => by cases h) (fun h => by cases h) k1 k2 rfl hkC ⟨h0, by show _ < (arrV _ _ _).slots.size; rw [arrV_size]; exact hlt⟩ g1 (fun q h => by rw [g3] at h; cases h) (by rw [g2]; exact hkC) (by rw [g2]; exact va_assign hcls) rfl rfl hd fun H1 e1 z oq => ?_
  refine k.2 base spa spn spf cm D p l e R s m args below meth c Q cE sE H1 _ cells slots ls hX hfr hlo hcE hsE hK hc hs (mD_upd hD h4 hsh (fun _ _ => rfl) (fun a ha => va_up_ne _ _ ha) z oq ?_) (hS.put z oq (by show base ≤ base + (j - 4); omega)) hL
  rw [mce_ref, va_up_eq]
  show H1[base + (j - 4)]? = some (vp_cell _ _)
  rw [e1, vp_cell_q, vp_cell_q, arrV_store]
  congr 2
  funext q
  by_cases hq : q = i.toNatClampNeg
  · subst hq
    simp [updV, va_up, va_rf, mad_hi hv4]
  · simp [updV, va_up, hq]
theorem g_gets {M : mM} {d pc : Nat} {L : mLs} {st : List Value} {hp : mHp} {out : mOut} {idx j : Nat} {host : String} (hd : decode M.2.1 pc = .ok (.getstatic idx, 3)) (hl : Cond.fieldLinkNest M.1 idx RX6 (mSN j) "[I" host ∈ mNW) (hj : j < 3) (k : mGo M d (pc + 3, L, .ref (j + 1) :: st, hp) out) : mGo M d (pc, L, st, hp) out := by
  refine ⟨k.1, ?_⟩
  intro base spa spn spf cm D p l e R s m args below meth c Q cE sE H locs cells slots ls hX hfr hlo hcE hsE hK hc hs hD hS hL
  have hx := hX.1
  have hb := hX.2.1
  have hz := hX.2.2.2.2.2.2.2.2.2.2.2.2.2.1 j hj
  have hn := hX.2.2.2.2.2.2.2.2.2.1 _ hl
  refine va_getsN (A := fun q => base ≤ q) hx hb hz hS hX.2.2.2.2.1 (va_Nw.use rfl hn) (fun _ h => h) hd ?_
  have e9 : mad base spa (j + 1) = spa (j + 1) := mad_lo (by omega)
  have h9 := k.2 base spa spn spf cm D p l e R s m args below meth c Q cE sE H locs cells slots ls hX hfr hlo hcE hsE hK hc hs hD hS hL
  rw [List.map_cons] at h9
  rw [← e9]
  exact h9
end
section
theorem mad_len {base : Nat} {spa spn : Nat → Nat} {spf : Nat → Nat → Int32} {cm : Nat → ClassId} {D : va_G} {hp : mHp} {H : Heap} (hD : mD base spa spn spf cm D hp H) : mad base spa hp.1.length = H.size := by rw [mad_hi hD.1]; exact hD.2.1.symm
theorem mb_len {base : Nat} {H0 H H1 : Heap} {locs : List Loc} (hS : va_S (fun q => base ≤ q) H0 H locs) (z : H1.size = H.size + 1) (oq : ∀ q : Nat, q < H.size → H1[q]? = H[q]?) (hb : base ≤ H0.size) : va_S (fun q => base ≤ q) H0 H1 locs :=
  ⟨Nat.le_trans hS.1 (by omega), fun x h1 h2 => (oq x (Nat.lt_of_lt_of_le h1 hS.1)).trans (hS.2.1 x h1 h2), hS.2.2⟩
theorem g_new {M : mM} {d pc : Nat} {L : mLs} {st : List Value} {sh : List mShp} {F : Nat → Nat → Int32} {R0 : Nat → Nat → Option Nat} {out : mOut} {idx ci n : Nat} {C : String} (hd : decode M.2.1 pc = .ok (.new idx, 3)) (hw : Cond.classLink M.1 idx C ∈ mGW) (hn : mNC ci C) (hlen : sh.length = n) (hF : F n = fun _ => 0) (hR : R0 n = fun _ => none) (k : mGo M d (pc + 3, L, .ref n :: st, (sh ++ [.inl ci], F, R0)) out) : mGo M d (pc, L, st, (sh, F, R0)) out := by
  subst hlen
  have k1 := k.1
  simp only [List.length_append, List.length_singleton, mSz_push] at k1
  refine ⟨⟨by show sh.length ≤ _; omega, by show mSz sh ≤ _; omega⟩, ?_⟩
  intro base spa spn spf cm D p l e R s m args below meth c Q cE sE H locs cells slots ls hX hfr hlo hcE hsE hK hc hs hD hS hL
  have hx := hX.1
  have hb := hX.2.1
  obtain ⟨T, N, e1, e2, e4, e5, e6, e7, e8⟩ := hn
  have hts := hX.2.2.2.2.2.2.2.1
  have hK0 : va_K D mcl (mtys cm) s := hX.2.2.2.2.2.2.2.2.1
  have hKn := hK0.1 ci _ e1
  have hc' : cells + out.2.1.length = cE + sh.length := hc
  have hs' : slots + mSz out.2.1 = sE + mSz sh := hs
  refine W.newcK hx hb hX.2.2.2.2.1 (hts _ hw) (hts _ e5) (hts _ e6) rfl hd (by omega) (by omega) hKn.2.1 rfl fun H1 kC hkC g1 z1 o1 => ?_
  have hD1 : mD base spa spn spf cm D (sh ++ [.inl ci], F, R0) H1 := by
    refine mD_push hD (fun _ _ => rfl) (fun _ _ => rfl) z1 o1 ?_
    rw [mce_obj, hF, hR]
    refine ⟨_, e1, (u_born (mty ci) hts e4 hKn hkC g1 e7).to (fun j hj => ?_)⟩
    show defaultValue (mty ci j) = ((List.range (mN ci)).map _).getD j .null
    have hjN : j < mN ci := by rw [e2]; exact hj
    rw [List.getD_eq_getElem?_getD, List.getElem?_map, List.getElem?_range hjN, e8 j hj]
    show mfv (mty ci j) 0 none = mtv base spa (mfv (mty ci j) 0 none)
    cases mty ci j <;> rfl
  have h9 := k.2 base spa spn spf cm D p l e R s m args below meth c Q cE sE H1 locs (cells + 1) (slots + N) ls hX hfr hlo hcE hsE hK (by show cells + 1 + out.2.1.length = cE + (sh ++ [_]).length; simp; omega) (by show slots + N + mSz out.2.1 = sE + mSz (sh ++ [_]); rw [mSz_push]; simp only [e2]; omega) hD1 (mb_len hS z1 o1 hX.2.2.2.2.2.2.2.2.2.2.2.1) hL
  have e9 : mtv base spa (.ref sh.length) = .ref H.size := congrArg Value.ref (mad_len hD)
  rw [List.map_cons, e9] at h9
  exact h9
theorem g_newi {M : mM} {d pc : Nat} {L : mLs} {st : List Value} {sh : List mShp} {F : Nat → Nat → Int32} {R0 : Nat → Nat → Option Nat} {out : mOut} {n N : Nat} {x : Int32} (hd : decode M.2.1 pc = .ok (.newarray .int, 2)) (hx0 : ¬ x < 0) (hN : x.toNatClampNeg = N) (hN2 : N ≤ 100000) (hlen : sh.length = n) (hF : F n = fun _ => 0) (hg : Cond.arrayClass .int ∈ mGW) (k : mGo M d (pc + 2, L, .ref n :: st, (sh ++ [.inr (0, N)], F, R0)) out) : mGo M d (pc, L, .int x :: st, (sh, F, R0)) out := by
  subst hlen
  have k1 := k.1
  simp only [List.length_append, List.length_singleton, mSz_push] at k1
  refine ⟨⟨by show sh.length ≤ _; omega, by show mSz sh ≤ _; omega⟩, ?_⟩
  intro base spa spn spf cm D p l e R s m args below meth c Q cE sE H locs cells slots ls hX hfr hlo hcE hsE hK hc hs hD hS hL
  have hx := hX.1
  have hb := hX.2.1
  have hts := hX.2.2.2.2.2.2.2.1
  have hK0 : va_K D mcl (mtys cm) s := hX.2.2.2.2.2.2.2.2.1
  have hc' : cells + out.2.1.length = cE + sh.length := hc
  have hs' : slots + mSz out.2.1 = sE + mSz sh := hs
  refine va_newaK (atype := .int) hx hb (hts _ hg) rfl hd rfl hx0 hN (by show N * 4 ≤ 536870912; omega) (by omega) (by omega) rfl fun H1 cA g1 z1 o1 hAr hNm => ?_
  have hcA : cA = cm 0 := Option.some.inj (hNm.symm.trans (hK0.2 0 _ rfl).2)
  subst hcA
  have hD1 : mD base spa spn spf cm D (sh ++ [.inr (0, N)], F, R0) H1 := by
    refine mD_push hD (fun _ _ => rfl) (fun _ _ => rfl) z1 o1 ?_
    rw [mce_int (by decide), hF]
    exact g1
  have h9 := k.2 base spa spn spf cm D p l e R s m args below meth c Q cE sE H1 locs (cells + 1) (slots + N) ls hX hfr hlo hcE hsE hK (by show cells + 1 + out.2.1.length = cE + (sh ++ [_]).length; simp; omega) (by show slots + N + mSz out.2.1 = sE + mSz (sh ++ [_]); rw [mSz_push]; simp only; omega) hD1 (mb_len hS z1 o1 hX.2.2.2.2.2.2.2.2.2.2.2.1) hL
  have e9 : mtv base spa (.ref sh.length) = .ref H.size := congrArg Value.ref (mad_len hD)
  rw [List.map_cons, e9] at h9
  exact h9
theorem g_newz {M : mM} {d pc : Nat} {L : mLs} {st : List Value} {sh : List mShp} {F : Nat → Nat → Int32} {R0 : Nat → Nat → Option Nat} {out : mOut} {n N : Nat} {x : Int32} (hd : decode M.2.1 pc = .ok (.newarray .boolean, 2)) (hx0 : ¬ x < 0) (hN : x.toNatClampNeg = N) (hN2 : N ≤ 100000) (hlen : sh.length = n) (hF : F n = fun _ => 0) (hg : Cond.arrayClass .boolean ∈ mGW) (k : mGo M d (pc + 2, L, .ref n :: st, (sh ++ [.inr (1, N)], F, R0)) out) : mGo M d (pc, L, .int x :: st, (sh, F, R0)) out := by
  subst hlen
  have k1 := k.1
  simp only [List.length_append, List.length_singleton, mSz_push] at k1
  refine ⟨⟨by show sh.length ≤ _; omega, by show mSz sh ≤ _; omega⟩, ?_⟩
  intro base spa spn spf cm D p l e R s m args below meth c Q cE sE H locs cells slots ls hX hfr hlo hcE hsE hK hc hs hD hS hL
  have hx := hX.1
  have hb := hX.2.1
  have hts := hX.2.2.2.2.2.2.2.1
  have hK0 : va_K D mcl (mtys cm) s := hX.2.2.2.2.2.2.2.2.1
  have hc' : cells + out.2.1.length = cE + sh.length := hc
  have hs' : slots + mSz out.2.1 = sE + mSz sh := hs
  refine va_newaK (atype := .boolean) hx hb (hts _ hg) rfl hd rfl hx0 hN (by show N * 1 ≤ 536870912; omega) (by omega) (by omega) rfl fun H1 cA g1 z1 o1 hAr hNm => ?_
  have hcA : cA = cm 1 := Option.some.inj (hNm.symm.trans (hK0.2 1 _ rfl).2)
  subst hcA
  have hD1 : mD base spa spn spf cm D (sh ++ [.inr (1, N)], F, R0) H1 := by
    refine mD_push hD (fun _ _ => rfl) (fun _ _ => rfl) z1 o1 ?_
    rw [mce_int (by decide), hF]
    exact g1
  have h9 := k.2 base spa spn spf cm D p l e R s m args below meth c Q cE sE H1 locs (cells + 1) (slots + N) ls hX hfr hlo hcE hsE hK (by show cells + 1 + out.2.1.length = cE + (sh ++ [_]).length; simp; omega) (by show slots + N + mSz out.2.1 = sE + mSz (sh ++ [_]); rw [mSz_push]; simp only; omega) hD1 (mb_len hS z1 o1 hX.2.2.2.2.2.2.2.2.2.2.2.1) hL
  have e9 : mtv base spa (.ref sh.length) = .ref H.size := congrArg Value.ref (mad_len hD)
  rw [List.map_cons, e9] at h9
  exact h9
theorem g_newq {M : mM} {d pc : Nat} {L : mLs} {st : List Value} {sh : List mShp} {F : Nat → Nat → Int32} {R0 : Nat → Nat → Option Nat} {out : mOut} {idx n N : Nat} {x : Int32} (hd : decode M.2.1 pc = .ok (.anewarray idx, 3)) (hw : Cond.classLink M.1 idx RX4 ∈ mGW) (hx0 : ¬ x < 0) (hN : x.toNatClampNeg = N) (hN2 : N ≤ 100000) (hlen : sh.length = n) (hR : R0 n = fun _ => none) (k : mGo M d (pc + 3, L, .ref n :: st, (sh ++ [.inr (2, N)], F, R0)) out) : mGo M d (pc, L, .int x :: st, (sh, F, R0)) out := by
  subst hlen
  subst hN
  have k1 := k.1
  simp only [List.length_append, List.length_singleton, mSz_push] at k1
  refine ⟨⟨by show sh.length ≤ _; omega, by show mSz sh ≤ _; omega⟩, ?_⟩
  intro base spa spn spf cm D p l e R s m args below meth c Q cE sE H locs cells slots ls hX hfr hlo hcE hsE hK hc hs hD hS hL
  have hx := hX.1
  have hb := hX.2.1
  have hts := hX.2.2.2.2.2.2.2.1
  have hK0 : va_K D mcl (mtys cm) s := hX.2.2.2.2.2.2.2.2.1
  have hc' : cells + out.2.1.length = cE + sh.length := hc
  have hs' : slots + mSz out.2.1 = sE + mSz sh := hs
  refine W.anew hx hb hX.2.2.2.2.1 (hts _ hw) (va_AO.use hX.2.2.2.2.2.2.2.2.2.2.1) rfl hd rfl hx0 (by omega) (by omega) (by omega) fun cA kA comp f1 f2 f3 f4 => ?_
  obtain ⟨kA2, comp2, -, -, -, j4⟩ := (hK0.2 2 _ rfl).2
  have hcA : cA = cm 2 := Option.some.inj (f1.symm.trans j4)
  subst hcA
  generalize hH1 : H.push ({ cls := cm 2, slots := Array.replicate x.toNatClampNeg .null, vm := .none } : Cell) = H1
  have z1 : H1.size = H.size + 1 := by rw [← hH1, Array.size_push]
  have g1 : H1[H.size]? = some (arrV (cm 2) x.toNatClampNeg (fun _ => .null)) := by rw [← hH1, Array.getElem?_push_size, ← arrV_new]
  have o1 : ∀ q : Nat, q < H.size → H1[q]? = H[q]? := fun q hq => by rw [← hH1, Array.getElem?_push, if_neg (Nat.ne_of_lt hq)]
  have hD1 : mD base spa spn spf cm D (sh ++ [.inr (2, x.toNatClampNeg)], F, R0) H1 := by
    refine mD_push hD (fun _ _ => rfl) (fun _ _ => rfl) z1 o1 ?_
    rw [mce_ref, hR]
    exact g1
  have h9 := k.2 base spa spn spf cm D p l e R s m args below meth c Q cE sE H1 locs (cells + 1) (slots + x.toNatClampNeg) ls hX hfr hlo hcE hsE hK (by show cells + 1 + out.2.1.length = cE + (sh ++ [_]).length; simp; omega) (by show slots + x.toNatClampNeg + mSz out.2.1 = sE + mSz (sh ++ [_]); rw [mSz_push]; simp only; omega) hD1 (mb_len hS z1 o1 hX.2.2.2.2.2.2.2.2.2.2.2.1) hL
  have e9 : mtv base spa (.ref sh.length) = .ref H.size := congrArg Value.ref (mad_len hD)
  rw [List.map_cons, e9] at h9
  exact h9
theorem m_rest {base : Nat} {spa : Nat → Nat} {st : List Value} {n : Nat} (h : st.length ≤ n) : ((st.map (mtv base spa)).map fun v => v.category).sum ≤ 2 * n := by
  induction st generalizing n with
  | nil => simp
  | cons v t ih =>
    have h1 : t.length + 1 ≤ n := by simpa using h
    have h2 := ih (n := n - 1) (by omega)
    have h3 : v.category ≤ 2 := by cases v <;> simp [Value.category]
    simp only [List.map_cons, List.sum_cons, mtv_cat]
    omega
theorem g_obj {M : mM} {d pc j : Nat} {L : mLs} {st : List Value} {hp : mHp} {out : mOut} {idx : Nat} (hd : decode M.2.1 pc = .ok (.invokespecial idx, 3)) (hw : Cond.methodLink M.1 idx objectInit ∈ mGW) (w1 : Cond.instanceMethod objectInit ∈ mGW) (w2 : Cond.code objectInit ⟨#[0xb1]⟩ 1 none ∈ mGW) (hst : st.length ≤ 4) (k : mGo M (d + 1) (pc + 3, L, st, hp) out) : mGo M (d + 1) (pc, L, .ref j :: st, hp) out := by
  refine ⟨k.1, ?_⟩
  intro base spa spn spf cm D p l e R s m args below meth c Q cE sE H locs cells slots ls hX hfr hlo hcE hsE hK hc hs hD hS hL
  have hx := hX.1
  have hb := hX.2.1
  have hts := hX.2.2.2.2.2.2.2.1
  have h8 := m_rest (base := base) (spa := spa) hst
  refine W.objInit (a := mad base spa j) (rest := st.map (mtv base spa)) hx hb hX.2.2.2.2.1 (hts _ hw) (hts _ w1) (hts _ w2) rfl (by show ls.size = _; rw [hX.2.2.2.1]; exact hL.1) rfl hd (by omega) (by show 2 * 0 + _ + 12 ≤ _; omega) ?_
  exact k.2 base spa spn spf cm D p l e R s m args below meth c Q cE sE H locs cells slots ls hX hfr hlo hcE hsE hK hc hs hD hS hL
theorem m_nn {z : Int32} (hz : ¬ z < 0) : z.toInt = (z.toNatClampNeg : Int) := by
  have hz0 : (0 : Int) ≤ z.toInt := by
    have := Int32.not_lt.mp hz
    simpa using Int32.le_iff_toInt_le.mp this
  show z.toInt = ((z.toInt.toNat : Nat) : Int)
  omega
theorem g_copy {M : mM} {d pc : Nat} {L : mLs} {st : List Value} {sh : List mShp} {F : Nat → Nat → Int32} {R0 : Nat → Nat → Option Nat} {out : mOut} {idx a b n0 n1 : Nat} {sp dp n : Int32} (hd : decode M.2.1 pc = .ok (.invokestatic idx, 3)) (hw : Cond.methodLink M.1 idx arraycopyName ∈ mGW) (w1 : Cond.native arraycopyName ∈ mGW) (w2 : Cond.static arraycopyName ∈ mGW) (w3 : Cond.initialized "java/lang/System" ∈ mGW) (ha : sh[a]? = some (.inr (0, n0))) (hb0 : sh[b]? = some (.inr (0, n1))) (ha4 : 4 ≤ a) (hb4 : 4 ≤ b)
    (h1 : ¬ sp < 0) (h2 : ¬ dp < 0) (h3 : ¬ n < 0) (h4 : sp.toNatClampNeg + n.toNatClampNeg ≤ n0) (h5 : dp.toNatClampNeg + n.toNatClampNeg ≤ n1) (hst : st.length ≤ 4) (k : mGo M (d + 1) (pc + 3, L, st, (sh, va_up F b (va_cpy (F a) (F b) sp.toNatClampNeg dp.toNatClampNeg n.toNatClampNeg), R0)) out) : mGo M (d + 1) (pc, L, .int n :: .int dp :: .ref b :: .int sp :: .ref a :: st, (sh, F, R0)) out := by
  refine ⟨k.1, ?_⟩
  intro base spa spn spf cm D p l e R s m args below meth c Q cE sE H locs cells slots ls hX hfr hlo hcE hsE hK hc hs hD hS hL
  have hx := hX.1
  have hb := hX.2.1
  have hts := hX.2.2.2.2.2.2.2.1
  have h8 := m_rest (base := base) (spa := spa) hst
  have hK0 : va_K D mcl (mtys cm) s := hX.2.2.2.2.2.2.2.2.1
  show W p l e R s m args below meth c H locs cells slots Q (F0 m pc ls (.int n :: .int dp :: .ref (mad base spa b) :: .int sp :: .ref (mad base spa a) :: st.map (mtv base spa)))
  rw [mad_hi ha4, mad_hi hb4]
  have hc0 : H[base + (a - 4)]? = some (vp_cell (cm 0) (n0, .inl (F a))) := hD.2.2.1 _ _ (mW_get (hp := (sh, F, R0)) ha4 ha)
  have hc1 : H[base + (b - 4)]? = some (vp_cell (cm 0) (n1, .inl (F b))) := hD.2.2.1 _ _ (mW_get (hp := (sh, F, R0)) hb4 hb0)
  intro T hT X
  obtain ⟨-, k0, hk0, cm0, hkk0⟩ := (hK0.2 0 _ rfl).1 n0 (fun j => .int (F a j))
  obtain ⟨vm', X', step⟩ := X.arraycopy hx hX.2.2.2.2.1 (hts _ hw) (hts _ w1) (hts _ w2) (hts _ w3) (src := base + (a - 4)) (dst := base + (b - 4)) (cs := vp_cell (cm 0) (n0, .inl (F a))) (cd := vp_cell (cm 0) (n1, .inl (F b))) (srcPos := sp) (destPos := dp) (n := n) (by rw [hT]; exact hc0) (by rw [hT]; exact hc1)
    (fun _ h => by cases h) (fun _ h => by cases h) (fun h => by cases h) (fun h => by cases h) hk0 hk0 hkk0 hkk0 (by simp [refKind]) h1 h2 h3
    (by rw [m_nn h1, m_nn h3]; show ¬ _ > ((arrV (cm 0) n0 (fun j => .int (F a j))).slots.size : Int); rw [arrV_size]; omega)
    (by rw [m_nn h2, m_nn h3]; show ¬ _ > ((arrV (cm 0) n1 (fun j => .int (F b j))).slots.size : Int); rw [arrV_size]; omega)
    (fun vm₁ _ i hi => by
      have e : (vp_cell (cm 0) (n0, .inl (F a))).slots.getD (sp.toNatClampNeg + i) .null = .int (F a (sp.toNatClampNeg + i)) := by
        show (arrV (cm 0) n0 (fun j => .int (F a j))).slots.getD _ _ = _
        rw [Array.getD_eq_getD_getElem?, arrV_read _ _ (by omega)]
        rfl
      refine ⟨?_, ?_⟩
      · rw [e]
        rfl
      · rw [e]
        exact trivial)
    (g := F0 m pc ls (.int n :: .int dp :: .ref (base + (b - 4)) :: .int sp :: .ref (base + (a - 4)) :: st.map (mtv base spa))) rfl (by rw [hX.2.2.2.1]; exact hL.1) (rest := st.map (mtv base spa)) rfl (by rw [hb]; exact hd) (by omega) (by
      have e8 : nativeFrameWords "java/lang/System" "arraycopy" 5 ≤ 21 := by decide +kernel
      show 2 * 0 + _ + _ ≤ _
      omega)
  have e1 : copied (vp_cell (cm 0) (n0, .inl (F a))) (vp_cell (cm 0) (n1, .inl (F b))) sp dp n = vp_cell (cm 0) (n1, .inl (va_cpy (F a) (F b) sp.toNatClampNeg dp.toNatClampNeg n.toNatClampNeg)) := va_copied (fun z => .int z) (cm 0) (cm 0) (F a) (F b) h4
  rw [e1] at X' step
  have hl : base + (b - 4) < H.size := (Array.getElem?_eq_some_iff.mp hc1).1
  generalize hH1 : H.setIfInBounds (base + (b - 4)) (vp_cell (cm 0) (n1, .inl (va_cpy (F a) (F b) sp.toNatClampNeg dp.toNatClampNeg n.toNatClampNeg))) = H1
  have hheap : ((T.setVm vm').setCell (base + (b - 4)) (vp_cell (cm 0) (n1, .inl (va_cpy (F a) (F b) sp.toNatClampNeg dp.toNatClampNeg n.toNatClampNeg)))).heap = H1 := by rw [← hH1, ← hT]; rfl
  have z1 : H1.size = H.size := by rw [← hH1]; simp
  have oq : ∀ q : Nat, q ≠ base + (b - 4) → H1[q]? = H[q]? := fun q hq => by rw [← hH1]; simp [Array.getElem?_setIfInBounds, Ne.symm hq]
  have g1 : H1[base + (b - 4)]? = some (vp_cell (cm 0) (n1, .inl (va_cpy (F a) (F b) sp.toNatClampNeg dp.toNatClampNeg n.toNatClampNeg))) := by rw [← hH1]; simp [Array.getElem?_setIfInBounds, hl]
  obtain ⟨t, a1, b1⟩ := k.2 base spa spn spf cm D p l e R s m args below meth c Q cE sE H1 _ cells slots ls hX hfr hlo hcE hsE hK hc hs (mD_upd hD hb4 hb0 (fun q hq => va_up_ne _ _ hq) (fun _ _ => rfl) z1 oq (by rw [mce_int (by decide), va_up_eq]; exact g1)) ⟨by rw [z1]; exact hS.1, fun q f1 f2 => by
      rw [oq q (fun e => f2 (by rw [e]; exact Nat.le_add_right _ _))]
      exact hS.2.1 q f1 f2, fun q hq => by
      rcases List.mem_append.mp hq with h | h
      · exact hS.2.2 q h
      · obtain ⟨z, -, hz⟩ := List.mem_map.mp h
        rw [← hz]
        exact Nat.le_add_right _ _⟩ hL _ hheap X'
  exact ⟨t, step t a1, b1⟩
theorem g_max {M : mM} {d pc : Nat} {L : mLs} {st : List Value} {hp : mHp} {out : mOut} {idx : Nat} {x y : Int32} (hd : decode M.2.1 pc = .ok (.invokestatic idx, 3)) (hw : Cond.methodLink M.1 idx Lib.Math.max.name ∈ mGW) (w1 : Cond.static Lib.Math.max.name ∈ mGW) (w2 : Cond.initialized "java/lang/Math" ∈ mGW) (w3 : Cond.code Lib.Math.max.name Lib.Math.max.code 2 (some .int) ∈ mGW) (hst : st.length ≤ 4) (k : mGo M (d + 1) (pc + 3, L, .int (if x < y then y else x) :: st, hp) out) : mGo M (d + 1) (pc, L, .int y :: .int x :: st, hp) out := by
  have k1 := k.1
  refine ⟨k.1, ?_⟩
  intro base spa spn spf cm D p l e R s m args below meth c Q cE sE H locs cells slots ls hX hfr hlo hcE hsE hK hc hs hD hS hL
  have hx := hX.1
  have hb := hX.2.1
  have hts := hX.2.2.2.2.2.2.2.1
  have h8 := m_rest (base := base) (spa := spa) hst
  have hc' : cells + out.2.1.length = cE + hp.1.length := hc
  have hs' : slots + mSz out.2.1 = sE + mSz hp.1 := hs
  have k2 : hp.1.length ≤ out.2.1.length := k1.1
  have k3 : mSz hp.1 ≤ mSz out.2.1 := k1.2
  refine va_mmax (rest := st.map (mtv base spa)) hx hb (by rw [hX.2.2.2.1]; exact hL.1.symm) hX.2.2.2.2.1 (hts _ hw) (hts _ w1) (hts _ w2) (hts _ w3) (by omega) (by omega) (by omega) (by omega) hd ?_
  exact k.2 base spa spn spf cm D p l e R s m args below meth c Q cE sE H locs cells slots ls hX hfr hlo hcE hsE hK hc hs hD hS hL
theorem g_min {M : mM} {d pc : Nat} {L : mLs} {st : List Value} {hp : mHp} {out : mOut} {idx : Nat} {x y : Int32} (hd : decode M.2.1 pc = .ok (.invokestatic idx, 3)) (hw : Cond.methodLink M.1 idx Lib.Math.min.name ∈ mGW) (w1 : Cond.static Lib.Math.min.name ∈ mGW) (w2 : Cond.initialized "java/lang/Math" ∈ mGW) (w3 : Cond.code Lib.Math.min.name Lib.Math.min.code 2 (some .int) ∈ mGW) (hst : st.length ≤ 4) (k : mGo M (d + 1) (pc + 3, L, .int (if y < x then y else x) :: st, hp) out) : mGo M (d + 1) (pc, L, .int y :: .int x :: st, hp) out := by
  have k1 := k.1
  refine ⟨k.1, ?_⟩
  intro base spa spn spf cm D p l e R s m args below meth c Q cE sE H locs cells slots ls hX hfr hlo hcE hsE hK hc hs hD hS hL
  have hx := hX.1
  have hb := hX.2.1
  have hts := hX.2.2.2.2.2.2.2.1
  have h8 := m_rest (base := base) (spa := spa) hst
  have hc' : cells + out.2.1.length = cE + hp.1.length := hc
  have hs' : slots + mSz out.2.1 = sE + mSz hp.1 := hs
  have k2 : hp.1.length ≤ out.2.1.length := k1.1
  have k3 : mSz hp.1 ≤ mSz out.2.1 := k1.2
  refine va_mmin (rest := st.map (mtv base spa)) hx hb (by rw [hX.2.2.2.1]; exact hL.1.symm) hX.2.2.2.2.1 (hts _ hw) (hts _ w1) (hts _ w2) (hts _ w3) (by omega) (by omega) (by omega) (by omega) hd ?_
  exact k.2 base spa spn spf cm D p l e R s m args below meth c Q cE sE H locs cells slots ls hX hfr hlo hcE hsE hK hc hs hD hS hL
def mQ (base : Nat) (spa spn : Nat → Nat) (spf : Nat → Nat → Int32) (cm : Nat → ClassId) (D : va_G) (r : Option Value) (hp : mHp) : Array Value → State → Outcome → State → Prop := match r with
  | some (.int v) => va_Qi (S := Unit) (fun x _ => x = v) (fun _ t => mD base spa spn spf cm D hp t.heap) (fun q => base ≤ q)
  | some (.long v) => va_Ql (S := Unit) (fun x _ => x = v) (fun _ t => mD base spa spn spf cm D hp t.heap) (fun q => base ≤ q)
  | none => va_Qv (S := Unit) (fun _ => True) (fun _ t => mD base spa spn spf cm D hp t.heap) (fun q => base ≤ q)
  | _ => fun _ _ _ _ => False
def mCall (d : Nat) (y : MethodName) (M : mM) (as : List Value) (hp : mHp) (r : Option Value) (hp1 : mHp) : Prop :=
  (hp.1.length ≤ hp1.1.length ∧ mSz hp.1 ≤ mSz hp1.1 ∧ ∀ a : Nat, r ≠ some (.ref a)) ∧
  ∀ (l : Launch) (base : Nat) (spa spn : Nat → Nat) (spf : Nat → Nat → Int32) (cm : Nat → ClassId) (D : va_G), Met l y (Cond.code y M.2.1 M.2.2.1 M.2.2.2.1 :: mGW) ({ frames := d, cells := hp1.1.length - hp.1.length, slots := mSz hp1.1 - mSz hp.1, locals := 40 * d } : Room) (va_Pc (as.map (mtv base spa)) (fun U => mD base spa spn spf cm D hp U.heap ∧ mSta base spa spn spf cm D U U.heap)) (mQ base spa spn spf cm D r hp1) (hp1.1.length - hp.1.length) (mSz hp1.1 - mSz hp.1) (fun q => base ≤ q)
def mMb (y : MethodName) (M : mM) (n : Nat) : Prop := plainName y.cls = true ∧ y.cls = M.1 ∧ (M.2.2.2.2 = true → y.name = "<init>") ∧ Cond.code y M.2.1 M.2.2.1 M.2.2.2.1 ∈ mGW ∧ Cond.initialized y.cls ∈ mGW ∧ (y.cls ≠ "java/lang/invoke/MethodHandle" ∧ y.cls ≠ "java/lang/invoke/VarHandle" ∧ (parseMethodDescriptor y.desc).map (fun d => d.parameters.length) = some n) ∧ M.2.2.1 ≤ 21
def mMethS (y : MethodName) (M : mM) (n : Nat) : Prop := mMb y M n ∧ Cond.static y ∈ mGW
def mMethI (y : MethodName) (M : mM) (n : Nat) : Prop := mMb y M n ∧ Cond.instanceMethod y ∈ mGW
def mMethV (y : MethodName) (M : mM) (ci n : Nat) : Prop := mMb y M n ∧ Cond.instanceMethod y ∈ mGW ∧ Cond.selects y.cls y y ∈ mGW ∧ mcl[ci]?.map (fun q => q.1) = some y.cls
def mEl (as : List Value) : mLs := as.flatMap (fun v => if v.category = 2 then [some v, none] else [some v])
def mEnt (as : List Value) (n : Nat) : mLs := mEl as ++ List.replicate (n - (mEl as).length) none
theorem mEl_len (base : Nat) (spa : Nat → Nat) (as : List Value) : (lg_sl (as.map (mtv base spa))).length = (mEl as).length := by
  induction as with
  | nil => rfl
  | cons v t ih =>
    have e1 : lg_sl ((v :: t).map (mtv base spa)) = (if (mtv base spa v).category = 2 then [.val (mtv base spa v), .second] else [.val (mtv base spa v)]) ++ lg_sl (t.map (mtv base spa)) := rfl
    have e2 : mEl (v :: t) = (if v.category = 2 then [some v, none] else [some v]) ++ mEl t := rfl
    rw [e1, e2, List.length_append, List.length_append, ih, mtv_cat]
    split <;> rfl
theorem mEl_at (base : Nat) (spa : Nat → Nat) : ∀ (as : List Value) (i : Nat) (v : Value), (mEl as)[i]? = some (some v) → (lg_sl (as.map (mtv base spa)))[i]? = some (Slot.val (mtv base spa v)) := by
  intro as
  induction as with
  | nil => intro i v h; simp [mEl] at h
  | cons w t ih =>
    intro i v h
    have e1 : lg_sl ((w :: t).map (mtv base spa)) = (if (mtv base spa w).category = 2 then [.val (mtv base spa w), .second] else [.val (mtv base spa w)]) ++ lg_sl (t.map (mtv base spa)) := rfl
    have e2 : mEl (w :: t) = (if w.category = 2 then [some w, none] else [some w]) ++ mEl t := rfl
    rw [e2] at h
    rw [e1, mtv_cat]
    by_cases hw : w.category = 2
    · rw [if_pos hw] at h ⊢
      rcases i with _ | _ | i
      · cases h
        rfl
      · cases h
      · exact ih i v h
    · rw [if_neg hw] at h ⊢
      rcases i with _ | i
      · cases h
        rfl
      · exact ih i v h
theorem mh_entry {base : Nat} {spa : Nat → Nat} {as : List Value} {n : Nat} (h : (mEl as).length ≤ n) : mh base spa ((lg_sl (as.map (mtv base spa)) ++ List.replicate (n - (lg_sl (as.map (mtv base spa))).length) Slot.unset).toArray) n (mEnt as n) := by
  have h0 := lv_entry (as.map (mtv base spa)) (n := n) (by rw [mEl_len]; exact h)
  refine ⟨h0.1, h0.2.1, fun i v hi => ?_⟩
  by_cases hil : i < (mEl as).length
  · rw [mEnt, List.getElem?_append_left hil] at hi
    rw [List.getElem?_toArray, List.getElem?_append_left (by rw [mEl_len]; exact hil)]
    exact mEl_at base spa as i v hi
  · rw [mEnt, List.getElem?_append_right (by omega)] at hi
    have := List.eq_of_mem_replicate (List.mem_of_getElem? hi)
    cases this
def mRok (ret : Option FieldType) (r : Option Value) : Prop := match r with
  | none => ret = none
  | some (.int v) => ∃ ty, ret = some ty ∧ narrow ty (.int v) = .int v
  | some (.long _) => ret = some .long
  | _ => False
theorem mCall_of {d n : Nat} {y : MethodName} {M : mM} {as : List Value} {hp hp1 : mHp} {r : Option Value} (hy : mMb y M n) (hfit : (mEl as).length ≤ M.2.2.1) (hr : mRok M.2.2.2.1 r) (k : mGo M d (0, mEnt as M.2.2.1, [], hp) (r, hp1)) : mCall d y M as hp r hp1 := by
  have k1 : hp.1.length ≤ hp1.1.length := k.1.1
  have k2 : mSz hp.1 ≤ mSz hp1.1 := k.1.2
  refine ⟨⟨k1, k2, fun a h => by rw [h] at hr; exact hr⟩, fun l base spa spn spf cm D => ?_⟩
  refine Met.ofW (cc := M.2.1) (maxL := M.2.2.1) (ret := M.2.2.2.1) hy.1 rfl ?_
  intro p e s m args below meth c s₁ B hml hv
  obtain ⟨rfl, hD, hSt⟩ := hv
  have hts := atoms_spec (ws := Cond.code y M.2.1 M.2.2.1 M.2.2.2.1 :: mGW) B.pre
  have hown : s.vm.findClass y.cls = some m.cls := findClass_of_methodNamed B.named
  have hX : mX base spa spn spf cm D M p s m (as.map (mtv base spa)).toArray meth c := ⟨B.exec, B.bytes, B.returns, hml, by rw [← hy.2.1]; exact hown, B.notSynchronized, fun h => ((name_of_methodNamed B.named B.method).1).trans (hy.2.2.1 h), fun w hw => hts w (List.mem_cons_of_mem _ hw), hSt⟩
  have hlocks := B.notSynchronized
  rw [lg_entry_eq]
  refine k.2 base spa spn spf cm D p l e _ s m _ below meth c _ (hp1.1.length - hp.1.length) (mSz hp1.1 - mSz hp.1) s.heap [] 0 0 _ hX (Nat.le_refl _) (Nat.le_refl _) (Nat.le_refl _) (Nat.le_refl _) ?_ (by show 0 + hp1.1.length = _ + hp.1.length; omega) (by show 0 + mSz hp1.1 = _ + mSz hp.1; omega) hD va_S.rf (mh_entry hfit)
  intro H1 locs1 pc1 ls1 hri hD1 hS1
  cases r with
  | none =>
    have hr' : meth.sig.returnType = none := hX.2.2.1.trans hr
    exact W.vret hX.1 hX.2.1 hr' (fun t ht hW => ⟨⟨(), rfl, trivial, by show mD base spa spn spf cm D hp1 t.heap; rw [ht]; exact hD1⟩, hS1.F ht⟩) hS1.2.2 hri
  | some v =>
    cases v with
    | int v =>
      obtain ⟨ty, h1, h2⟩ := hr
      exact W.zret hX.1 hX.2.1 (hX.2.2.1.trans h1) h2 (fun t ht hW => ⟨⟨v, (), rfl, rfl, by show mD base spa spn spf cm D hp1 t.heap; rw [ht]; exact hD1⟩, hS1.F ht⟩) hS1.2.2 hri
    | long v =>
      exact W.lret hX.1 hX.2.1 (hX.2.2.1.trans hr) (fun t ht hW => ⟨⟨v, (), rfl, rfl, by show mD base spa spn spf cm D hp1 t.heap; rw [ht]; exact hD1⟩, hS1.F ht⟩) hS1.2.2 hri
    | _ => exact hr.elim
theorem mNW_warm {s U : State} (hW : s.WarmedH U.vm) : ∀ w ∈ mNW, va_Nw w s → va_Nw w U := by
  intro w hw h
  have hN : mIsN w = true := (List.mem_filter.mp hw).2
  cases w <;> first | exact va_Nw.warmF hW h | exact va_Nw.warmM hW h | exact va_Nw.warmC hW h | (simp [mIsN] at hN)
theorem mNW_tab : ∀ w ∈ mNW, w.onTables = true := by
  intro w hw
  have hN : mIsN w = true := (List.mem_filter.mp hw).2
  cases w <;> first | rfl | (simp [mIsN] at hN)
theorem mSta_moved {base : Nat} {spa spn : Nat → Nat} {spf : Nat → Nat → Int32} {cm : Nat → ClassId} {D : va_G} {u U : State} {H : Heap} (h : mSta base spa spn spf cm D u H) (hvm : u.vm.Alike U.vm) (hn : ∀ w ∈ mNW, va_Nw w u → va_Nw w U) : mSta base spa spn spf cm D U H := by
  obtain ⟨h1, h2, h3, h4, h5, h6, h7⟩ := h
  exact ⟨va_K.moved hvm h1, fun w hw => hn w hw (h2 w hw), va_AO.moved hvm h3, h4, fun j hj => ⟨(h5 j hj).1, va_X.moved hvm (h5 j hj).2⟩, fun j hj => va_Z.moved hvm (h6 j hj), h7⟩
theorem mSta_kept {base : Nat} {spa spn : Nat → Nat} {spf : Nat → Nat → Int32} {cm : Nat → ClassId} {D : va_G} {u : State} {H H1 : Heap} {locs : List Loc} (h : mSta base spa spn spf cm D u H) (hS : va_S (fun q => base ≤ q) H H1 locs) : mSta base spa spn spf cm D u H1 := by
  obtain ⟨h1, h2, h3, h4, h5, h6, h7⟩ := h
  refine ⟨h1, h2, h3, Nat.le_trans h4 hS.1, fun j hj => ⟨(h5 j hj).1, va_X.kept (h5 j hj).2 (hS.2.1 _ (Nat.lt_of_lt_of_le (h5 j hj).1 h4) (Nat.not_le.mpr (h5 j hj).1))⟩, fun j hj => va_Z.kept (h6 j hj) hS.2.1, ?_⟩
  obtain ⟨scr, g1, g2⟩ := h7
  exact ⟨scr, by rw [hS.2.1 _ (Nat.lt_of_lt_of_le (h5 1 (by decide)).1 h4) (Nat.not_le.mpr (h5 1 (by decide)).1)]; exact g1, g2⟩
theorem mBlind {base : Nat} {spa spn : Nat → Nat} {spf : Nat → Nat → Int32} {cm : Nat → ClassId} {D : va_G} {as : List Value} {hp : mHp} : FrameBlind (va_Pc as (fun U => mD base spa spn spf cm D hp U.heap ∧ mSta base spa spn spf cm D U U.heap)) := by
  intro a U g mk q
  exact ⟨q.1, q.2.1, mSta_moved (u := U) (U := U.calling g mk a) q.2.2 (Vm.Alike.refl U.vm) (fun w hw h => va_Nw.same (u := U) (U := U.calling g mk a) (mNW_tab w hw) rfl h)⟩
section MCALL
variable {p : Program} {l : Launch} {e : Env} {R : Room} {s : State} {m : MethodId} {args : Array Value} {below : List Frame} {meth : Method} {c : Code} {H : Heap} {locs : List Loc} {cells slots : Nat} {Q : State → Prop}
theorem m_after {base : Nat} {spa spn : Nat → Nat} {spf : Nat → Nat → Int32} {cm : Nat → ClassId} {D : va_G} {pc mc ms : Nat} {ls : Array Slot} {st0 rest : List Value} {r : Option Value} {hp1 : mHp} {a : Array Value} {H0 : Heap} (hr : va_Run p l e R s m args below meth c H locs cells slots mc ms (F0 m pc ls st0) rest (mQ base spa spn spf cm D r hp1 a) (fun q => base ≤ q)) (hS : va_S (fun q => base ≤ q) H0 H locs)
    (kk : ∀ (H1 : Heap) (locs1 : List Loc), mD base spa spn spf cm D hp1 H1 → va_S (fun q => base ≤ q) H0 H1 locs1 → W p l e R s m args below meth c H1 locs1 (cells + mc) (slots + ms) Q (F0 m (pc + 3) ls (r.toList ++ rest))) : W p l e R s m args below meth c H locs cells slots Q (F0 m pc ls st0) := by
  cases r with
  | none => exact va_callv (a := a) hr hS (fun _ _ h => h) (fun _ h => h) (fun u t H1 locs1 ht hvm hp hB hz hk hS1 => kk H1 locs1 (by rw [← ht]; exact hB) hS1)
  | some v =>
    cases v with
    | int v => exact va_calli (a := a) hr hS (fun _ _ h => h) (fun _ h => h) (fun r u t H1 locs1 ht hvm hp hB hz hk hS1 => by
        have hp' : r = v := hp
        subst hp'
        exact kk H1 locs1 (by rw [← ht]; exact hB) hS1)
    | long v => exact va_calll (a := a) hr hS (fun _ _ h => h) (fun _ h => h) (fun r u t H1 locs1 ht hvm hp hB hz hk hS1 => by
        have hp' : r = v := hp
        subst hp'
        exact kk H1 locs1 (by rw [← ht]; exact hB) hS1)
    | _ =>
      intro T hT X
      obtain ⟨v, st₀, t, T', L, h0, X', hL, e1, e2, hq, st⟩ := hr T hT X
      exact hq.elim
end MCALL
theorem m_good {y : MethodName} {M : mM} {n : Nat} (hy : mMb y M n) : GoodIn mGW (Cond.code y M.2.1 M.2.2.1 M.2.2.2.1 :: mGW) := fun w hw => (List.mem_cons.mp hw).elim (fun e => by rw [e]; exact mg_good _ hy.2.2.2.1) (mg_good w)
theorem m_stk {base : Nat} {spa : Nat → Nat} {As rest : List Value} : (As.reverse ++ rest).map (mtv base spa) = (As.map (mtv base spa)).reverse ++ rest.map (mtv base spa) := by simp
theorem g_callV {M M' : mM}  {d pc b idx ci n : Nat} {L : mLs} {As rest : List Value} {hp hp1 : mHp} {out : mOut} {r : Option Value} {y : MethodName} {host : String} (hd : decode M.2.1 pc = .ok (.invokevirtual idx, 3)) (hl : Cond.methodLink M.1 idx y ∈ mGW) (hy : mMethV y M' ci n) (hsh : hp.1[b]? = some (.inl ci)) (h4 : 4 ≤ b) (hn : As.length = n) (hst : rest.length ≤ 4) (hc0 : mCall d y M' (.ref b :: As) hp r hp1) (k : mGo M (d + 1) (pc + 3, L, r.toList ++ rest, hp1) out) : mGo M (d + 1) (pc, L, As.reverse ++ .ref b :: rest, hp) out := by
  have k0 := hc0.1
  have k1 := k.1
  have j1 : hp.1.length ≤ hp1.1.length := k0.1
  have j2 : mSz hp.1 ≤ mSz hp1.1 := k0.2.1
  have j3 : hp1.1.length ≤ out.2.1.length := k1.1
  have j4 : mSz hp1.1 ≤ mSz out.2.1 := k1.2
  refine ⟨⟨Nat.le_trans j1 j3, Nat.le_trans j2 j4⟩, ?_⟩
  intro base spa spn spf cm D p l e R s m args below meth c Q cE sE H locs cells slots ls hX hfr hlo hcE hsE hK hc hs hD hS hL
  have hx := hX.1
  have hb := hX.2.1
  have hts := hX.2.2.2.2.2.2.2.1
  have hK0 : va_K D mcl (mtys cm) s := hX.2.2.2.2.2.2.2.2.1
  have hSt := hX.2.2.2.2.2.2.2.2
  have h8 := m_rest (base := base) (spa := spa) hst
  have hc' : cells + out.2.1.length = cE + hp.1.length := hc
  have hs' : slots + mSz out.2.1 = sE + mSz hp.1 := hs
  have hcall := hc0.2 l base spa spn spf cm D
  have hbm := hy.1
  have hR : d + 1 ≤ R.frames ∧ 8 + (M'.2.2.1 + 11) + 40 * d ≤ R.locals := ⟨hfr, by have h7 : M'.2.2.1 ≤ 21 := hbm.2.2.2.2.2.2; omega⟩
  have hPU : ∀ U : State, U.heap = H → s.WarmedH U.vm → va_Pc ((.ref b :: As).map (mtv base spa)) (fun U => mD base spa spn spf cm D hp U.heap ∧ mSta base spa spn spf cm D U U.heap) ((.ref b :: As).map (mtv base spa)).toArray U := fun U hU hW => ⟨rfl, by rw [hU]; exact hD, by rw [hU]; exact mSta_moved (mSta_kept hSt hS) hW.alike (mNW_warm hW)⟩
  obtain ⟨q, hq, hq1⟩ := Option.map_eq_some_iff.mp hy.2.2.2
  have hrc := va_recv hK0 hD.2.2.1 hq (mW_get (base := base) (spa := spa) (cm := cm) h4 hsh)
  rw [hq1, ← mad_hi (spa := spa) h4] at hrc
  refine m_after (rest := rest.map (mtv base spa)) (va_runV (C := y.cls) (As := As.map (mtv base spa)) (rest := rest.map (mtv base spa)) ⟨hx, hb, hX.2.2.2.1, hX.2.2.2.2.1, hts⟩ hcall ⟨callB_of n hts (m_good hbm) rfl rfl rfl (hts _ hbm.2.2.2.2.1) (hts _ hl) hbm.2.2.2.2.2.1 hR, hts _ hy.2.1, hts _ hy.2.2.1⟩ ⟨mBlind, hrc, hPU⟩ rfl (by rw [List.length_map]; exact hn) hL.1 (by first | exact m_stk | (show List.map _ _ = _; simp)) (lv_room (by omega)) hd ⟨by omega, by omega⟩) hS (fun H1 locs1 hD1 hS1 => ?_)
  have h9 := k.2 base spa spn spf cm D p l e R s m args below meth c Q cE sE H1 locs1 (cells + (hp1.1.length - hp.1.length)) (slots + (mSz hp1.1 - mSz hp.1)) ls hX hfr hlo hcE hsE hK (by show cells + _ + out.2.1.length = cE + hp1.1.length; omega) (by show slots + _ + mSz out.2.1 = sE + mSz hp1.1; omega) hD1 hS1 hL
  have e9 : List.map (mtv base spa) (r.toList ++ rest) = r.toList ++ rest.map (mtv base spa) := by
    cases r with
    | none => rfl
    | some v =>
      cases v with
      | ref a =>
        exact (k0.2.2 a rfl).elim
      | _ => rfl
  have h10 : W p l e R s m args below meth c H1 locs1 (cells + (hp1.1.length - hp.1.length)) (slots + (mSz hp1.1 - mSz hp.1)) Q (F0 m (pc + 3) ls (List.map (mtv base spa) (r.toList ++ rest))) := h9
  rw [e9] at h10
  exact h10
theorem g_callS {M M' : mM}  {d pc b idx ci n : Nat} {L : mLs} {As rest : List Value} {hp hp1 : mHp} {out : mOut} {r : Option Value} {y : MethodName} {host : String} (hd : decode M.2.1 pc = .ok (.invokestatic idx, 3)) (hl : Cond.methodLink M.1 idx y ∈ mGW) (hy : mMethS y M' n)  (hn : As.length = n) (hst : rest.length ≤ 4) (hc0 : mCall d y M' (As) hp r hp1) (k : mGo M (d + 1) (pc + 3, L, r.toList ++ rest, hp1) out) : mGo M (d + 1) (pc, L, As.reverse ++ rest, hp) out := by
  have k0 := hc0.1
  have k1 := k.1
  have j1 : hp.1.length ≤ hp1.1.length := k0.1
  have j2 : mSz hp.1 ≤ mSz hp1.1 := k0.2.1
  have j3 : hp1.1.length ≤ out.2.1.length := k1.1
  have j4 : mSz hp1.1 ≤ mSz out.2.1 := k1.2
  refine ⟨⟨Nat.le_trans j1 j3, Nat.le_trans j2 j4⟩, ?_⟩
  intro base spa spn spf cm D p l e R s m args below meth c Q cE sE H locs cells slots ls hX hfr hlo hcE hsE hK hc hs hD hS hL
  have hx := hX.1
  have hb := hX.2.1
  have hts := hX.2.2.2.2.2.2.2.1
  have hK0 : va_K D mcl (mtys cm) s := hX.2.2.2.2.2.2.2.2.1
  have hSt := hX.2.2.2.2.2.2.2.2
  have h8 := m_rest (base := base) (spa := spa) hst
  have hc' : cells + out.2.1.length = cE + hp.1.length := hc
  have hs' : slots + mSz out.2.1 = sE + mSz hp.1 := hs
  have hcall := hc0.2 l base spa spn spf cm D
  have hbm := hy.1
  have hR : d + 1 ≤ R.frames ∧ 8 + (M'.2.2.1 + 11) + 40 * d ≤ R.locals := ⟨hfr, by have h7 : M'.2.2.1 ≤ 21 := hbm.2.2.2.2.2.2; omega⟩
  have hPU : ∀ U : State, U.heap = H → s.WarmedH U.vm → va_Pc ((As).map (mtv base spa)) (fun U => mD base spa spn spf cm D hp U.heap ∧ mSta base spa spn spf cm D U U.heap) ((As).map (mtv base spa)).toArray U := fun U hU hW => ⟨rfl, by rw [hU]; exact hD, by rw [hU]; exact mSta_moved (mSta_kept hSt hS) hW.alike (mNW_warm hW)⟩

  refine m_after (rest := rest.map (mtv base spa)) (va_runS (As := As.map (mtv base spa)) (rest := rest.map (mtv base spa)) ⟨hx, hb, hX.2.2.2.1, hX.2.2.2.2.1, hts⟩ hcall ⟨callB_of n hts (m_good hbm) rfl rfl rfl (hts _ hbm.2.2.2.2.1) (hts _ hl) hbm.2.2.2.2.2.1 hR, hts _ hy.2⟩ ⟨mBlind, hPU⟩ rfl (by rw [List.length_map]; exact hn) hL.1 (by first | exact m_stk | (show List.map _ _ = _; simp)) (lv_room (by omega)) hd ⟨by omega, by omega⟩) hS (fun H1 locs1 hD1 hS1 => ?_)
  have h9 := k.2 base spa spn spf cm D p l e R s m args below meth c Q cE sE H1 locs1 (cells + (hp1.1.length - hp.1.length)) (slots + (mSz hp1.1 - mSz hp.1)) ls hX hfr hlo hcE hsE hK (by show cells + _ + out.2.1.length = cE + hp1.1.length; omega) (by show slots + _ + mSz out.2.1 = sE + mSz hp1.1; omega) hD1 hS1 hL
  have e9 : List.map (mtv base spa) (r.toList ++ rest) = r.toList ++ rest.map (mtv base spa) := by
    cases r with
    | none => rfl
    | some v =>
      cases v with
      | ref a =>
        exact (k0.2.2 a rfl).elim
      | _ => rfl
  have h10 : W p l e R s m args below meth c H1 locs1 (cells + (hp1.1.length - hp.1.length)) (slots + (mSz hp1.1 - mSz hp.1)) Q (F0 m (pc + 3) ls (List.map (mtv base spa) (r.toList ++ rest))) := h9
  rw [e9] at h10
  exact h10
theorem g_callSN {M M' : mM}  {d pc b idx ci n : Nat} {L : mLs} {As rest : List Value} {hp hp1 : mHp} {out : mOut} {r : Option Value} {y : MethodName} {host : String} (hd : decode M.2.1 pc = .ok (.invokestatic idx, 3)) (hl : Cond.methodLinkNest M.1 idx y host ∈ mNW) (hy : mMethS y M' n)  (hn : As.length = n) (hst : rest.length ≤ 4) (hc0 : mCall d y M' (As) hp r hp1) (k : mGo M (d + 1) (pc + 3, L, r.toList ++ rest, hp1) out) : mGo M (d + 1) (pc, L, As.reverse ++ rest, hp) out := by
  have k0 := hc0.1
  have k1 := k.1
  have j1 : hp.1.length ≤ hp1.1.length := k0.1
  have j2 : mSz hp.1 ≤ mSz hp1.1 := k0.2.1
  have j3 : hp1.1.length ≤ out.2.1.length := k1.1
  have j4 : mSz hp1.1 ≤ mSz out.2.1 := k1.2
  refine ⟨⟨Nat.le_trans j1 j3, Nat.le_trans j2 j4⟩, ?_⟩
  intro base spa spn spf cm D p l e R s m args below meth c Q cE sE H locs cells slots ls hX hfr hlo hcE hsE hK hc hs hD hS hL
  have hx := hX.1
  have hb := hX.2.1
  have hts := hX.2.2.2.2.2.2.2.1
  have hK0 : va_K D mcl (mtys cm) s := hX.2.2.2.2.2.2.2.2.1
  have hSt := hX.2.2.2.2.2.2.2.2
  have h8 := m_rest (base := base) (spa := spa) hst
  have hc' : cells + out.2.1.length = cE + hp.1.length := hc
  have hs' : slots + mSz out.2.1 = sE + mSz hp.1 := hs
  have hcall := hc0.2 l base spa spn spf cm D
  have hbm := hy.1
  have hR : d + 1 ≤ R.frames ∧ 8 + (M'.2.2.1 + 11) + 40 * d ≤ R.locals := ⟨hfr, by have h7 : M'.2.2.1 ≤ 21 := hbm.2.2.2.2.2.2; omega⟩
  have hPU : ∀ U : State, U.heap = H → s.WarmedH U.vm → va_Pc ((As).map (mtv base spa)) (fun U => mD base spa spn spf cm D hp U.heap ∧ mSta base spa spn spf cm D U U.heap) ((As).map (mtv base spa)).toArray U := fun U hU hW => ⟨rfl, by rw [hU]; exact hD, by rw [hU]; exact mSta_moved (mSta_kept hSt hS) hW.alike (mNW_warm hW)⟩

  refine m_after (rest := rest.map (mtv base spa)) (va_runSN (As := As.map (mtv base spa)) (rest := rest.map (mtv base spa)) ⟨hx, hb, hX.2.2.2.1, hX.2.2.2.2.1, hts⟩ hcall ⟨va_cnB n hts (m_good hbm) rfl rfl rfl (hX.2.2.2.2.2.2.2.2.2.1 _ hl) (hts _ hbm.2.2.2.2.1) hbm.2.2.2.2.2.1 hR, hts _ hy.2, trivial⟩ ⟨mBlind, hPU⟩ rfl (by rw [List.length_map]; exact hn) hL.1 (by first | exact m_stk | (show List.map _ _ = _; simp)) (lv_room (by omega)) hd ⟨by omega, by omega⟩) hS (fun H1 locs1 hD1 hS1 => ?_)
  have h9 := k.2 base spa spn spf cm D p l e R s m args below meth c Q cE sE H1 locs1 (cells + (hp1.1.length - hp.1.length)) (slots + (mSz hp1.1 - mSz hp.1)) ls hX hfr hlo hcE hsE hK (by show cells + _ + out.2.1.length = cE + hp1.1.length; omega) (by show slots + _ + mSz out.2.1 = sE + mSz hp1.1; omega) hD1 hS1 hL
  have e9 : List.map (mtv base spa) (r.toList ++ rest) = r.toList ++ rest.map (mtv base spa) := by
    cases r with
    | none => rfl
    | some v =>
      cases v with
      | ref a =>
        exact (k0.2.2 a rfl).elim
      | _ => rfl
  have h10 : W p l e R s m args below meth c H1 locs1 (cells + (hp1.1.length - hp.1.length)) (slots + (mSz hp1.1 - mSz hp.1)) Q (F0 m (pc + 3) ls (List.map (mtv base spa) (r.toList ++ rest))) := h9
  rw [e9] at h10
  exact h10
theorem g_callI {M : mM} {o2 : String} {c2 : ByteArray} {n2 : Nat} {d pc b idx ci n : Nat} {L : mLs} {As rest : List Value} {hp hp1 : mHp} {out : mOut} {r : Option Value} {y : MethodName} {host : String} (hd : decode M.2.1 pc = .ok (.invokespecial idx, 3)) (hl : Cond.methodLink M.1 idx y ∈ mGW) (hy : mMethI y (o2, c2, n2, (none : Option FieldType), true) n)  (hn : As.length = n) (hst : rest.length ≤ 4) (hc0 : mCall d y (o2, c2, n2, (none : Option FieldType), true) (.ref b :: As) hp r hp1) (k : mGo M (d + 1) (pc + 3, L, r.toList ++ rest, hp1) out) : mGo M (d + 1) (pc, L, As.reverse ++ .ref b :: rest, hp) out := by
  have k0 := hc0.1
  have k1 := k.1
  have j1 : hp.1.length ≤ hp1.1.length := k0.1
  have j2 : mSz hp.1 ≤ mSz hp1.1 := k0.2.1
  have j3 : hp1.1.length ≤ out.2.1.length := k1.1
  have j4 : mSz hp1.1 ≤ mSz out.2.1 := k1.2
  refine ⟨⟨Nat.le_trans j1 j3, Nat.le_trans j2 j4⟩, ?_⟩
  intro base spa spn spf cm D p l e R s m args below meth c Q cE sE H locs cells slots ls hX hfr hlo hcE hsE hK hc hs hD hS hL
  have hx := hX.1
  have hb := hX.2.1
  have hts := hX.2.2.2.2.2.2.2.1
  have hK0 : va_K D mcl (mtys cm) s := hX.2.2.2.2.2.2.2.2.1
  have hSt := hX.2.2.2.2.2.2.2.2
  have h8 := m_rest (base := base) (spa := spa) hst
  have hc' : cells + out.2.1.length = cE + hp.1.length := hc
  have hs' : slots + mSz out.2.1 = sE + mSz hp.1 := hs
  have hcall := hc0.2 l base spa spn spf cm D
  have hbm := hy.1
  have hR : d + 1 ≤ R.frames ∧ 8 + (n2 + 11) + 40 * d ≤ R.locals := ⟨hfr, by have h7 : n2 ≤ 21 := hbm.2.2.2.2.2.2; omega⟩
  have hPU : ∀ U : State, U.heap = H → s.WarmedH U.vm → va_Pc ((.ref b :: As).map (mtv base spa)) (fun U => mD base spa spn spf cm D hp U.heap ∧ mSta base spa spn spf cm D U U.heap) ((.ref b :: As).map (mtv base spa)).toArray U := fun U hU hW => ⟨rfl, by rw [hU]; exact hD, by rw [hU]; exact mSta_moved (mSta_kept hSt hS) hW.alike (mNW_warm hW)⟩

  refine m_after (rest := rest.map (mtv base spa)) (va_runI (As := As.map (mtv base spa)) (rest := rest.map (mtv base spa)) ⟨hx, hb, hX.2.2.2.1, hX.2.2.2.2.1, hts⟩ hcall ⟨callB_of n hts (m_good hbm) rfl rfl rfl (hts _ hbm.2.2.2.2.1) (hts _ hl) hbm.2.2.2.2.2.1 hR, hbm.2.2.1 rfl, hts _ hy.2⟩ ⟨mBlind, hPU⟩ rfl (by rw [List.length_map]; exact hn) hL.1 (by first | exact m_stk | (show List.map _ _ = _; simp)) (lv_room (by omega)) hd ⟨by omega, by omega⟩) hS (fun H1 locs1 hD1 hS1 => ?_)
  have h9 := k.2 base spa spn spf cm D p l e R s m args below meth c Q cE sE H1 locs1 (cells + (hp1.1.length - hp.1.length)) (slots + (mSz hp1.1 - mSz hp.1)) ls hX hfr hlo hcE hsE hK (by show cells + _ + out.2.1.length = cE + hp1.1.length; omega) (by show slots + _ + mSz out.2.1 = sE + mSz hp1.1; omega) hD1 hS1 hL
  have e9 : List.map (mtv base spa) (r.toList ++ rest) = r.toList ++ rest.map (mtv base spa) := by
    cases r with
    | none => rfl
    | some v =>
      cases v with
      | ref a =>
        exact (k0.2.2 a rfl).elim
      | _ => rfl
  have h10 : W p l e R s m args below meth c H1 locs1 (cells + (hp1.1.length - hp.1.length)) (slots + (mSz hp1.1 - mSz hp.1)) Q (F0 m (pc + 3) ls (List.map (mtv base spa) (r.toList ++ rest))) := h9
  rw [e9] at h10
  exact h10
theorem g_callIN {M : mM} {o2 : String} {c2 : ByteArray} {n2 : Nat} {d pc b idx ci n : Nat} {L : mLs} {As rest : List Value} {hp hp1 : mHp} {out : mOut} {r : Option Value} {y : MethodName} {host : String} (hd : decode M.2.1 pc = .ok (.invokespecial idx, 3)) (hl : Cond.methodLinkNest M.1 idx y host ∈ mNW) (hy : mMethI y (o2, c2, n2, (none : Option FieldType), true) n)  (hn : As.length = n) (hst : rest.length ≤ 4) (hc0 : mCall d y (o2, c2, n2, (none : Option FieldType), true) (.ref b :: As) hp r hp1) (k : mGo M (d + 1) (pc + 3, L, r.toList ++ rest, hp1) out) : mGo M (d + 1) (pc, L, As.reverse ++ .ref b :: rest, hp) out := by
  have k0 := hc0.1
  have k1 := k.1
  have j1 : hp.1.length ≤ hp1.1.length := k0.1
  have j2 : mSz hp.1 ≤ mSz hp1.1 := k0.2.1
  have j3 : hp1.1.length ≤ out.2.1.length := k1.1
  have j4 : mSz hp1.1 ≤ mSz out.2.1 := k1.2
  refine ⟨⟨Nat.le_trans j1 j3, Nat.le_trans j2 j4⟩, ?_⟩
  intro base spa spn spf cm D p l e R s m args below meth c Q cE sE H locs cells slots ls hX hfr hlo hcE hsE hK hc hs hD hS hL
  have hx := hX.1
  have hb := hX.2.1
  have hts := hX.2.2.2.2.2.2.2.1
  have hK0 : va_K D mcl (mtys cm) s := hX.2.2.2.2.2.2.2.2.1
  have hSt := hX.2.2.2.2.2.2.2.2
  have h8 := m_rest (base := base) (spa := spa) hst
  have hc' : cells + out.2.1.length = cE + hp.1.length := hc
  have hs' : slots + mSz out.2.1 = sE + mSz hp.1 := hs
  have hcall := hc0.2 l base spa spn spf cm D
  have hbm := hy.1
  have hR : d + 1 ≤ R.frames ∧ 8 + (n2 + 11) + 40 * d ≤ R.locals := ⟨hfr, by have h7 : n2 ≤ 21 := hbm.2.2.2.2.2.2; omega⟩
  have hPU : ∀ U : State, U.heap = H → s.WarmedH U.vm → va_Pc ((.ref b :: As).map (mtv base spa)) (fun U => mD base spa spn spf cm D hp U.heap ∧ mSta base spa spn spf cm D U U.heap) ((.ref b :: As).map (mtv base spa)).toArray U := fun U hU hW => ⟨rfl, by rw [hU]; exact hD, by rw [hU]; exact mSta_moved (mSta_kept hSt hS) hW.alike (mNW_warm hW)⟩

  refine m_after (rest := rest.map (mtv base spa)) (va_runIN (As := As.map (mtv base spa)) (rest := rest.map (mtv base spa)) ⟨hx, hb, hX.2.2.2.1, hX.2.2.2.2.1, hts⟩ hcall ⟨va_cnB n hts (m_good hbm) rfl rfl rfl (hX.2.2.2.2.2.2.2.2.2.1 _ hl) (hts _ hbm.2.2.2.2.1) hbm.2.2.2.2.2.1 hR, hbm.2.2.1 rfl, hts _ hy.2⟩ ⟨mBlind, hPU⟩ rfl (by rw [List.length_map]; exact hn) hL.1 (by first | exact m_stk | (show List.map _ _ = _; simp)) (lv_room (by omega)) hd ⟨by omega, by omega⟩) hS (fun H1 locs1 hD1 hS1 => ?_)
  have h9 := k.2 base spa spn spf cm D p l e R s m args below meth c Q cE sE H1 locs1 (cells + (hp1.1.length - hp.1.length)) (slots + (mSz hp1.1 - mSz hp.1)) ls hX hfr hlo hcE hsE hK (by show cells + _ + out.2.1.length = cE + hp1.1.length; omega) (by show slots + _ + mSz out.2.1 = sE + mSz hp1.1; omega) hD1 hS1 hL
  have e9 : List.map (mtv base spa) (r.toList ++ rest) = r.toList ++ rest.map (mtv base spa) := by
    cases r with
    | none => rfl
    | some v =>
      cases v with
      | ref a =>
        exact (k0.2.2 a rfl).elim
      | _ => rfl
  have h10 : W p l e R s m args below meth c H1 locs1 (cells + (hp1.1.length - hp.1.length)) (slots + (mSz hp1.1 - mSz hp.1)) Q (F0 m (pc + 3) ls (List.map (mtv base spa) (r.toList ++ rest))) := h9
  rw [e9] at h10
  exact h10
end
section
-- links: fields, methods, classes, constants, by own class and index
theorem fl_X0_9 : mFL RX0 9 0 0 := ⟨RX0, TX0, 7, rfl, rfl, by decide, muX0, mg_in (i := 44) (by decide +kernel) (by decide +kernel), tyX0_ok, nmX0, rfl⟩
theorem fl_X5_30 : mFL RX5 30 0 0 := ⟨RX0, TX0, 7, rfl, rfl, by decide, muX0, mg_in (i := 45) (by decide +kernel) (by decide +kernel), tyX0_ok, nmX0, rfl⟩
theorem fl_X0_15 : mFL RX0 15 0 1 := ⟨RX0, TX0, 7, rfl, rfl, by decide, muX0, mg_in (i := 46) (by decide +kernel) (by decide +kernel), tyX0_ok, nmX0, rfl⟩
theorem fl_X4_74 : mFL RX4 74 0 1 := ⟨RX0, TX0, 7, rfl, rfl, by decide, muX0, mg_in (i := 47) (by decide +kernel) (by decide +kernel), tyX0_ok, nmX0, rfl⟩
theorem fl_X6_83 : mFL RX6 83 0 1 := ⟨RX0, TX0, 7, rfl, rfl, by decide, muX0, mg_in (i := 48) (by decide +kernel) (by decide +kernel), tyX0_ok, nmX0, rfl⟩
theorem fl_X0_19 : mFL RX0 19 0 2 := ⟨RX0, TX0, 7, rfl, rfl, by decide, muX0, mg_in (i := 49) (by decide +kernel) (by decide +kernel), tyX0_ok, nmX0, rfl⟩
theorem fl_X6_87 : mFL RX6 87 0 2 := ⟨RX0, TX0, 7, rfl, rfl, by decide, muX0, mg_in (i := 50) (by decide +kernel) (by decide +kernel), tyX0_ok, nmX0, rfl⟩
theorem fl_X0_22 : mFL RX0 22 0 3 := ⟨RX0, TX0, 7, rfl, rfl, by decide, muX0, mg_in (i := 51) (by decide +kernel) (by decide +kernel), tyX0_ok, nmX0, rfl⟩
theorem fl_X4_111 : mFL RX4 111 0 3 := ⟨RX0, TX0, 7, rfl, rfl, by decide, muX0, mg_in (i := 52) (by decide +kernel) (by decide +kernel), tyX0_ok, nmX0, rfl⟩
theorem fl_X6_90 : mFL RX6 90 0 3 := ⟨RX0, TX0, 7, rfl, rfl, by decide, muX0, mg_in (i := 53) (by decide +kernel) (by decide +kernel), tyX0_ok, nmX0, rfl⟩
theorem fl_X0_25 : mFL RX0 25 0 4 := ⟨RX0, TX0, 7, rfl, rfl, by decide, muX0, mg_in (i := 54) (by decide +kernel) (by decide +kernel), tyX0_ok, nmX0, rfl⟩
theorem fl_X4_120 : mFL RX4 120 0 4 := ⟨RX0, TX0, 7, rfl, rfl, by decide, muX0, mg_in (i := 55) (by decide +kernel) (by decide +kernel), tyX0_ok, nmX0, rfl⟩
theorem fl_X6_93 : mFL RX6 93 0 4 := ⟨RX0, TX0, 7, rfl, rfl, by decide, muX0, mg_in (i := 56) (by decide +kernel) (by decide +kernel), tyX0_ok, nmX0, rfl⟩
theorem fl_X0_28 : mFL RX0 28 0 5 := ⟨RX0, TX0, 7, rfl, rfl, by decide, muX0, mg_in (i := 57) (by decide +kernel) (by decide +kernel), tyX0_ok, nmX0, rfl⟩
theorem fl_X4_114 : mFL RX4 114 0 5 := ⟨RX0, TX0, 7, rfl, rfl, by decide, muX0, mg_in (i := 58) (by decide +kernel) (by decide +kernel), tyX0_ok, nmX0, rfl⟩
theorem fl_X6_99 : mFL RX6 99 0 5 := ⟨RX0, TX0, 7, rfl, rfl, by decide, muX0, mg_in (i := 59) (by decide +kernel) (by decide +kernel), tyX0_ok, nmX0, rfl⟩
theorem fl_X0_31 : mFL RX0 31 0 6 := ⟨RX0, TX0, 7, rfl, rfl, by decide, muX0, mg_in (i := 60) (by decide +kernel) (by decide +kernel), tyX0_ok, nmX0, rfl⟩
theorem fl_X4_123 : mFL RX4 123 0 6 := ⟨RX0, TX0, 7, rfl, rfl, by decide, muX0, mg_in (i := 61) (by decide +kernel) (by decide +kernel), tyX0_ok, nmX0, rfl⟩
theorem fl_X6_102 : mFL RX6 102 0 6 := ⟨RX0, TX0, 7, rfl, rfl, by decide, muX0, mg_in (i := 62) (by decide +kernel) (by decide +kernel), tyX0_ok, nmX0, rfl⟩
theorem fl_X2_9 : mFL RX2 9 2 0 := ⟨RX2, TX2, 5, rfl, rfl, by decide, muX2, mg_in (i := 85) (by decide +kernel) (by decide +kernel), tyX2_ok, nmX2, rfl⟩
theorem fl_X6_130 : mFL RX6 130 2 0 := ⟨RX2, TX2, 5, rfl, rfl, by decide, muX2, mg_in (i := 86) (by decide +kernel) (by decide +kernel), tyX2_ok, nmX2, rfl⟩
theorem fl_X2_15 : mFL RX2 15 2 1 := ⟨RX2, TX2, 5, rfl, rfl, by decide, muX2, mg_in (i := 87) (by decide +kernel) (by decide +kernel), tyX2_ok, nmX2, rfl⟩
theorem fl_X6_135 : mFL RX6 135 2 1 := ⟨RX2, TX2, 5, rfl, rfl, by decide, muX2, mg_in (i := 88) (by decide +kernel) (by decide +kernel), tyX2_ok, nmX2, rfl⟩
theorem fl_X2_18 : mFL RX2 18 2 2 := ⟨RX2, TX2, 5, rfl, rfl, by decide, muX2, mg_in (i := 89) (by decide +kernel) (by decide +kernel), tyX2_ok, nmX2, rfl⟩
theorem fl_X6_155 : mFL RX6 155 2 2 := ⟨RX2, TX2, 5, rfl, rfl, by decide, muX2, mg_in (i := 90) (by decide +kernel) (by decide +kernel), tyX2_ok, nmX2, rfl⟩
theorem fl_X2_21 : mFL RX2 21 2 3 := ⟨RX2, TX2, 5, rfl, rfl, by decide, muX2, mg_in (i := 91) (by decide +kernel) (by decide +kernel), tyX2_ok, nmX2, rfl⟩
theorem fl_X6_142 : mFL RX6 142 2 3 := ⟨RX2, TX2, 5, rfl, rfl, by decide, muX2, mg_in (i := 92) (by decide +kernel) (by decide +kernel), tyX2_ok, nmX2, rfl⟩
theorem fl_X2_24 : mFL RX2 24 2 4 := ⟨RX2, TX2, 5, rfl, rfl, by decide, muX2, mg_in (i := 93) (by decide +kernel) (by decide +kernel), tyX2_ok, nmX2, rfl⟩
theorem fl_X6_138 : mFL RX6 138 2 4 := ⟨RX2, TX2, 5, rfl, rfl, by decide, muX2, mg_in (i := 94) (by decide +kernel) (by decide +kernel), tyX2_ok, nmX2, rfl⟩
theorem fl_X4_9 : mFL RX4 9 4 0 := ⟨RX4, TX4, 6, rfl, rfl, by decide, muX4, mg_in (i := 106) (by decide +kernel) (by decide +kernel), tyX4_ok, nmX4, rfl⟩
theorem fl_X6_145 : mFL RX6 145 4 0 := ⟨RX4, TX4, 6, rfl, rfl, by decide, muX4, mg_in (i := 107) (by decide +kernel) (by decide +kernel), tyX4_ok, nmX4, rfl⟩
theorem fl_X4_24 : mFL RX4 24 4 1 := ⟨RX4, TX4, 6, rfl, rfl, by decide, muX4, mg_in (i := 108) (by decide +kernel) (by decide +kernel), tyX4_ok, nmX4, rfl⟩
theorem fl_X6_167 : mFL RX6 167 4 1 := ⟨RX4, TX4, 6, rfl, rfl, by decide, muX4, mg_in (i := 109) (by decide +kernel) (by decide +kernel), tyX4_ok, nmX4, rfl⟩
theorem fl_X4_30 : mFL RX4 30 4 2 := ⟨RX4, TX4, 6, rfl, rfl, by decide, muX4, mg_in (i := 110) (by decide +kernel) (by decide +kernel), tyX4_ok, nmX4, rfl⟩
theorem fl_X5_26 : mFL RX5 26 4 2 := ⟨RX4, TX4, 6, rfl, rfl, by decide, muX4, mg_in (i := 111) (by decide +kernel) (by decide +kernel), tyX4_ok, nmX4, rfl⟩
theorem fl_X6_73 : mFL RX6 73 4 2 := ⟨RX4, TX4, 6, rfl, rfl, by decide, muX4, mg_in (i := 112) (by decide +kernel) (by decide +kernel), tyX4_ok, nmX4, rfl⟩
theorem fl_X4_37 : mFL RX4 37 4 3 := ⟨RX4, TX4, 6, rfl, rfl, by decide, muX4, mg_in (i := 113) (by decide +kernel) (by decide +kernel), tyX4_ok, nmX4, rfl⟩
theorem fl_X6_126 : mFL RX6 126 4 3 := ⟨RX4, TX4, 6, rfl, rfl, by decide, muX4, mg_in (i := 114) (by decide +kernel) (by decide +kernel), tyX4_ok, nmX4, rfl⟩
theorem fl_X4_41 : mFL RX4 41 4 4 := ⟨RX4, TX4, 6, rfl, rfl, by decide, muX4, mg_in (i := 115) (by decide +kernel) (by decide +kernel), tyX4_ok, nmX4, rfl⟩
theorem fl_X6_117 : mFL RX6 117 4 4 := ⟨RX4, TX4, 6, rfl, rfl, by decide, muX4, mg_in (i := 116) (by decide +kernel) (by decide +kernel), tyX4_ok, nmX4, rfl⟩
theorem fl_X4_44 : mFL RX4 44 4 5 := ⟨RX4, TX4, 6, rfl, rfl, by decide, muX4, mg_in (i := 117) (by decide +kernel) (by decide +kernel), tyX4_ok, nmX4, rfl⟩
theorem fl_X6_123 : mFL RX6 123 4 5 := ⟨RX4, TX4, 6, rfl, rfl, by decide, muX4, mg_in (i := 118) (by decide +kernel) (by decide +kernel), tyX4_ok, nmX4, rfl⟩
theorem fl_X1_11 : mFL RX1 11 1 0 := ⟨RX1, TX1, 2, rfl, rfl, by decide, muX1, mg_in (i := 141) (by decide +kernel) (by decide +kernel), tyX1_ok, nmX1, rfl⟩
theorem fl_X1_17 : mFL RX1 17 1 1 := ⟨RX1, TX1, 2, rfl, rfl, by decide, muX1, mg_in (i := 142) (by decide +kernel) (by decide +kernel), tyX1_ok, nmX1, rfl⟩
theorem fl_X6_173 : mFL RX6 173 1 1 := ⟨RX1, TX1, 2, rfl, rfl, by decide, muX1, mg_in (i := 143) (by decide +kernel) (by decide +kernel), tyX1_ok, nmX1, rfl⟩
theorem fl_X5_12 : mFL RX5 12 5 0 := ⟨RX5, TX5, 2, rfl, rfl, by decide, muX5, mg_in (i := 157) (by decide +kernel) (by decide +kernel), tyX5_ok, nmX5, rfl⟩
theorem fl_X5_18 : mFL RX5 18 5 1 := ⟨RX5, TX5, 2, rfl, rfl, by decide, muX5, mg_in (i := 158) (by decide +kernel) (by decide +kernel), tyX5_ok, nmX5, rfl⟩
theorem fl_X3_9 : mFL RX3 9 3 0 := ⟨RX3, TX3, 2, rfl, rfl, by decide, muX3, mg_in (i := 171) (by decide +kernel) (by decide +kernel), tyX3_ok, nmX3, rfl⟩
theorem fl_X3_15 : mFL RX3 15 3 1 := ⟨RX3, TX3, 2, rfl, rfl, by decide, muX3, mg_in (i := 172) (by decide +kernel) (by decide +kernel), tyX3_ok, nmX3, rfl⟩
theorem fl_X6_170 : mFL RX6 170 3 1 := ⟨RX3, TX3, 2, rfl, rfl, by decide, muX3, mg_in (i := 173) (by decide +kernel) (by decide +kernel), tyX3_ok, nmX3, rfl⟩
theorem fl_X6_10 : mFL RX6 10 6 0 := ⟨RX6, TX6, 4, rfl, rfl, by decide, muX6, mg_in (i := 179) (by decide +kernel) (by decide +kernel), tyX6_ok, nmX6, rfl⟩
theorem fl_X6_19 : mFL RX6 19 6 1 := ⟨RX6, TX6, 4, rfl, rfl, by decide, muX6, mg_in (i := 180) (by decide +kernel) (by decide +kernel), tyX6_ok, nmX6, rfl⟩
theorem fl_X6_26 : mFL RX6 26 6 2 := ⟨RX6, TX6, 4, rfl, rfl, by decide, muX6, mg_in (i := 181) (by decide +kernel) (by decide +kernel), tyX6_ok, nmX6, rfl⟩
theorem fl_X6_33 : mFL RX6 33 6 3 := ⟨RX6, TX6, 4, rfl, rfl, by decide, muX6, mg_in (i := 182) (by decide +kernel) (by decide +kernel), tyX6_ok, nmX6, rfl⟩
theorem sl_X4_15 : Cond.fieldLinkNest RX4 15 "PauseLexicons" "FIRST_SETTINGS" "[I" "PauseLexicons" ∈ mNW := mn_in (i := 29) (by decide +kernel) (by decide +kernel)
theorem sl_X4_136 : Cond.fieldLinkNest RX4 136 "PauseLexicons" "MEANING_BY_COMPANY" "[I" "PauseLexicons" ∈ mNW := mn_in (i := 343) (by decide +kernel) (by decide +kernel)
theorem sl_X4_60 : Cond.fieldLinkNest RX4 60 "PauseLexicons" "HIGHEST_SETTINGS" "[I" "PauseLexicons" ∈ mNW := mn_in (i := 461) (by decide +kernel) (by decide +kernel)
theorem cl_L_13 : Cond.classLink RL 13 RX6 ∈ mGW := mg_in (i := 15) (by decide +kernel) (by decide +kernel)
theorem cl_X6_7 : Cond.classLink RX6 7 RX4 ∈ mGW := mg_in (i := 23) (by decide +kernel) (by decide +kernel)
theorem cl_X4_20 : Cond.classLink RX4 20 "[I" ∈ mGW := mg_in (i := 37) (by decide +kernel) (by decide +kernel)
theorem cl_X4_27 : Cond.classLink RX4 27 RX0 ∈ mGW := mg_in (i := 38) (by decide +kernel) (by decide +kernel)
theorem cl_X4_34 : Cond.classLink RX4 34 RX2 ∈ mGW := mg_in (i := 79) (by decide +kernel) (by decide +kernel)
theorem cl_X6_16 : Cond.classLink RX6 16 RX1 ∈ mGW := mg_in (i := 132) (by decide +kernel) (by decide +kernel)
theorem cl_X1_9 : Cond.classLink RX1 9 RX4 ∈ mGW := mg_in (i := 138) (by decide +kernel) (by decide +kernel)
theorem cl_X6_23 : Cond.classLink RX6 23 RX5 ∈ mGW := mg_in (i := 149) (by decide +kernel) (by decide +kernel)
theorem cl_X5_9 : Cond.classLink RX5 9 RX4 ∈ mGW := mg_in (i := 155) (by decide +kernel) (by decide +kernel)
theorem cl_X6_30 : Cond.classLink RX6 30 RX3 ∈ mGW := mg_in (i := 165) (by decide +kernel) (by decide +kernel)
theorem kc_L_7 : Cond.constant RL 7 (2147483647 : Int32) ∈ mGW := mg_in (i := 295) (by decide +kernel) (by decide +kernel)
theorem kc_J6_265 : Cond.constant RJ6 265 (1431655765 : Int32) ∈ mGW := mg_in (i := 382) (by decide +kernel) (by decide +kernel)
theorem kc_J6_266 : Cond.constant RJ6 266 (858993459 : Int32) ∈ mGW := mg_in (i := 383) (by decide +kernel) (by decide +kernel)
theorem kc_J6_267 : Cond.constant RJ6 267 (252645135 : Int32) ∈ mGW := mg_in (i := 384) (by decide +kernel) (by decide +kernel)
theorem kl_L_8 : Cond.constantLong RL 8 (3 : Int64) ∈ mGW := mg_in (i := 299) (by decide +kernel) (by decide +kernel)
theorem kl_L_10 : Cond.constantLong RL 10 (31 : Int64) ∈ mGW := mg_in (i := 300) (by decide +kernel) (by decide +kernel)
abbrev MX0_init : mM := (RX0, cX0_init, 1, none, true)
theorem sX0_init : mMethI yX0_init MX0_init 0 := ⟨⟨by decide +kernel, rfl, by decide +kernel, mg_in (i := 42) (by decide +kernel) (by decide +kernel), mg_in (i := 7) (by decide +kernel) (by decide +kernel), by decide +kernel, by decide⟩, mg_in (i := 41) (by decide +kernel) (by decide +kernel)⟩
abbrev MX0_copyFrom : mM := (RX0, cX0_copyFrom, 2, none, false)
theorem sX0_copyFrom : mMethV yX0_copyFrom MX0_copyFrom 0 1 := ⟨⟨by decide +kernel, rfl, by decide +kernel, mg_in (i := 250) (by decide +kernel) (by decide +kernel), mg_in (i := 7) (by decide +kernel) (by decide +kernel), by decide +kernel, by decide⟩, mg_in (i := 248) (by decide +kernel) (by decide +kernel), mg_in (i := 249) (by decide +kernel) (by decide +kernel), rfl⟩
abbrev MX0_add : mM := (RX0, cX0_add, 4, (some .int), false)
theorem sX0_add : mMethV yX0_add MX0_add 0 3 := ⟨⟨by decide +kernel, rfl, by decide +kernel, mg_in (i := 364) (by decide +kernel) (by decide +kernel), mg_in (i := 7) (by decide +kernel) (by decide +kernel), by decide +kernel, by decide⟩, mg_in (i := 362) (by decide +kernel) (by decide +kernel), mg_in (i := 363) (by decide +kernel) (by decide +kernel), rfl⟩
abbrev MX0_isKnown : mM := (RX0, cX0_isKnown, 2, (some .boolean), false)
theorem sX0_isKnown : mMethV yX0_isKnown MX0_isKnown 0 1 := ⟨⟨by decide +kernel, rfl, by decide +kernel, mg_in (i := 308) (by decide +kernel) (by decide +kernel), mg_in (i := 7) (by decide +kernel) (by decide +kernel), by decide +kernel, by decide⟩, mg_in (i := 306) (by decide +kernel) (by decide +kernel), mg_in (i := 307) (by decide +kernel) (by decide +kernel), rfl⟩
abbrev MX0_isHost : mM := (RX0, cX0_isHost, 2, (some .boolean), false)
theorem sX0_isHost : mMethV yX0_isHost MX0_isHost 0 1 := ⟨⟨by decide +kernel, rfl, by decide +kernel, mg_in (i := 312) (by decide +kernel) (by decide +kernel), mg_in (i := 7) (by decide +kernel) (by decide +kernel), by decide +kernel, by decide⟩, mg_in (i := 310) (by decide +kernel) (by decide +kernel), mg_in (i := 311) (by decide +kernel) (by decide +kernel), rfl⟩
abbrev MX0_setAt : mM := (RX0, cX0_setAt, 4, (some .int), false)
theorem sX0_setAt : mMethV yX0_setAt MX0_setAt 0 1 := ⟨⟨by decide +kernel, rfl, by decide +kernel, mg_in (i := 207) (by decide +kernel) (by decide +kernel), mg_in (i := 7) (by decide +kernel) (by decide +kernel), by decide +kernel, by decide⟩, mg_in (i := 205) (by decide +kernel) (by decide +kernel), mg_in (i := 206) (by decide +kernel) (by decide +kernel), rfl⟩
abbrev MX0_setOfThoseHere : mM := (RX0, cX0_setOfThoseHere, 3, (some .int), false)
theorem sX0_setOfThoseHere : mMethV yX0_setOfThoseHere MX0_setOfThoseHere 0 0 := ⟨⟨by decide +kernel, rfl, by decide +kernel, mg_in (i := 203) (by decide +kernel) (by decide +kernel), mg_in (i := 7) (by decide +kernel) (by decide +kernel), by decide +kernel, by decide⟩, mg_in (i := 201) (by decide +kernel) (by decide +kernel), mg_in (i := 202) (by decide +kernel) (by decide +kernel), rfl⟩
abbrev MX0_hostOf : mM := (RX0, cX0_hostOf, 5, (some .int), false)
theorem sX0_hostOf : mMethV yX0_hostOf MX0_hostOf 0 1 := ⟨⟨by decide +kernel, rfl, by decide +kernel, mg_in (i := 316) (by decide +kernel) (by decide +kernel), mg_in (i := 7) (by decide +kernel) (by decide +kernel), by decide +kernel, by decide⟩, mg_in (i := 314) (by decide +kernel) (by decide +kernel), mg_in (i := 315) (by decide +kernel) (by decide +kernel), rfl⟩
abbrev MX0_companyOf : mM := (RX0, cX0_companyOf, 7, (some .int), false)
theorem sX0_companyOf : mMethV yX0_companyOf MX0_companyOf 0 2 := ⟨⟨by decide +kernel, rfl, by decide +kernel, mg_in (i := 329) (by decide +kernel) (by decide +kernel), mg_in (i := 7) (by decide +kernel) (by decide +kernel), by decide +kernel, by decide⟩, mg_in (i := 327) (by decide +kernel) (by decide +kernel), mg_in (i := 328) (by decide +kernel) (by decide +kernel), rfl⟩
abbrev MX0_lenderTo : mM := (RX0, cX0_lenderTo, 6, (some .int), false)
theorem sX0_lenderTo : mMethV yX0_lenderTo MX0_lenderTo 0 2 := ⟨⟨by decide +kernel, rfl, by decide +kernel, mg_in (i := 452) (by decide +kernel) (by decide +kernel), mg_in (i := 7) (by decide +kernel) (by decide +kernel), by decide +kernel, by decide⟩, mg_in (i := 450) (by decide +kernel) (by decide +kernel), mg_in (i := 451) (by decide +kernel) (by decide +kernel), rfl⟩
abbrev MX0_faultsOfAll : mM := (RX0, cX0_faultsOfAll, 3, (some .int), false)
theorem sX0_faultsOfAll : mMethV yX0_faultsOfAll MX0_faultsOfAll 0 0 := ⟨⟨by decide +kernel, rfl, by decide +kernel, mg_in (i := 215) (by decide +kernel) (by decide +kernel), mg_in (i := 7) (by decide +kernel) (by decide +kernel), by decide +kernel, by decide⟩, mg_in (i := 213) (by decide +kernel) (by decide +kernel), mg_in (i := 214) (by decide +kernel) (by decide +kernel), rfl⟩
abbrev MX0_coughsOfThoseHere : mM := (RX0, cX0_coughsOfThoseHere, 3, (some .int), false)
theorem sX0_coughsOfThoseHere : mMethV yX0_coughsOfThoseHere MX0_coughsOfThoseHere 0 0 := ⟨⟨by decide +kernel, rfl, by decide +kernel, mg_in (i := 223) (by decide +kernel) (by decide +kernel), mg_in (i := 7) (by decide +kernel) (by decide +kernel), by decide +kernel, by decide⟩, mg_in (i := 221) (by decide +kernel) (by decide +kernel), mg_in (i := 222) (by decide +kernel) (by decide +kernel), rfl⟩
abbrev MX1_init : mM := (RX1, cX1_init, 2, none, true)
theorem sX1_init : mMethI yX1_init MX1_init 0 := ⟨⟨by decide +kernel, rfl, by decide +kernel, mg_in (i := 136) (by decide +kernel) (by decide +kernel), mg_in (i := 9) (by decide +kernel) (by decide +kernel), by decide +kernel, by decide⟩, mg_in (i := 135) (by decide +kernel) (by decide +kernel)⟩
abbrev MX1_noteBefore : mM := (RX1, cX1_noteBefore, 2, none, false)
theorem sX1_noteBefore : mMethV yX1_noteBefore MX1_noteBefore 1 1 := ⟨⟨by decide +kernel, rfl, by decide +kernel, mg_in (i := 273) (by decide +kernel) (by decide +kernel), mg_in (i := 9) (by decide +kernel) (by decide +kernel), by decide +kernel, by decide⟩, mg_in (i := 271) (by decide +kernel) (by decide +kernel), mg_in (i := 272) (by decide +kernel) (by decide +kernel), rfl⟩
abbrev MX1_keepNoted : mM := (RX1, cX1_keepNoted, 3, none, false)
theorem sX1_keepNoted : mMethV yX1_keepNoted MX1_keepNoted 1 0 := ⟨⟨by decide +kernel, rfl, by decide +kernel, mg_in (i := 288) (by decide +kernel) (by decide +kernel), mg_in (i := 9) (by decide +kernel) (by decide +kernel), by decide +kernel, by decide⟩, mg_in (i := 286) (by decide +kernel) (by decide +kernel), mg_in (i := 287) (by decide +kernel) (by decide +kernel), rfl⟩
abbrev MX1_takeBack : mM := (RX1, cX1_takeBack, 2, (some .int), false)
theorem sX1_takeBack : mMethV yX1_takeBack MX1_takeBack 1 1 := ⟨⟨by decide +kernel, rfl, by decide +kernel, mg_in (i := 239) (by decide +kernel) (by decide +kernel), mg_in (i := 9) (by decide +kernel) (by decide +kernel), by decide +kernel, by decide⟩, mg_in (i := 237) (by decide +kernel) (by decide +kernel), mg_in (i := 238) (by decide +kernel) (by decide +kernel), rfl⟩
abbrev MX2_init : mM := (RX2, cX2_init, 1, none, true)
theorem sX2_init : mMethI yX2_init MX2_init 0 := ⟨⟨by decide +kernel, rfl, by decide +kernel, mg_in (i := 83) (by decide +kernel) (by decide +kernel), mg_in (i := 8) (by decide +kernel) (by decide +kernel), by decide +kernel, by decide⟩, mg_in (i := 82) (by decide +kernel) (by decide +kernel)⟩
abbrev MX2_copyFrom : mM := (RX2, cX2_copyFrom, 2, none, false)
theorem sX2_copyFrom : mMethV yX2_copyFrom MX2_copyFrom 2 1 := ⟨⟨by decide +kernel, rfl, by decide +kernel, mg_in (i := 255) (by decide +kernel) (by decide +kernel), mg_in (i := 8) (by decide +kernel) (by decide +kernel), by decide +kernel, by decide⟩, mg_in (i := 253) (by decide +kernel) (by decide +kernel), mg_in (i := 254) (by decide +kernel) (by decide +kernel), rfl⟩
abbrev MX2_enterMeaning : mM := (RX2, cX2_enterMeaning, 3, none, false)
theorem sX2_enterMeaning : mMethV yX2_enterMeaning MX2_enterMeaning 2 2 := ⟨⟨by decide +kernel, rfl, by decide +kernel, mg_in (i := 413) (by decide +kernel) (by decide +kernel), mg_in (i := 8) (by decide +kernel) (by decide +kernel), by decide +kernel, by decide⟩, mg_in (i := 411) (by decide +kernel) (by decide +kernel), mg_in (i := 412) (by decide +kernel) (by decide +kernel), rfl⟩
abbrev MX2_tellEnd : mM := (RX2, cX2_tellEnd, 6, none, false)
theorem sX2_tellEnd : mMethV yX2_tellEnd MX2_tellEnd 2 5 := ⟨⟨by decide +kernel, rfl, by decide +kernel, mg_in (i := 424) (by decide +kernel) (by decide +kernel), mg_in (i := 8) (by decide +kernel) (by decide +kernel), by decide +kernel, by decide⟩, mg_in (i := 422) (by decide +kernel) (by decide +kernel), mg_in (i := 423) (by decide +kernel) (by decide +kernel), rfl⟩
abbrev MX2_setOfMeant : mM := (RX2, cX2_setOfMeant, 3, (some .int), false)
theorem sX2_setOfMeant : mMethV yX2_setOfMeant MX2_setOfMeant 2 0 := ⟨⟨by decide +kernel, rfl, by decide +kernel, mg_in (i := 219) (by decide +kernel) (by decide +kernel), mg_in (i := 8) (by decide +kernel) (by decide +kernel), by decide +kernel, by decide⟩, mg_in (i := 217) (by decide +kernel) (by decide +kernel), mg_in (i := 218) (by decide +kernel) (by decide +kernel), rfl⟩
abbrev MX2_mostMeant : mM := (RX2, cX2_mostMeant, 4, (some .int), false)
theorem sX2_mostMeant : mMethV yX2_mostMeant MX2_mostMeant 2 0 := ⟨⟨by decide +kernel, rfl, by decide +kernel, mg_in (i := 231) (by decide +kernel) (by decide +kernel), mg_in (i := 8) (by decide +kernel) (by decide +kernel), by decide +kernel, by decide⟩, mg_in (i := 229) (by decide +kernel) (by decide +kernel), mg_in (i := 230) (by decide +kernel) (by decide +kernel), rfl⟩
abbrev MX3_init : mM := (RX3, cX3_init, 1, none, true)
theorem sX3_init : mMethI yX3_init MX3_init 0 := ⟨⟨by decide +kernel, rfl, by decide +kernel, mg_in (i := 169) (by decide +kernel) (by decide +kernel), mg_in (i := 11) (by decide +kernel) (by decide +kernel), by decide +kernel, by decide⟩, mg_in (i := 168) (by decide +kernel) (by decide +kernel)⟩
abbrev MX4_init : mM := (RX4, cX4_init, 1, none, true)
theorem sX4_init : mMethI yX4_init MX4_init 0 := ⟨⟨by decide +kernel, rfl, by decide +kernel, mg_in (i := 27) (by decide +kernel) (by decide +kernel), mg_in (i := 6) (by decide +kernel) (by decide +kernel), by decide +kernel, by decide⟩, mg_in (i := 26) (by decide +kernel) (by decide +kernel)⟩
abbrev MX4_copyFrom : mM := (RX4, cX4_copyFrom, 2, none, false)
theorem sX4_copyFrom : mMethV yX4_copyFrom MX4_copyFrom 4 1 := ⟨⟨by decide +kernel, rfl, by decide +kernel, mg_in (i := 243) (by decide +kernel) (by decide +kernel), mg_in (i := 6) (by decide +kernel) (by decide +kernel), by decide +kernel, by decide⟩, mg_in (i := 241) (by decide +kernel) (by decide +kernel), mg_in (i := 242) (by decide +kernel) (by decide +kernel), rfl⟩
abbrev MX4_changeSetting : mM := (RX4, cX4_changeSetting, 4, (some .int), false)
theorem sX4_changeSetting : mMethV yX4_changeSetting MX4_changeSetting 4 2 := ⟨⟨by decide +kernel, rfl, by decide +kernel, mg_in (i := 460) (by decide +kernel) (by decide +kernel), mg_in (i := 6) (by decide +kernel) (by decide +kernel), by decide +kernel, by decide⟩, mg_in (i := 458) (by decide +kernel) (by decide +kernel), mg_in (i := 459) (by decide +kernel) (by decide +kernel), rfl⟩
abbrev MX4_welcome : mM := (RX4, cX4_welcome, 3, (some .int), false)
theorem sX4_welcome : mMethV yX4_welcome MX4_welcome 4 2 := ⟨⟨by decide +kernel, rfl, by decide +kernel, mg_in (i := 359) (by decide +kernel) (by decide +kernel), mg_in (i := 6) (by decide +kernel) (by decide +kernel), by decide +kernel, by decide⟩, mg_in (i := 357) (by decide +kernel) (by decide +kernel), mg_in (i := 358) (by decide +kernel) (by decide +kernel), rfl⟩
abbrev MX4_seeOff : mM := (RX4, cX4_seeOff, 3, (some .int), false)
theorem sX4_seeOff : mMethV yX4_seeOff MX4_seeOff 4 1 := ⟨⟨by decide +kernel, rfl, by decide +kernel, mg_in (i := 372) (by decide +kernel) (by decide +kernel), mg_in (i := 6) (by decide +kernel) (by decide +kernel), by decide +kernel, by decide⟩, mg_in (i := 370) (by decide +kernel) (by decide +kernel), mg_in (i := 371) (by decide +kernel) (by decide +kernel), rfl⟩
abbrev MX4_reseat : mM := (RX4, cX4_reseat, 4, (some .int), false)
theorem sX4_reseat : mMethV yX4_reseat MX4_reseat 4 2 := ⟨⟨by decide +kernel, rfl, by decide +kernel, mg_in (i := 392) (by decide +kernel) (by decide +kernel), mg_in (i := 6) (by decide +kernel) (by decide +kernel), by decide +kernel, by decide⟩, mg_in (i := 390) (by decide +kernel) (by decide +kernel), mg_in (i := 391) (by decide +kernel) (by decide +kernel), rfl⟩
abbrev MX4_beginPause : mM := (RX4, cX4_beginPause, 3, (some .int), false)
theorem sX4_beginPause : mMethV yX4_beginPause MX4_beginPause 4 1 := ⟨⟨by decide +kernel, rfl, by decide +kernel, mg_in (i := 400) (by decide +kernel) (by decide +kernel), mg_in (i := 6) (by decide +kernel) (by decide +kernel), by decide +kernel, by decide⟩, mg_in (i := 398) (by decide +kernel) (by decide +kernel), mg_in (i := 399) (by decide +kernel) (by decide +kernel), rfl⟩
abbrev MX4_closePause : mM := (RX4, cX4_closePause, 3, (some .int), false)
theorem sX4_closePause : mMethV yX4_closePause MX4_closePause 4 1 := ⟨⟨by decide +kernel, rfl, by decide +kernel, mg_in (i := 408) (by decide +kernel) (by decide +kernel), mg_in (i := 6) (by decide +kernel) (by decide +kernel), by decide +kernel, by decide⟩, mg_in (i := 406) (by decide +kernel) (by decide +kernel), mg_in (i := 407) (by decide +kernel) (by decide +kernel), rfl⟩
abbrev MX4_breakByWord : mM := (RX4, cX4_breakByWord, 5, (some .int), false)
theorem sX4_breakByWord : mMethV yX4_breakByWord MX4_breakByWord 4 1 := ⟨⟨by decide +kernel, rfl, by decide +kernel, mg_in (i := 435) (by decide +kernel) (by decide +kernel), mg_in (i := 6) (by decide +kernel) (by decide +kernel), by decide +kernel, by decide⟩, mg_in (i := 433) (by decide +kernel) (by decide +kernel), mg_in (i := 434) (by decide +kernel) (by decide +kernel), rfl⟩
abbrev MX4_breakByCough : mM := (RX4, cX4_breakByCough, 5, (some .int), false)
theorem sX4_breakByCough : mMethV yX4_breakByCough MX4_breakByCough 4 1 := ⟨⟨by decide +kernel, rfl, by decide +kernel, mg_in (i := 448) (by decide +kernel) (by decide +kernel), mg_in (i := 6) (by decide +kernel) (by decide +kernel), by decide +kernel, by decide⟩, mg_in (i := 446) (by decide +kernel) (by decide +kernel), mg_in (i := 447) (by decide +kernel) (by decide +kernel), rfl⟩
abbrev MX4_letPass : mM := (RX4, cX4_letPass, 4, (some .int), false)
theorem sX4_letPass : mMethV yX4_letPass MX4_letPass 4 1 := ⟨⟨by decide +kernel, rfl, by decide +kernel, mg_in (i := 470) (by decide +kernel) (by decide +kernel), mg_in (i := 6) (by decide +kernel) (by decide +kernel), by decide +kernel, by decide⟩, mg_in (i := 468) (by decide +kernel) (by decide +kernel), mg_in (i := 469) (by decide +kernel) (by decide +kernel), rfl⟩
abbrev MX4_errorOfBreak : mM := (RX4, cX4_errorOfBreak, 3, (some .int), false)
theorem sX4_errorOfBreak : mMethV yX4_errorOfBreak MX4_errorOfBreak 4 1 := ⟨⟨by decide +kernel, rfl, by decide +kernel, mg_in (i := 439) (by decide +kernel) (by decide +kernel), mg_in (i := 6) (by decide +kernel) (by decide +kernel), by decide +kernel, by decide⟩, mg_in (i := 437) (by decide +kernel) (by decide +kernel), mg_in (i := 438) (by decide +kernel) (by decide +kernel), rfl⟩
abbrev MX4_dropPauseOfNobody : mM := (RX4, cX4_dropPauseOfNobody, 2, none, false)
theorem sX4_dropPauseOfNobody : mMethV yX4_dropPauseOfNobody MX4_dropPauseOfNobody 4 1 := ⟨⟨by decide +kernel, rfl, by decide +kernel, mg_in (i := 377) (by decide +kernel) (by decide +kernel), mg_in (i := 6) (by decide +kernel) (by decide +kernel), by decide +kernel, by decide⟩, mg_in (i := 376) (by decide +kernel) (by decide +kernel), mg_in (i := 2) (by decide +kernel) (by decide +kernel), rfl⟩
abbrev MX4_endPause : mM := (RX4, cX4_endPause, 5, none, false)
theorem sX4_endPause : mMethV yX4_endPause MX4_endPause 4 4 := ⟨⟨by decide +kernel, rfl, by decide +kernel, mg_in (i := 420) (by decide +kernel) (by decide +kernel), mg_in (i := 6) (by decide +kernel) (by decide +kernel), by decide +kernel, by decide⟩, mg_in (i := 419) (by decide +kernel) (by decide +kernel), mg_in (i := 3) (by decide +kernel) (by decide +kernel), rfl⟩
abbrev MX4_pausesThatGoOn : mM := (RX4, cX4_pausesThatGoOn, 3, (some .int), false)
theorem sX4_pausesThatGoOn : mMethV yX4_pausesThatGoOn MX4_pausesThatGoOn 4 0 := ⟨⟨by decide +kernel, rfl, by decide +kernel, mg_in (i := 211) (by decide +kernel) (by decide +kernel), mg_in (i := 6) (by decide +kernel) (by decide +kernel), by decide +kernel, by decide⟩, mg_in (i := 209) (by decide +kernel) (by decide +kernel), mg_in (i := 210) (by decide +kernel) (by decide +kernel), rfl⟩
abbrev MX4_meaningNow : mM := (RX4, cX4_meaningNow, 3, (some .int), false)
theorem sX4_meaningNow : mMethV yX4_meaningNow MX4_meaningNow 4 2 := ⟨⟨by decide +kernel, rfl, by decide +kernel, mg_in (i := 333) (by decide +kernel) (by decide +kernel), mg_in (i := 6) (by decide +kernel) (by decide +kernel), by decide +kernel, by decide⟩, mg_in (i := 331) (by decide +kernel) (by decide +kernel), mg_in (i := 332) (by decide +kernel) (by decide +kernel), rfl⟩
abbrev MX4_meaningFor : mM := (RX4, cX4_meaningFor, 5, (some .int), false)
theorem sX4_meaningFor : mMethV yX4_meaningFor MX4_meaningFor 4 2 := ⟨⟨by decide +kernel, rfl, by decide +kernel, mg_in (i := 338) (by decide +kernel) (by decide +kernel), mg_in (i := 6) (by decide +kernel) (by decide +kernel), by decide +kernel, by decide⟩, mg_in (i := 336) (by decide +kernel) (by decide +kernel), mg_in (i := 337) (by decide +kernel) (by decide +kernel), rfl⟩
abbrev MX4_secondsToTurn : mM := (RX4, cX4_secondsToTurn, 7, (some .int), false)
theorem sX4_secondsToTurn : mMethV yX4_secondsToTurn MX4_secondsToTurn 4 1 := ⟨⟨by decide +kernel, rfl, by decide +kernel, mg_in (i := 481) (by decide +kernel) (by decide +kernel), mg_in (i := 6) (by decide +kernel) (by decide +kernel), by decide +kernel, by decide⟩, mg_in (i := 479) (by decide +kernel) (by decide +kernel), mg_in (i := 480) (by decide +kernel) (by decide +kernel), rfl⟩
abbrev MX4_beginOfShade : mM := (RX4, cX4_beginOfShade, 2, (some .int), false)
theorem sX4_beginOfShade : mMethV yX4_beginOfShade MX4_beginOfShade 4 1 := ⟨⟨by decide +kernel, rfl, by decide +kernel, mg_in (i := 342) (by decide +kernel) (by decide +kernel), mg_in (i := 6) (by decide +kernel) (by decide +kernel), by decide +kernel, by decide⟩, mg_in (i := 341) (by decide +kernel) (by decide +kernel), mg_in (i := 1) (by decide +kernel) (by decide +kernel), rfl⟩
abbrev MX5_init : mM := (RX5, cX5_init, 1, none, true)
theorem sX5_init : mMethI yX5_init MX5_init 0 := ⟨⟨by decide +kernel, rfl, by decide +kernel, mg_in (i := 153) (by decide +kernel) (by decide +kernel), mg_in (i := 10) (by decide +kernel) (by decide +kernel), by decide +kernel, by decide⟩, mg_in (i := 152) (by decide +kernel) (by decide +kernel)⟩
abbrev MX5_keep : mM := (RX5, cX5_keep, 3, (some .int), false)
theorem sX5_keep : mMethV yX5_keep MX5_keep 5 2 := ⟨⟨by decide +kernel, rfl, by decide +kernel, mg_in (i := 264) (by decide +kernel) (by decide +kernel), mg_in (i := 10) (by decide +kernel) (by decide +kernel), by decide +kernel, by decide⟩, mg_in (i := 262) (by decide +kernel) (by decide +kernel), mg_in (i := 263) (by decide +kernel) (by decide +kernel), rfl⟩
abbrev MX5_giveBack : mM := (RX5, cX5_giveBack, 3, (some .int), false)
theorem sX5_giveBack : mMethV yX5_giveBack MX5_giveBack 5 2 := ⟨⟨by decide +kernel, rfl, by decide +kernel, mg_in (i := 277) (by decide +kernel) (by decide +kernel), mg_in (i := 10) (by decide +kernel) (by decide +kernel), by decide +kernel, by decide⟩, mg_in (i := 275) (by decide +kernel) (by decide +kernel), mg_in (i := 276) (by decide +kernel) (by decide +kernel), rfl⟩
abbrev MX6_init : mM := (RX6, cX6_init, 1, none, true)
theorem sX6_init : mMethI yX6_init MX6_init 0 := ⟨⟨by decide +kernel, rfl, by decide +kernel, mg_in (i := 19) (by decide +kernel) (by decide +kernel), mg_in (i := 5) (by decide +kernel) (by decide +kernel), by decide +kernel, by decide⟩, mg_in (i := 18) (by decide +kernel) (by decide +kernel)⟩
abbrev MX6_set : mM := (RX6, cX6_set, 3, (some .int), false)
theorem sX6_set : mMethV yX6_set MX6_set 6 2 := ⟨⟨by decide +kernel, rfl, by decide +kernel, mg_in (i := 456) (by decide +kernel) (by decide +kernel), mg_in (i := 5) (by decide +kernel) (by decide +kernel), by decide +kernel, by decide⟩, mg_in (i := 454) (by decide +kernel) (by decide +kernel), mg_in (i := 455) (by decide +kernel) (by decide +kernel), rfl⟩
abbrev MX6_guest : mM := (RX6, cX6_guest, 3, (some .int), false)
theorem sX6_guest : mMethV yX6_guest MX6_guest 6 2 := ⟨⟨by decide +kernel, rfl, by decide +kernel, mg_in (i := 355) (by decide +kernel) (by decide +kernel), mg_in (i := 5) (by decide +kernel) (by decide +kernel), by decide +kernel, by decide⟩, mg_in (i := 353) (by decide +kernel) (by decide +kernel), mg_in (i := 354) (by decide +kernel) (by decide +kernel), rfl⟩
abbrev MX6_leave : mM := (RX6, cX6_leave, 2, (some .int), false)
theorem sX6_leave : mMethV yX6_leave MX6_leave 6 1 := ⟨⟨by decide +kernel, rfl, by decide +kernel, mg_in (i := 368) (by decide +kernel) (by decide +kernel), mg_in (i := 5) (by decide +kernel) (by decide +kernel), by decide +kernel, by decide⟩, mg_in (i := 366) (by decide +kernel) (by decide +kernel), mg_in (i := 367) (by decide +kernel) (by decide +kernel), rfl⟩
abbrev MX6_move : mM := (RX6, cX6_move, 3, (some .int), false)
theorem sX6_move : mMethV yX6_move MX6_move 6 2 := ⟨⟨by decide +kernel, rfl, by decide +kernel, mg_in (i := 388) (by decide +kernel) (by decide +kernel), mg_in (i := 5) (by decide +kernel) (by decide +kernel), by decide +kernel, by decide⟩, mg_in (i := 386) (by decide +kernel) (by decide +kernel), mg_in (i := 387) (by decide +kernel) (by decide +kernel), rfl⟩
abbrev MX6_pause : mM := (RX6, cX6_pause, 2, (some .int), false)
theorem sX6_pause : mMethV yX6_pause MX6_pause 6 1 := ⟨⟨by decide +kernel, rfl, by decide +kernel, mg_in (i := 396) (by decide +kernel) (by decide +kernel), mg_in (i := 5) (by decide +kernel) (by decide +kernel), by decide +kernel, by decide⟩, mg_in (i := 394) (by decide +kernel) (by decide +kernel), mg_in (i := 395) (by decide +kernel) (by decide +kernel), rfl⟩
abbrev MX6_close : mM := (RX6, cX6_close, 2, (some .int), false)
theorem sX6_close : mMethV yX6_close MX6_close 6 1 := ⟨⟨by decide +kernel, rfl, by decide +kernel, mg_in (i := 404) (by decide +kernel) (by decide +kernel), mg_in (i := 5) (by decide +kernel) (by decide +kernel), by decide +kernel, by decide⟩, mg_in (i := 402) (by decide +kernel) (by decide +kernel), mg_in (i := 403) (by decide +kernel) (by decide +kernel), rfl⟩
abbrev MX6_word : mM := (RX6, cX6_word, 2, (some .int), false)
theorem sX6_word : mMethV yX6_word MX6_word 6 1 := ⟨⟨by decide +kernel, rfl, by decide +kernel, mg_in (i := 431) (by decide +kernel) (by decide +kernel), mg_in (i := 5) (by decide +kernel) (by decide +kernel), by decide +kernel, by decide⟩, mg_in (i := 429) (by decide +kernel) (by decide +kernel), mg_in (i := 430) (by decide +kernel) (by decide +kernel), rfl⟩
abbrev MX6_cough : mM := (RX6, cX6_cough, 2, (some .int), false)
theorem sX6_cough : mMethV yX6_cough MX6_cough 6 1 := ⟨⟨by decide +kernel, rfl, by decide +kernel, mg_in (i := 444) (by decide +kernel) (by decide +kernel), mg_in (i := 5) (by decide +kernel) (by decide +kernel), by decide +kernel, by decide⟩, mg_in (i := 442) (by decide +kernel) (by decide +kernel), mg_in (i := 443) (by decide +kernel) (by decide +kernel), rfl⟩
abbrev MX6_pass : mM := (RX6, cX6_pass, 2, (some .int), false)
theorem sX6_pass : mMethV yX6_pass MX6_pass 6 1 := ⟨⟨by decide +kernel, rfl, by decide +kernel, mg_in (i := 466) (by decide +kernel) (by decide +kernel), mg_in (i := 5) (by decide +kernel) (by decide +kernel), by decide +kernel, by decide⟩, mg_in (i := 464) (by decide +kernel) (by decide +kernel), mg_in (i := 465) (by decide +kernel) (by decide +kernel), rfl⟩
abbrev MX6_of : mM := (RX6, cX6_of, 4, (some .int), false)
theorem sX6_of : mMethV yX6_of MX6_of 6 2 := ⟨⟨by decide +kernel, rfl, by decide +kernel, mg_in (i := 304) (by decide +kernel) (by decide +kernel), mg_in (i := 5) (by decide +kernel) (by decide +kernel), by decide +kernel, by decide⟩, mg_in (i := 302) (by decide +kernel) (by decide +kernel), mg_in (i := 303) (by decide +kernel) (by decide +kernel), rfl⟩
abbrev MX6_table : mM := (RX6, cX6_table, 3, (some .int), false)
theorem sX6_table : mMethV yX6_table MX6_table 6 2 := ⟨⟨by decide +kernel, rfl, by decide +kernel, mg_in (i := 320) (by decide +kernel) (by decide +kernel), mg_in (i := 5) (by decide +kernel) (by decide +kernel), by decide +kernel, by decide⟩, mg_in (i := 318) (by decide +kernel) (by decide +kernel), mg_in (i := 319) (by decide +kernel) (by decide +kernel), rfl⟩
abbrev MX6_meaning : mM := (RX6, cX6_meaning, 3, (some .int), false)
theorem sX6_meaning : mMethV yX6_meaning MX6_meaning 6 2 := ⟨⟨by decide +kernel, rfl, by decide +kernel, mg_in (i := 348) (by decide +kernel) (by decide +kernel), mg_in (i := 5) (by decide +kernel) (by decide +kernel), by decide +kernel, by decide⟩, mg_in (i := 346) (by decide +kernel) (by decide +kernel), mg_in (i := 347) (by decide +kernel) (by decide +kernel), rfl⟩
abbrev MX6_end : mM := (RX6, cX6_end, 3, (some .int), false)
theorem sX6_end : mMethV yX6_end MX6_end 6 2 := ⟨⟨by decide +kernel, rfl, by decide +kernel, mg_in (i := 195) (by decide +kernel) (by decide +kernel), mg_in (i := 5) (by decide +kernel) (by decide +kernel), by decide +kernel, by decide⟩, mg_in (i := 193) (by decide +kernel) (by decide +kernel), mg_in (i := 194) (by decide +kernel) (by decide +kernel), rfl⟩
abbrev MX6_count : mM := (RX6, cX6_count, 2, (some .int), false)
theorem sX6_count : mMethV yX6_count MX6_count 6 1 := ⟨⟨by decide +kernel, rfl, by decide +kernel, mg_in (i := 199) (by decide +kernel) (by decide +kernel), mg_in (i := 5) (by decide +kernel) (by decide +kernel), by decide +kernel, by decide⟩, mg_in (i := 197) (by decide +kernel) (by decide +kernel), mg_in (i := 198) (by decide +kernel) (by decide +kernel), rfl⟩
abbrev MX6_wouldMean : mM := (RX6, cX6_wouldMean, 3, (some .int), false)
theorem sX6_wouldMean : mMethV yX6_wouldMean MX6_wouldMean 6 2 := ⟨⟨by decide +kernel, rfl, by decide +kernel, mg_in (i := 490) (by decide +kernel) (by decide +kernel), mg_in (i := 5) (by decide +kernel) (by decide +kernel), by decide +kernel, by decide⟩, mg_in (i := 488) (by decide +kernel) (by decide +kernel), mg_in (i := 489) (by decide +kernel) (by decide +kernel), rfl⟩
abbrev MX6_turnsIn : mM := (RX6, cX6_turnsIn, 2, (some .int), false)
theorem sX6_turnsIn : mMethV yX6_turnsIn MX6_turnsIn 6 1 := ⟨⟨by decide +kernel, rfl, by decide +kernel, mg_in (i := 477) (by decide +kernel) (by decide +kernel), mg_in (i := 5) (by decide +kernel) (by decide +kernel), by decide +kernel, by decide⟩, mg_in (i := 475) (by decide +kernel) (by decide +kernel), mg_in (i := 476) (by decide +kernel) (by decide +kernel), rfl⟩
abbrev MX6_lender : mM := (RX6, cX6_lender, 3, (some .int), false)
theorem sX6_lender : mMethV yX6_lender MX6_lender 6 1 := ⟨⟨by decide +kernel, rfl, by decide +kernel, mg_in (i := 485) (by decide +kernel) (by decide +kernel), mg_in (i := 5) (by decide +kernel) (by decide +kernel), by decide +kernel, by decide⟩, mg_in (i := 483) (by decide +kernel) (by decide +kernel), mg_in (i := 484) (by decide +kernel) (by decide +kernel), rfl⟩
abbrev MX6_usual : mM := (RX6, cX6_usual, 1, (some .int), false)
theorem sX6_usual : mMethV yX6_usual MX6_usual 6 0 := ⟨⟨by decide +kernel, rfl, by decide +kernel, mg_in (i := 227) (by decide +kernel) (by decide +kernel), mg_in (i := 5) (by decide +kernel) (by decide +kernel), by decide +kernel, by decide⟩, mg_in (i := 225) (by decide +kernel) (by decide +kernel), mg_in (i := 226) (by decide +kernel) (by decide +kernel), rfl⟩
abbrev MX6_undo : mM := (RX6, cX6_undo, 1, (some .int), false)
theorem sX6_undo : mMethV yX6_undo MX6_undo 6 0 := ⟨⟨by decide +kernel, rfl, by decide +kernel, mg_in (i := 235) (by decide +kernel) (by decide +kernel), mg_in (i := 5) (by decide +kernel) (by decide +kernel), by decide +kernel, by decide⟩, mg_in (i := 233) (by decide +kernel) (by decide +kernel), mg_in (i := 234) (by decide +kernel) (by decide +kernel), rfl⟩
abbrev MX6_save : mM := (RX6, cX6_save, 2, (some .int), false)
theorem sX6_save : mMethV yX6_save MX6_save 6 1 := ⟨⟨by decide +kernel, rfl, by decide +kernel, mg_in (i := 260) (by decide +kernel) (by decide +kernel), mg_in (i := 5) (by decide +kernel) (by decide +kernel), by decide +kernel, by decide⟩, mg_in (i := 258) (by decide +kernel) (by decide +kernel), mg_in (i := 259) (by decide +kernel) (by decide +kernel), rfl⟩
abbrev MX6_restore : mM := (RX6, cX6_restore, 2, (some .int), false)
theorem sX6_restore : mMethV yX6_restore MX6_restore 6 1 := ⟨⟨by decide +kernel, rfl, by decide +kernel, mg_in (i := 269) (by decide +kernel) (by decide +kernel), mg_in (i := 5) (by decide +kernel) (by decide +kernel), by decide +kernel, by decide⟩, mg_in (i := 267) (by decide +kernel) (by decide +kernel), mg_in (i := 268) (by decide +kernel) (by decide +kernel), rfl⟩
abbrev MX6_keptUnlessError : mM := (RX6, cX6_keptUnlessError, 2, (some .int), false)
theorem sX6_keptUnlessError : mMethV yX6_keptUnlessError MX6_keptUnlessError 6 1 := ⟨⟨by decide +kernel, rfl, by decide +kernel, mg_in (i := 281) (by decide +kernel) (by decide +kernel), mg_in (i := 5) (by decide +kernel) (by decide +kernel), by decide +kernel, by decide⟩, mg_in (i := 280) (by decide +kernel) (by decide +kernel), mg_in (i := 0) (by decide +kernel) (by decide +kernel), rfl⟩
abbrev MX6_isError : mM := (RX6, cX6_isError, 1, (some .boolean), false)
theorem sX6_isError : mMethS yX6_isError MX6_isError 1 := ⟨⟨by decide +kernel, rfl, by decide +kernel, mg_in (i := 284) (by decide +kernel) (by decide +kernel), mg_in (i := 5) (by decide +kernel) (by decide +kernel), by decide +kernel, by decide⟩, mg_in (i := 283) (by decide +kernel) (by decide +kernel)⟩
abbrev MX6_isTable : mM := (RX6, cX6_isTable, 1, (some .boolean), false)
theorem sX6_isTable : mMethS yX6_isTable MX6_isTable 1 := ⟨⟨by decide +kernel, rfl, by decide +kernel, mg_in (i := 323) (by decide +kernel) (by decide +kernel), mg_in (i := 5) (by decide +kernel) (by decide +kernel), by decide +kernel, by decide⟩, mg_in (i := 322) (by decide +kernel) (by decide +kernel)⟩
abbrev MJ6_bitCount_0f7a4 : mM := (RJ6, cJ6_bitCount_0f7a4, 1, (some .int), false)
theorem sJ6_bitCount_0f7a4 : mMethS yJ6_bitCount_0f7a4 MJ6_bitCount_0f7a4 1 := ⟨⟨by decide +kernel, rfl, by decide +kernel, mg_in (i := 381) (by decide +kernel) (by decide +kernel), mg_in (i := 13) (by decide +kernel) (by decide +kernel), by decide +kernel, by decide⟩, mg_in (i := 380) (by decide +kernel) (by decide +kernel)⟩
abbrev ML_cell : mM := (RL, cL_cell, 2, (some .int), false)
theorem sL_cell : mMethS yL_cell ML_cell 2 := ⟨⟨by decide +kernel, rfl, by decide +kernel, mg_in (i := 291) (by decide +kernel) (by decide +kernel), mg_in (i := 4) (by decide +kernel) (by decide +kernel), by decide +kernel, by decide⟩, mg_in (i := 290) (by decide +kernel) (by decide +kernel)⟩
abbrev ML_low : mM := (RL, cL_low, 2, (some .int), false)
theorem sL_low : mMethS yL_low ML_low 2 := ⟨⟨by decide +kernel, rfl, by decide +kernel, mg_in (i := 294) (by decide +kernel) (by decide +kernel), mg_in (i := 4) (by decide +kernel) (by decide +kernel), by decide +kernel, by decide⟩, mg_in (i := 293) (by decide +kernel) (by decide +kernel)⟩
abbrev ML_told : mM := (RL, cL_told, 5, (some .long), false)
theorem sL_told : mMethS yL_told ML_told 1 := ⟨⟨by decide +kernel, rfl, by decide +kernel, mg_in (i := 298) (by decide +kernel) (by decide +kernel), mg_in (i := 4) (by decide +kernel) (by decide +kernel), by decide +kernel, by decide⟩, mg_in (i := 297) (by decide +kernel) (by decide +kernel)⟩
abbrev ML_act : mM := (RL, cL_act, 5, (some .int), false)
theorem sL_act : mMethS yL_act ML_act 3 := ⟨⟨by decide +kernel, rfl, by decide +kernel, mg_in (i := 351) (by decide +kernel) (by decide +kernel), mg_in (i := 4) (by decide +kernel) (by decide +kernel), by decide +kernel, by decide⟩, mg_in (i := 350) (by decide +kernel) (by decide +kernel)⟩
abbrev ML_holds : mM := (RL, cL_holds, 9, (some .boolean), false)
theorem sL_holds : mMethS yL_holds ML_holds 1 := ⟨⟨by decide +kernel, rfl, by decide +kernel, mg_in (i := 473) (by decide +kernel) (by decide +kernel), mg_in (i := 4) (by decide +kernel) (by decide +kernel), by decide +kernel, by decide⟩, mg_in (i := 472) (by decide +kernel) (by decide +kernel)⟩
abbrev ML_isBroken : mM := (RL, cL_isBroken, 11, (some .boolean), false)
theorem sL_isBroken : mMethS yL_isBroken ML_isBroken 3 := ⟨⟨by decide +kernel, rfl, by decide +kernel, mg_in (i := 494) (by decide +kernel) (by decide +kernel), mg_in (i := 4) (by decide +kernel) (by decide +kernel), by decide +kernel, by decide⟩, mg_in (i := 493) (by decide +kernel) (by decide +kernel)⟩
theorem ml_L_86 : Cond.methodLink RL 86 yX6_init ∈ mGW := mg_in (i := 17) (by decide +kernel) (by decide +kernel)
theorem ml_X6_1 : Cond.methodLink RX6 1 objectInit ∈ mGW := mg_in (i := 20) (by decide +kernel) (by decide +kernel)
theorem ml_X4_3 : Cond.methodLink RX4 3 objectInit ∈ mGW := mg_in (i := 28) (by decide +kernel) (by decide +kernel)
theorem ml_X4_19 : Cond.methodLink RX4 19 ⟨"[I", "clone", "()Ljava/lang/Object;"⟩ ∈ mGW := mg_in (i := 31) (by decide +kernel) (by decide +kernel)
theorem ml_X0_3 : Cond.methodLink RX0 3 objectInit ∈ mGW := mg_in (i := 43) (by decide +kernel) (by decide +kernel)
theorem ml_X2_3 : Cond.methodLink RX2 3 objectInit ∈ mGW := mg_in (i := 84) (by decide +kernel) (by decide +kernel)
theorem ml_X6_18 : Cond.methodLink RX6 18 yX1_init ∈ mGW := mg_in (i := 134) (by decide +kernel) (by decide +kernel)
theorem ml_X1_3 : Cond.methodLink RX1 3 objectInit ∈ mGW := mg_in (i := 137) (by decide +kernel) (by decide +kernel)
theorem ml_X5_3 : Cond.methodLink RX5 3 objectInit ∈ mGW := mg_in (i := 154) (by decide +kernel) (by decide +kernel)
theorem ml_X3_3 : Cond.methodLink RX3 3 objectInit ∈ mGW := mg_in (i := 170) (by decide +kernel) (by decide +kernel)
theorem ml_L_22 : Cond.methodLink RL 22 yX6_end ∈ mGW := mg_in (i := 192) (by decide +kernel) (by decide +kernel)
theorem ml_L_12 : Cond.methodLink RL 12 yX6_count ∈ mGW := mg_in (i := 196) (by decide +kernel) (by decide +kernel)
theorem ml_X6_148 : Cond.methodLink RX6 148 yX0_setOfThoseHere ∈ mGW := mg_in (i := 200) (by decide +kernel) (by decide +kernel)
theorem ml_X0_44 : Cond.methodLink RX0 44 yX0_setAt ∈ mGW := mg_in (i := 204) (by decide +kernel) (by decide +kernel)
theorem ml_X6_152 : Cond.methodLink RX6 152 yX4_pausesThatGoOn ∈ mGW := mg_in (i := 208) (by decide +kernel) (by decide +kernel)
theorem ml_X6_158 : Cond.methodLink RX6 158 yX0_faultsOfAll ∈ mGW := mg_in (i := 212) (by decide +kernel) (by decide +kernel)
theorem ml_X6_161 : Cond.methodLink RX6 161 yX2_setOfMeant ∈ mGW := mg_in (i := 216) (by decide +kernel) (by decide +kernel)
theorem ml_X6_164 : Cond.methodLink RX6 164 yX0_coughsOfThoseHere ∈ mGW := mg_in (i := 220) (by decide +kernel) (by decide +kernel)
theorem ml_L_75 : Cond.methodLink RL 75 yX6_usual ∈ mGW := mg_in (i := 224) (by decide +kernel) (by decide +kernel)
theorem ml_X6_188 : Cond.methodLink RX6 188 yX2_mostMeant ∈ mGW := mg_in (i := 228) (by decide +kernel) (by decide +kernel)
theorem ml_L_83 : Cond.methodLink RL 83 yX6_undo ∈ mGW := mg_in (i := 232) (by decide +kernel) (by decide +kernel)
theorem ml_X6_207 : Cond.methodLink RX6 207 yX1_takeBack ∈ mGW := mg_in (i := 236) (by decide +kernel) (by decide +kernel)
theorem ml_X1_22 : Cond.methodLink RX1 22 yX4_copyFrom ∈ mGW := mg_in (i := 240) (by decide +kernel) (by decide +kernel)
theorem ml_X4_47 : Cond.methodLink RX4 47 arraycopyName ∈ mGW := mg_in (i := 244) (by decide +kernel) (by decide +kernel)
theorem ml_X4_53 : Cond.methodLink RX4 53 yX0_copyFrom ∈ mGW := mg_in (i := 247) (by decide +kernel) (by decide +kernel)
theorem ml_X0_34 : Cond.methodLink RX0 34 arraycopyName ∈ mGW := mg_in (i := 251) (by decide +kernel) (by decide +kernel)
theorem ml_X4_57 : Cond.methodLink RX4 57 yX2_copyFrom ∈ mGW := mg_in (i := 252) (by decide +kernel) (by decide +kernel)
theorem ml_X2_28 : Cond.methodLink RX2 28 arraycopyName ∈ mGW := mg_in (i := 256) (by decide +kernel) (by decide +kernel)
theorem ml_L_87 : Cond.methodLink RL 87 yX6_save ∈ mGW := mg_in (i := 257) (by decide +kernel) (by decide +kernel)
theorem ml_X6_211 : Cond.methodLink RX6 211 yX5_keep ∈ mGW := mg_in (i := 261) (by decide +kernel) (by decide +kernel)
theorem ml_X5_22 : Cond.methodLink RX5 22 yX4_copyFrom ∈ mGW := mg_in (i := 265) (by decide +kernel) (by decide +kernel)
theorem ml_L_39 : Cond.methodLink RL 39 yX6_restore ∈ mGW := mg_in (i := 266) (by decide +kernel) (by decide +kernel)
theorem ml_X6_37 : Cond.methodLink RX6 37 yX1_noteBefore ∈ mGW := mg_in (i := 270) (by decide +kernel) (by decide +kernel)
theorem ml_X6_215 : Cond.methodLink RX6 215 yX5_giveBack ∈ mGW := mg_in (i := 274) (by decide +kernel) (by decide +kernel)
theorem ml_X6_45 : Cond.methodLink RX6 45 yX6_keptUnlessError ∈ mGW := mg_in (i := 278) (by decide +kernel) (by decide +kernel)
theorem ml_X6_218 : Cond.methodLink RX6 218 yX6_isError ∈ mGW := mg_in (i := 282) (by decide +kernel) (by decide +kernel)
theorem ml_X6_204 : Cond.methodLink RX6 204 yX1_keepNoted ∈ mGW := mg_in (i := 285) (by decide +kernel) (by decide +kernel)
theorem ml_L_90 : Cond.methodLink RL 90 yL_cell ∈ mGW := mg_in (i := 289) (by decide +kernel) (by decide +kernel)
theorem ml_L_31 : Cond.methodLink RL 31 yL_low ∈ mGW := mg_in (i := 292) (by decide +kernel) (by decide +kernel)
theorem ml_L_79 : Cond.methodLink RL 79 yL_told ∈ mGW := mg_in (i := 296) (by decide +kernel) (by decide +kernel)
theorem ml_L_18 : Cond.methodLink RL 18 yX6_of ∈ mGW := mg_in (i := 301) (by decide +kernel) (by decide +kernel)
theorem ml_X6_77 : Cond.methodLink RX6 77 yX0_isKnown ∈ mGW := mg_in (i := 305) (by decide +kernel) (by decide +kernel)
theorem ml_X6_96 : Cond.methodLink RX6 96 yX0_isHost ∈ mGW := mg_in (i := 309) (by decide +kernel) (by decide +kernel)
theorem ml_X0_40 : Cond.methodLink RX0 40 yX0_hostOf ∈ mGW := mg_in (i := 313) (by decide +kernel) (by decide +kernel)
theorem ml_L_25 : Cond.methodLink RL 25 yX6_table ∈ mGW := mg_in (i := 317) (by decide +kernel) (by decide +kernel)
theorem ml_X6_105 : Cond.methodLink RX6 105 yX6_isTable ∈ mGW := mg_in (i := 321) (by decide +kernel) (by decide +kernel)
theorem ml_X6_108 : Cond.methodLink RX6 108 yX0_setAt ∈ mGW := mg_in (i := 324) (by decide +kernel) (by decide +kernel)
theorem ml_X6_111 : Cond.methodLink RX6 111 yX0_hostOf ∈ mGW := mg_in (i := 325) (by decide +kernel) (by decide +kernel)
theorem ml_X6_114 : Cond.methodLink RX6 114 yX0_companyOf ∈ mGW := mg_in (i := 326) (by decide +kernel) (by decide +kernel)
theorem ml_X6_120 : Cond.methodLink RX6 120 yX4_meaningNow ∈ mGW := mg_in (i := 330) (by decide +kernel) (by decide +kernel)
theorem ml_X4_90 : Cond.methodLink RX4 90 yX0_companyOf ∈ mGW := mg_in (i := 334) (by decide +kernel) (by decide +kernel)
theorem ml_X4_130 : Cond.methodLink RX4 130 yX4_meaningFor ∈ mGW := mg_in (i := 335) (by decide +kernel) (by decide +kernel)
theorem ml_X4_133 : Cond.methodLink RX4 133 yX4_beginOfShade ∈ mGW := mg_in (i := 339) (by decide +kernel) (by decide +kernel)
theorem ml_L_28 : Cond.methodLink RL 28 yX6_meaning ∈ mGW := mg_in (i := 345) (by decide +kernel) (by decide +kernel)
theorem ml_L_94 : Cond.methodLink RL 94 yL_act ∈ mGW := mg_in (i := 349) (by decide +kernel) (by decide +kernel)
theorem ml_L_36 : Cond.methodLink RL 36 yX6_guest ∈ mGW := mg_in (i := 352) (by decide +kernel) (by decide +kernel)
theorem ml_X6_49 : Cond.methodLink RX6 49 yX4_welcome ∈ mGW := mg_in (i := 356) (by decide +kernel) (by decide +kernel)
theorem ml_X4_67 : Cond.methodLink RX4 67 yX0_add ∈ mGW := mg_in (i := 361) (by decide +kernel) (by decide +kernel)
theorem ml_L_42 : Cond.methodLink RL 42 yX6_leave ∈ mGW := mg_in (i := 365) (by decide +kernel) (by decide +kernel)
theorem ml_X6_52 : Cond.methodLink RX6 52 yX4_seeOff ∈ mGW := mg_in (i := 369) (by decide +kernel) (by decide +kernel)
theorem ml_X4_71 : Cond.methodLink RX4 71 yX0_isKnown ∈ mGW := mg_in (i := 373) (by decide +kernel) (by decide +kernel)
theorem ml_X4_77 : Cond.methodLink RX4 77 yX4_dropPauseOfNobody ∈ mGW := mg_in (i := 374) (by decide +kernel) (by decide +kernel)
theorem ml_X4_81 : Cond.methodLink RX4 81 yX0_setAt ∈ mGW := mg_in (i := 378) (by decide +kernel) (by decide +kernel)
theorem ml_X4_85 : Cond.methodLink RX4 85 yJ6_bitCount_0f7a4 ∈ mGW := mg_in (i := 379) (by decide +kernel) (by decide +kernel)
theorem ml_L_45 : Cond.methodLink RL 45 yX6_move ∈ mGW := mg_in (i := 385) (by decide +kernel) (by decide +kernel)
theorem ml_X6_55 : Cond.methodLink RX6 55 yX4_reseat ∈ mGW := mg_in (i := 389) (by decide +kernel) (by decide +kernel)
theorem ml_L_48 : Cond.methodLink RL 48 yX6_pause ∈ mGW := mg_in (i := 393) (by decide +kernel) (by decide +kernel)
theorem ml_X6_58 : Cond.methodLink RX6 58 yX4_beginPause ∈ mGW := mg_in (i := 397) (by decide +kernel) (by decide +kernel)
theorem ml_L_51 : Cond.methodLink RL 51 yX6_close ∈ mGW := mg_in (i := 401) (by decide +kernel) (by decide +kernel)
theorem ml_X6_61 : Cond.methodLink RX6 61 yX4_closePause ∈ mGW := mg_in (i := 405) (by decide +kernel) (by decide +kernel)
theorem ml_X4_94 : Cond.methodLink RX4 94 yX4_meaningNow ∈ mGW := mg_in (i := 409) (by decide +kernel) (by decide +kernel)
theorem ml_X4_97 : Cond.methodLink RX4 97 yX2_enterMeaning ∈ mGW := mg_in (i := 410) (by decide +kernel) (by decide +kernel)
theorem ml_X2_34 : Cond.methodLink RX2 34 yJ9_max_7cf53 ∈ mGW := mg_in (i := 414) (by decide +kernel) (by decide +kernel)
theorem ml_X4_101 : Cond.methodLink RX4 101 yX4_endPause ∈ mGW := mg_in (i := 417) (by decide +kernel) (by decide +kernel)
theorem ml_X4_126 : Cond.methodLink RX4 126 yX2_tellEnd ∈ mGW := mg_in (i := 421) (by decide +kernel) (by decide +kernel)
theorem ml_X2_40 : Cond.methodLink RX2 40 yJ9_min_7cf53 ∈ mGW := mg_in (i := 425) (by decide +kernel) (by decide +kernel)
theorem ml_L_54 : Cond.methodLink RL 54 yX6_word ∈ mGW := mg_in (i := 428) (by decide +kernel) (by decide +kernel)
theorem ml_X6_64 : Cond.methodLink RX6 64 yX4_breakByWord ∈ mGW := mg_in (i := 432) (by decide +kernel) (by decide +kernel)
theorem ml_X4_105 : Cond.methodLink RX4 105 yX4_errorOfBreak ∈ mGW := mg_in (i := 436) (by decide +kernel) (by decide +kernel)
theorem ml_X4_108 : Cond.methodLink RX4 108 yX0_hostOf ∈ mGW := mg_in (i := 440) (by decide +kernel) (by decide +kernel)
theorem ml_L_57 : Cond.methodLink RL 57 yX6_cough ∈ mGW := mg_in (i := 441) (by decide +kernel) (by decide +kernel)
theorem ml_X6_67 : Cond.methodLink RX6 67 yX4_breakByCough ∈ mGW := mg_in (i := 445) (by decide +kernel) (by decide +kernel)
theorem ml_X4_117 : Cond.methodLink RX4 117 yX0_lenderTo ∈ mGW := mg_in (i := 449) (by decide +kernel) (by decide +kernel)
theorem ml_L_60 : Cond.methodLink RL 60 yX6_set ∈ mGW := mg_in (i := 453) (by decide +kernel) (by decide +kernel)
theorem ml_X6_41 : Cond.methodLink RX6 41 yX4_changeSetting ∈ mGW := mg_in (i := 457) (by decide +kernel) (by decide +kernel)
theorem ml_L_63 : Cond.methodLink RL 63 yX6_pass ∈ mGW := mg_in (i := 463) (by decide +kernel) (by decide +kernel)
theorem ml_X6_70 : Cond.methodLink RX6 70 yX4_letPass ∈ mGW := mg_in (i := 467) (by decide +kernel) (by decide +kernel)
theorem ml_L_98 : Cond.methodLink RL 98 yL_holds ∈ mGW := mg_in (i := 471) (by decide +kernel) (by decide +kernel)
theorem ml_L_66 : Cond.methodLink RL 66 yX6_turnsIn ∈ mGW := mg_in (i := 474) (by decide +kernel) (by decide +kernel)
theorem ml_X6_179 : Cond.methodLink RX6 179 yX4_secondsToTurn ∈ mGW := mg_in (i := 478) (by decide +kernel) (by decide +kernel)
theorem ml_L_69 : Cond.methodLink RL 69 yX6_lender ∈ mGW := mg_in (i := 482) (by decide +kernel) (by decide +kernel)
theorem ml_X6_182 : Cond.methodLink RX6 182 yX0_lenderTo ∈ mGW := mg_in (i := 486) (by decide +kernel) (by decide +kernel)
theorem ml_L_72 : Cond.methodLink RL 72 yX6_wouldMean ∈ mGW := mg_in (i := 487) (by decide +kernel) (by decide +kernel)
theorem ml_X6_176 : Cond.methodLink RX6 176 yX4_meaningFor ∈ mGW := mg_in (i := 491) (by decide +kernel) (by decide +kernel)
theorem ml_L_102 : Cond.methodLink RL 102 yL_isBroken ∈ mGW := mg_in (i := 492) (by decide +kernel) (by decide +kernel)
theorem ml_X6_9 : Cond.methodLinkNest RX6 9 yX4_init "PauseLexicons" ∈ mNW := mn_in (i := 25) (by decide +kernel) (by decide +kernel)
theorem ml_X4_29 : Cond.methodLinkNest RX4 29 yX0_init "PauseLexicons" ∈ mNW := mn_in (i := 40) (by decide +kernel) (by decide +kernel)
theorem ml_X4_36 : Cond.methodLinkNest RX4 36 yX2_init "PauseLexicons" ∈ mNW := mn_in (i := 81) (by decide +kernel) (by decide +kernel)
theorem ml_X1_21 : Cond.methodLinkNest RX1 21 yX4_init "PauseLexicons" ∈ mNW := mn_in (i := 140) (by decide +kernel) (by decide +kernel)
theorem ml_X6_25 : Cond.methodLinkNest RX6 25 yX5_init "PauseLexicons" ∈ mNW := mn_in (i := 151) (by decide +kernel) (by decide +kernel)
theorem ml_X5_11 : Cond.methodLinkNest RX5 11 yX4_init "PauseLexicons" ∈ mNW := mn_in (i := 156) (by decide +kernel) (by decide +kernel)
theorem ml_X6_32 : Cond.methodLinkNest RX6 32 yX3_init "PauseLexicons" ∈ mNW := mn_in (i := 167) (by decide +kernel) (by decide +kernel)
theorem ml_X4_63 : Cond.methodLinkNest RX4 63 yX6_isTable "PauseLexicons" ∈ mNW := mn_in (i := 360) (by decide +kernel) (by decide +kernel)
theorem wo_inst : Cond.instanceMethod objectInit ∈ mGW := mg_in (i := 21) (by decide +kernel) (by decide +kernel)
theorem wo_code : Cond.code objectInit ⟨#[0xb1]⟩ 1 none ∈ mGW := mg_in (i := 22) (by decide +kernel) (by decide +kernel)
theorem wa_nat : Cond.native arraycopyName ∈ mGW := mg_in (i := 246) (by decide +kernel) (by decide +kernel)
theorem wa_stat : Cond.static arraycopyName ∈ mGW := mg_in (i := 245) (by decide +kernel) (by decide +kernel)
theorem wa_ini : Cond.initialized "java/lang/System" ∈ mGW := mg_in (i := 12) (by decide +kernel) (by decide +kernel)
theorem wm_ini : Cond.initialized "java/lang/Math" ∈ mGW := mg_in (i := 14) (by decide +kernel) (by decide +kernel)
theorem wm_max_stat : Cond.static Lib.Math.max.name ∈ mGW := mg_in (i := 415) (by decide +kernel) (by decide +kernel)
theorem wm_max_code : Cond.code Lib.Math.max.name Lib.Math.max.code 2 (some .int) ∈ mGW := mg_in (i := 416) (by decide +kernel) (by decide +kernel)
theorem wm_min_stat : Cond.static Lib.Math.min.name ∈ mGW := mg_in (i := 426) (by decide +kernel) (by decide +kernel)
theorem wm_min_code : Cond.code Lib.Math.min.name Lib.Math.min.code 2 (some .int) ∈ mGW := mg_in (i := 427) (by decide +kernel) (by decide +kernel)
theorem wc_same : Cond.sameMethod "[I" "java/lang/Object" "clone" "()Ljava/lang/Object;" ∈ mGW := mg_in (i := 32) (by decide +kernel) (by decide +kernel)
theorem wc_nat : Cond.native ⟨"java/lang/Object", "clone", "()Ljava/lang/Object;"⟩ ∈ mGW := mg_in (i := 33) (by decide +kernel) (by decide +kernel)
theorem wc_inst : Cond.instanceMethod ⟨"java/lang/Object", "clone", "()Ljava/lang/Object;"⟩ ∈ mGW := mg_in (i := 34) (by decide +kernel) (by decide +kernel)
theorem wc_sel : Cond.selects "[I" ⟨"[I", "clone", "()Ljava/lang/Object;"⟩ ⟨"java/lang/Object", "clone", "()Ljava/lang/Object;"⟩ ∈ mGW := mg_in (i := 35) (by decide +kernel) (by decide +kernel)
theorem wc_cast : Cond.castable "[I" "java/lang/Cloneable" ∈ mNW := mn_in (i := 36) (by decide +kernel) (by decide +kernel)
theorem wk_int : Cond.arrayClass .int ∈ mGW := mg_in (i := 78) (by decide +kernel) (by decide +kernel)
theorem wk_bool : Cond.arrayClass .boolean ∈ mGW := mg_in (i := 164) (by decide +kernel) (by decide +kernel)
theorem nc_X0 : mNC 0 RX0 := ⟨TX0, 7, rfl, rfl, muX0, miX0, mzX0, tyX0_ok, by decide⟩
theorem nc_X1 : mNC 1 RX1 := ⟨TX1, 2, rfl, rfl, muX1, miX1, mzX1, tyX1_ok, by decide⟩
theorem nc_X2 : mNC 2 RX2 := ⟨TX2, 5, rfl, rfl, muX2, miX2, mzX2, tyX2_ok, by decide⟩
theorem nc_X3 : mNC 3 RX3 := ⟨TX3, 2, rfl, rfl, muX3, miX3, mzX3, tyX3_ok, by decide⟩
theorem nc_X4 : mNC 4 RX4 := ⟨TX4, 6, rfl, rfl, muX4, miX4, mzX4, tyX4_ok, by decide⟩
theorem nc_X5 : mNC 5 RX5 := ⟨TX5, 2, rfl, rfl, muX5, miX5, mzX5, tyX5_ok, by decide⟩
theorem nc_X6 : mNC 6 RX6 := ⟨TX6, 4, rfl, rfl, muX6, miX6, mzX6, tyX6_ok, by decide⟩
theorem g_V0i {M M' : mM} {d pc b idx ci : Nat} {L : mLs} {rest : List Value}  {hp hp1 : mHp} {out : mOut} {v : Int32} {y : MethodName}  (hd : decode M.2.1 pc = .ok (.invokevirtual idx, 3)) (hl : Cond.methodLink M.1 idx y ∈ mGW) (hy : mMethV y M' ci 0) (hsh : hp.1[b]? = some (.inl ci)) (h4 : 4 ≤ b) (hst : rest.length ≤ 4) (hc : mCall d y M' [.ref b] hp (some (.int v)) hp1) (k : mGo M (d + 1) (pc + 3, L, .int v :: rest, hp1) out) : mGo M (d + 1) (pc, L, .ref b :: rest, hp) out := g_callV (host := "") (As := [])  hd hl hy hsh h4 rfl hst hc k
theorem g_S0i {M M' : mM} {d pc idx : Nat} {L : mLs} {rest : List Value}  {hp hp1 : mHp} {out : mOut} {v : Int32} {y : MethodName}  (hd : decode M.2.1 pc = .ok (.invokestatic idx, 3)) (hl : Cond.methodLink M.1 idx y ∈ mGW) (hy : mMethS y M' 0) (hst : rest.length ≤ 4) (hc : mCall d y M' [] hp (some (.int v)) hp1) (k : mGo M (d + 1) (pc + 3, L, .int v :: rest, hp1) out) : mGo M (d + 1) (pc, L, rest, hp) out := g_callS (b := 0) (ci := 0) (host := "") (As := [])  hd hl hy rfl hst hc k
theorem g_SN0i {M M' : mM} {d pc idx : Nat} {L : mLs} {rest : List Value}  {hp hp1 : mHp} {out : mOut} {v : Int32} {y : MethodName} {host : String} (hd : decode M.2.1 pc = .ok (.invokestatic idx, 3)) (hl : Cond.methodLinkNest M.1 idx y host ∈ mNW) (hy : mMethS y M' 0) (hst : rest.length ≤ 4) (hc : mCall d y M' [] hp (some (.int v)) hp1) (k : mGo M (d + 1) (pc + 3, L, .int v :: rest, hp1) out) : mGo M (d + 1) (pc, L, rest, hp) out := g_callSN (b := 0) (ci := 0) (host := host) (As := [])  hd hl hy rfl hst hc k
theorem g_V0v {M M' : mM} {d pc b idx ci : Nat} {L : mLs} {rest : List Value}  {hp hp1 : mHp} {out : mOut}  {y : MethodName}  (hd : decode M.2.1 pc = .ok (.invokevirtual idx, 3)) (hl : Cond.methodLink M.1 idx y ∈ mGW) (hy : mMethV y M' ci 0) (hsh : hp.1[b]? = some (.inl ci)) (h4 : 4 ≤ b) (hst : rest.length ≤ 4) (hc : mCall d y M' [.ref b] hp (none) hp1) (k : mGo M (d + 1) (pc + 3, L, rest, hp1) out) : mGo M (d + 1) (pc, L, .ref b :: rest, hp) out := g_callV (host := "") (As := [])  hd hl hy hsh h4 rfl hst hc k
theorem g_S0v {M M' : mM} {d pc idx : Nat} {L : mLs} {rest : List Value}  {hp hp1 : mHp} {out : mOut}  {y : MethodName}  (hd : decode M.2.1 pc = .ok (.invokestatic idx, 3)) (hl : Cond.methodLink M.1 idx y ∈ mGW) (hy : mMethS y M' 0) (hst : rest.length ≤ 4) (hc : mCall d y M' [] hp (none) hp1) (k : mGo M (d + 1) (pc + 3, L, rest, hp1) out) : mGo M (d + 1) (pc, L, rest, hp) out := g_callS (b := 0) (ci := 0) (host := "") (As := [])  hd hl hy rfl hst hc k
theorem g_SN0v {M M' : mM} {d pc idx : Nat} {L : mLs} {rest : List Value}  {hp hp1 : mHp} {out : mOut}  {y : MethodName} {host : String} (hd : decode M.2.1 pc = .ok (.invokestatic idx, 3)) (hl : Cond.methodLinkNest M.1 idx y host ∈ mNW) (hy : mMethS y M' 0) (hst : rest.length ≤ 4) (hc : mCall d y M' [] hp (none) hp1) (k : mGo M (d + 1) (pc + 3, L, rest, hp1) out) : mGo M (d + 1) (pc, L, rest, hp) out := g_callSN (b := 0) (ci := 0) (host := host) (As := [])  hd hl hy rfl hst hc k
theorem g_V0l {M M' : mM} {d pc b idx ci : Nat} {L : mLs} {rest : List Value}  {hp hp1 : mHp} {out : mOut} {v : Int64} {y : MethodName}  (hd : decode M.2.1 pc = .ok (.invokevirtual idx, 3)) (hl : Cond.methodLink M.1 idx y ∈ mGW) (hy : mMethV y M' ci 0) (hsh : hp.1[b]? = some (.inl ci)) (h4 : 4 ≤ b) (hst : rest.length ≤ 4) (hc : mCall d y M' [.ref b] hp (some (.long v)) hp1) (k : mGo M (d + 1) (pc + 3, L, .long v :: rest, hp1) out) : mGo M (d + 1) (pc, L, .ref b :: rest, hp) out := g_callV (host := "") (As := [])  hd hl hy hsh h4 rfl hst hc k
theorem g_S0l {M M' : mM} {d pc idx : Nat} {L : mLs} {rest : List Value}  {hp hp1 : mHp} {out : mOut} {v : Int64} {y : MethodName}  (hd : decode M.2.1 pc = .ok (.invokestatic idx, 3)) (hl : Cond.methodLink M.1 idx y ∈ mGW) (hy : mMethS y M' 0) (hst : rest.length ≤ 4) (hc : mCall d y M' [] hp (some (.long v)) hp1) (k : mGo M (d + 1) (pc + 3, L, .long v :: rest, hp1) out) : mGo M (d + 1) (pc, L, rest, hp) out := g_callS (b := 0) (ci := 0) (host := "") (As := [])  hd hl hy rfl hst hc k
theorem g_SN0l {M M' : mM} {d pc idx : Nat} {L : mLs} {rest : List Value}  {hp hp1 : mHp} {out : mOut} {v : Int64} {y : MethodName} {host : String} (hd : decode M.2.1 pc = .ok (.invokestatic idx, 3)) (hl : Cond.methodLinkNest M.1 idx y host ∈ mNW) (hy : mMethS y M' 0) (hst : rest.length ≤ 4) (hc : mCall d y M' [] hp (some (.long v)) hp1) (k : mGo M (d + 1) (pc + 3, L, .long v :: rest, hp1) out) : mGo M (d + 1) (pc, L, rest, hp) out := g_callSN (b := 0) (ci := 0) (host := host) (As := [])  hd hl hy rfl hst hc k
theorem g_V1i {M M' : mM} {d pc b idx ci : Nat} {L : mLs} {rest : List Value} {a1 : Value} {hp hp1 : mHp} {out : mOut} {v : Int32} {y : MethodName}  (hd : decode M.2.1 pc = .ok (.invokevirtual idx, 3)) (hl : Cond.methodLink M.1 idx y ∈ mGW) (hy : mMethV y M' ci 1) (hsh : hp.1[b]? = some (.inl ci)) (h4 : 4 ≤ b) (hst : rest.length ≤ 4) (hc : mCall d y M' [.ref b, a1] hp (some (.int v)) hp1) (k : mGo M (d + 1) (pc + 3, L, .int v :: rest, hp1) out) : mGo M (d + 1) (pc, L, a1 :: .ref b :: rest, hp) out := g_callV (host := "") (As := [a1])  hd hl hy hsh h4 rfl hst hc k
theorem g_S1i {M M' : mM} {d pc idx : Nat} {L : mLs} {rest : List Value} {a1 : Value} {hp hp1 : mHp} {out : mOut} {v : Int32} {y : MethodName}  (hd : decode M.2.1 pc = .ok (.invokestatic idx, 3)) (hl : Cond.methodLink M.1 idx y ∈ mGW) (hy : mMethS y M' 1) (hst : rest.length ≤ 4) (hc : mCall d y M' [a1] hp (some (.int v)) hp1) (k : mGo M (d + 1) (pc + 3, L, .int v :: rest, hp1) out) : mGo M (d + 1) (pc, L, a1 :: rest, hp) out := g_callS (b := 0) (ci := 0) (host := "") (As := [a1])  hd hl hy rfl hst hc k
theorem g_SN1i {M M' : mM} {d pc idx : Nat} {L : mLs} {rest : List Value} {a1 : Value} {hp hp1 : mHp} {out : mOut} {v : Int32} {y : MethodName} {host : String} (hd : decode M.2.1 pc = .ok (.invokestatic idx, 3)) (hl : Cond.methodLinkNest M.1 idx y host ∈ mNW) (hy : mMethS y M' 1) (hst : rest.length ≤ 4) (hc : mCall d y M' [a1] hp (some (.int v)) hp1) (k : mGo M (d + 1) (pc + 3, L, .int v :: rest, hp1) out) : mGo M (d + 1) (pc, L, a1 :: rest, hp) out := g_callSN (b := 0) (ci := 0) (host := host) (As := [a1])  hd hl hy rfl hst hc k
theorem g_V1v {M M' : mM} {d pc b idx ci : Nat} {L : mLs} {rest : List Value} {a1 : Value} {hp hp1 : mHp} {out : mOut}  {y : MethodName}  (hd : decode M.2.1 pc = .ok (.invokevirtual idx, 3)) (hl : Cond.methodLink M.1 idx y ∈ mGW) (hy : mMethV y M' ci 1) (hsh : hp.1[b]? = some (.inl ci)) (h4 : 4 ≤ b) (hst : rest.length ≤ 4) (hc : mCall d y M' [.ref b, a1] hp (none) hp1) (k : mGo M (d + 1) (pc + 3, L, rest, hp1) out) : mGo M (d + 1) (pc, L, a1 :: .ref b :: rest, hp) out := g_callV (host := "") (As := [a1])  hd hl hy hsh h4 rfl hst hc k
theorem g_S1v {M M' : mM} {d pc idx : Nat} {L : mLs} {rest : List Value} {a1 : Value} {hp hp1 : mHp} {out : mOut}  {y : MethodName}  (hd : decode M.2.1 pc = .ok (.invokestatic idx, 3)) (hl : Cond.methodLink M.1 idx y ∈ mGW) (hy : mMethS y M' 1) (hst : rest.length ≤ 4) (hc : mCall d y M' [a1] hp (none) hp1) (k : mGo M (d + 1) (pc + 3, L, rest, hp1) out) : mGo M (d + 1) (pc, L, a1 :: rest, hp) out := g_callS (b := 0) (ci := 0) (host := "") (As := [a1])  hd hl hy rfl hst hc k
theorem g_SN1v {M M' : mM} {d pc idx : Nat} {L : mLs} {rest : List Value} {a1 : Value} {hp hp1 : mHp} {out : mOut}  {y : MethodName} {host : String} (hd : decode M.2.1 pc = .ok (.invokestatic idx, 3)) (hl : Cond.methodLinkNest M.1 idx y host ∈ mNW) (hy : mMethS y M' 1) (hst : rest.length ≤ 4) (hc : mCall d y M' [a1] hp (none) hp1) (k : mGo M (d + 1) (pc + 3, L, rest, hp1) out) : mGo M (d + 1) (pc, L, a1 :: rest, hp) out := g_callSN (b := 0) (ci := 0) (host := host) (As := [a1])  hd hl hy rfl hst hc k
theorem g_V1l {M M' : mM} {d pc b idx ci : Nat} {L : mLs} {rest : List Value} {a1 : Value} {hp hp1 : mHp} {out : mOut} {v : Int64} {y : MethodName}  (hd : decode M.2.1 pc = .ok (.invokevirtual idx, 3)) (hl : Cond.methodLink M.1 idx y ∈ mGW) (hy : mMethV y M' ci 1) (hsh : hp.1[b]? = some (.inl ci)) (h4 : 4 ≤ b) (hst : rest.length ≤ 4) (hc : mCall d y M' [.ref b, a1] hp (some (.long v)) hp1) (k : mGo M (d + 1) (pc + 3, L, .long v :: rest, hp1) out) : mGo M (d + 1) (pc, L, a1 :: .ref b :: rest, hp) out := g_callV (host := "") (As := [a1])  hd hl hy hsh h4 rfl hst hc k
theorem g_S1l {M M' : mM} {d pc idx : Nat} {L : mLs} {rest : List Value} {a1 : Value} {hp hp1 : mHp} {out : mOut} {v : Int64} {y : MethodName}  (hd : decode M.2.1 pc = .ok (.invokestatic idx, 3)) (hl : Cond.methodLink M.1 idx y ∈ mGW) (hy : mMethS y M' 1) (hst : rest.length ≤ 4) (hc : mCall d y M' [a1] hp (some (.long v)) hp1) (k : mGo M (d + 1) (pc + 3, L, .long v :: rest, hp1) out) : mGo M (d + 1) (pc, L, a1 :: rest, hp) out := g_callS (b := 0) (ci := 0) (host := "") (As := [a1])  hd hl hy rfl hst hc k
theorem g_SN1l {M M' : mM} {d pc idx : Nat} {L : mLs} {rest : List Value} {a1 : Value} {hp hp1 : mHp} {out : mOut} {v : Int64} {y : MethodName} {host : String} (hd : decode M.2.1 pc = .ok (.invokestatic idx, 3)) (hl : Cond.methodLinkNest M.1 idx y host ∈ mNW) (hy : mMethS y M' 1) (hst : rest.length ≤ 4) (hc : mCall d y M' [a1] hp (some (.long v)) hp1) (k : mGo M (d + 1) (pc + 3, L, .long v :: rest, hp1) out) : mGo M (d + 1) (pc, L, a1 :: rest, hp) out := g_callSN (b := 0) (ci := 0) (host := host) (As := [a1])  hd hl hy rfl hst hc k
theorem g_V2i {M M' : mM} {d pc b idx ci : Nat} {L : mLs} {rest : List Value} {a1 a2 : Value} {hp hp1 : mHp} {out : mOut} {v : Int32} {y : MethodName}  (hd : decode M.2.1 pc = .ok (.invokevirtual idx, 3)) (hl : Cond.methodLink M.1 idx y ∈ mGW) (hy : mMethV y M' ci 2) (hsh : hp.1[b]? = some (.inl ci)) (h4 : 4 ≤ b) (hst : rest.length ≤ 4) (hc : mCall d y M' [.ref b, a1, a2] hp (some (.int v)) hp1) (k : mGo M (d + 1) (pc + 3, L, .int v :: rest, hp1) out) : mGo M (d + 1) (pc, L, a2 :: a1 :: .ref b :: rest, hp) out := g_callV (host := "") (As := [a1, a2])  hd hl hy hsh h4 rfl hst hc k
theorem g_S2i {M M' : mM} {d pc idx : Nat} {L : mLs} {rest : List Value} {a1 a2 : Value} {hp hp1 : mHp} {out : mOut} {v : Int32} {y : MethodName}  (hd : decode M.2.1 pc = .ok (.invokestatic idx, 3)) (hl : Cond.methodLink M.1 idx y ∈ mGW) (hy : mMethS y M' 2) (hst : rest.length ≤ 4) (hc : mCall d y M' [a1, a2] hp (some (.int v)) hp1) (k : mGo M (d + 1) (pc + 3, L, .int v :: rest, hp1) out) : mGo M (d + 1) (pc, L, a2 :: a1 :: rest, hp) out := g_callS (b := 0) (ci := 0) (host := "") (As := [a1, a2])  hd hl hy rfl hst hc k
theorem g_SN2i {M M' : mM} {d pc idx : Nat} {L : mLs} {rest : List Value} {a1 a2 : Value} {hp hp1 : mHp} {out : mOut} {v : Int32} {y : MethodName} {host : String} (hd : decode M.2.1 pc = .ok (.invokestatic idx, 3)) (hl : Cond.methodLinkNest M.1 idx y host ∈ mNW) (hy : mMethS y M' 2) (hst : rest.length ≤ 4) (hc : mCall d y M' [a1, a2] hp (some (.int v)) hp1) (k : mGo M (d + 1) (pc + 3, L, .int v :: rest, hp1) out) : mGo M (d + 1) (pc, L, a2 :: a1 :: rest, hp) out := g_callSN (b := 0) (ci := 0) (host := host) (As := [a1, a2])  hd hl hy rfl hst hc k
theorem g_V2v {M M' : mM} {d pc b idx ci : Nat} {L : mLs} {rest : List Value} {a1 a2 : Value} {hp hp1 : mHp} {out : mOut}  {y : MethodName}  (hd : decode M.2.1 pc = .ok (.invokevirtual idx, 3)) (hl : Cond.methodLink M.1 idx y ∈ mGW) (hy : mMethV y M' ci 2) (hsh : hp.1[b]? = some (.inl ci)) (h4 : 4 ≤ b) (hst : rest.length ≤ 4) (hc : mCall d y M' [.ref b, a1, a2] hp (none) hp1) (k : mGo M (d + 1) (pc + 3, L, rest, hp1) out) : mGo M (d + 1) (pc, L, a2 :: a1 :: .ref b :: rest, hp) out := g_callV (host := "") (As := [a1, a2])  hd hl hy hsh h4 rfl hst hc k
theorem g_S2v {M M' : mM} {d pc idx : Nat} {L : mLs} {rest : List Value} {a1 a2 : Value} {hp hp1 : mHp} {out : mOut}  {y : MethodName}  (hd : decode M.2.1 pc = .ok (.invokestatic idx, 3)) (hl : Cond.methodLink M.1 idx y ∈ mGW) (hy : mMethS y M' 2) (hst : rest.length ≤ 4) (hc : mCall d y M' [a1, a2] hp (none) hp1) (k : mGo M (d + 1) (pc + 3, L, rest, hp1) out) : mGo M (d + 1) (pc, L, a2 :: a1 :: rest, hp) out := g_callS (b := 0) (ci := 0) (host := "") (As := [a1, a2])  hd hl hy rfl hst hc k
theorem g_SN2v {M M' : mM} {d pc idx : Nat} {L : mLs} {rest : List Value} {a1 a2 : Value} {hp hp1 : mHp} {out : mOut}  {y : MethodName} {host : String} (hd : decode M.2.1 pc = .ok (.invokestatic idx, 3)) (hl : Cond.methodLinkNest M.1 idx y host ∈ mNW) (hy : mMethS y M' 2) (hst : rest.length ≤ 4) (hc : mCall d y M' [a1, a2] hp (none) hp1) (k : mGo M (d + 1) (pc + 3, L, rest, hp1) out) : mGo M (d + 1) (pc, L, a2 :: a1 :: rest, hp) out := g_callSN (b := 0) (ci := 0) (host := host) (As := [a1, a2])  hd hl hy rfl hst hc k
theorem g_V2l {M M' : mM} {d pc b idx ci : Nat} {L : mLs} {rest : List Value} {a1 a2 : Value} {hp hp1 : mHp} {out : mOut} {v : Int64} {y : MethodName}  (hd : decode M.2.1 pc = .ok (.invokevirtual idx, 3)) (hl : Cond.methodLink M.1 idx y ∈ mGW) (hy : mMethV y M' ci 2) (hsh : hp.1[b]? = some (.inl ci)) (h4 : 4 ≤ b) (hst : rest.length ≤ 4) (hc : mCall d y M' [.ref b, a1, a2] hp (some (.long v)) hp1) (k : mGo M (d + 1) (pc + 3, L, .long v :: rest, hp1) out) : mGo M (d + 1) (pc, L, a2 :: a1 :: .ref b :: rest, hp) out := g_callV (host := "") (As := [a1, a2])  hd hl hy hsh h4 rfl hst hc k
theorem g_S2l {M M' : mM} {d pc idx : Nat} {L : mLs} {rest : List Value} {a1 a2 : Value} {hp hp1 : mHp} {out : mOut} {v : Int64} {y : MethodName}  (hd : decode M.2.1 pc = .ok (.invokestatic idx, 3)) (hl : Cond.methodLink M.1 idx y ∈ mGW) (hy : mMethS y M' 2) (hst : rest.length ≤ 4) (hc : mCall d y M' [a1, a2] hp (some (.long v)) hp1) (k : mGo M (d + 1) (pc + 3, L, .long v :: rest, hp1) out) : mGo M (d + 1) (pc, L, a2 :: a1 :: rest, hp) out := g_callS (b := 0) (ci := 0) (host := "") (As := [a1, a2])  hd hl hy rfl hst hc k
theorem g_SN2l {M M' : mM} {d pc idx : Nat} {L : mLs} {rest : List Value} {a1 a2 : Value} {hp hp1 : mHp} {out : mOut} {v : Int64} {y : MethodName} {host : String} (hd : decode M.2.1 pc = .ok (.invokestatic idx, 3)) (hl : Cond.methodLinkNest M.1 idx y host ∈ mNW) (hy : mMethS y M' 2) (hst : rest.length ≤ 4) (hc : mCall d y M' [a1, a2] hp (some (.long v)) hp1) (k : mGo M (d + 1) (pc + 3, L, .long v :: rest, hp1) out) : mGo M (d + 1) (pc, L, a2 :: a1 :: rest, hp) out := g_callSN (b := 0) (ci := 0) (host := host) (As := [a1, a2])  hd hl hy rfl hst hc k
theorem g_V3i {M M' : mM} {d pc b idx ci : Nat} {L : mLs} {rest : List Value} {a1 a2 a3 : Value} {hp hp1 : mHp} {out : mOut} {v : Int32} {y : MethodName}  (hd : decode M.2.1 pc = .ok (.invokevirtual idx, 3)) (hl : Cond.methodLink M.1 idx y ∈ mGW) (hy : mMethV y M' ci 3) (hsh : hp.1[b]? = some (.inl ci)) (h4 : 4 ≤ b) (hst : rest.length ≤ 4) (hc : mCall d y M' [.ref b, a1, a2, a3] hp (some (.int v)) hp1) (k : mGo M (d + 1) (pc + 3, L, .int v :: rest, hp1) out) : mGo M (d + 1) (pc, L, a3 :: a2 :: a1 :: .ref b :: rest, hp) out := g_callV (host := "") (As := [a1, a2, a3])  hd hl hy hsh h4 rfl hst hc k
theorem g_S3i {M M' : mM} {d pc idx : Nat} {L : mLs} {rest : List Value} {a1 a2 a3 : Value} {hp hp1 : mHp} {out : mOut} {v : Int32} {y : MethodName}  (hd : decode M.2.1 pc = .ok (.invokestatic idx, 3)) (hl : Cond.methodLink M.1 idx y ∈ mGW) (hy : mMethS y M' 3) (hst : rest.length ≤ 4) (hc : mCall d y M' [a1, a2, a3] hp (some (.int v)) hp1) (k : mGo M (d + 1) (pc + 3, L, .int v :: rest, hp1) out) : mGo M (d + 1) (pc, L, a3 :: a2 :: a1 :: rest, hp) out := g_callS (b := 0) (ci := 0) (host := "") (As := [a1, a2, a3])  hd hl hy rfl hst hc k
theorem g_SN3i {M M' : mM} {d pc idx : Nat} {L : mLs} {rest : List Value} {a1 a2 a3 : Value} {hp hp1 : mHp} {out : mOut} {v : Int32} {y : MethodName} {host : String} (hd : decode M.2.1 pc = .ok (.invokestatic idx, 3)) (hl : Cond.methodLinkNest M.1 idx y host ∈ mNW) (hy : mMethS y M' 3) (hst : rest.length ≤ 4) (hc : mCall d y M' [a1, a2, a3] hp (some (.int v)) hp1) (k : mGo M (d + 1) (pc + 3, L, .int v :: rest, hp1) out) : mGo M (d + 1) (pc, L, a3 :: a2 :: a1 :: rest, hp) out := g_callSN (b := 0) (ci := 0) (host := host) (As := [a1, a2, a3])  hd hl hy rfl hst hc k
theorem g_V3v {M M' : mM} {d pc b idx ci : Nat} {L : mLs} {rest : List Value} {a1 a2 a3 : Value} {hp hp1 : mHp} {out : mOut}  {y : MethodName}  (hd : decode M.2.1 pc = .ok (.invokevirtual idx, 3)) (hl : Cond.methodLink M.1 idx y ∈ mGW) (hy : mMethV y M' ci 3) (hsh : hp.1[b]? = some (.inl ci)) (h4 : 4 ≤ b) (hst : rest.length ≤ 4) (hc : mCall d y M' [.ref b, a1, a2, a3] hp (none) hp1) (k : mGo M (d + 1) (pc + 3, L, rest, hp1) out) : mGo M (d + 1) (pc, L, a3 :: a2 :: a1 :: .ref b :: rest, hp) out := g_callV (host := "") (As := [a1, a2, a3])  hd hl hy hsh h4 rfl hst hc k
theorem g_S3v {M M' : mM} {d pc idx : Nat} {L : mLs} {rest : List Value} {a1 a2 a3 : Value} {hp hp1 : mHp} {out : mOut}  {y : MethodName}  (hd : decode M.2.1 pc = .ok (.invokestatic idx, 3)) (hl : Cond.methodLink M.1 idx y ∈ mGW) (hy : mMethS y M' 3) (hst : rest.length ≤ 4) (hc : mCall d y M' [a1, a2, a3] hp (none) hp1) (k : mGo M (d + 1) (pc + 3, L, rest, hp1) out) : mGo M (d + 1) (pc, L, a3 :: a2 :: a1 :: rest, hp) out := g_callS (b := 0) (ci := 0) (host := "") (As := [a1, a2, a3])  hd hl hy rfl hst hc k
theorem g_SN3v {M M' : mM} {d pc idx : Nat} {L : mLs} {rest : List Value} {a1 a2 a3 : Value} {hp hp1 : mHp} {out : mOut}  {y : MethodName} {host : String} (hd : decode M.2.1 pc = .ok (.invokestatic idx, 3)) (hl : Cond.methodLinkNest M.1 idx y host ∈ mNW) (hy : mMethS y M' 3) (hst : rest.length ≤ 4) (hc : mCall d y M' [a1, a2, a3] hp (none) hp1) (k : mGo M (d + 1) (pc + 3, L, rest, hp1) out) : mGo M (d + 1) (pc, L, a3 :: a2 :: a1 :: rest, hp) out := g_callSN (b := 0) (ci := 0) (host := host) (As := [a1, a2, a3])  hd hl hy rfl hst hc k
theorem g_V3l {M M' : mM} {d pc b idx ci : Nat} {L : mLs} {rest : List Value} {a1 a2 a3 : Value} {hp hp1 : mHp} {out : mOut} {v : Int64} {y : MethodName}  (hd : decode M.2.1 pc = .ok (.invokevirtual idx, 3)) (hl : Cond.methodLink M.1 idx y ∈ mGW) (hy : mMethV y M' ci 3) (hsh : hp.1[b]? = some (.inl ci)) (h4 : 4 ≤ b) (hst : rest.length ≤ 4) (hc : mCall d y M' [.ref b, a1, a2, a3] hp (some (.long v)) hp1) (k : mGo M (d + 1) (pc + 3, L, .long v :: rest, hp1) out) : mGo M (d + 1) (pc, L, a3 :: a2 :: a1 :: .ref b :: rest, hp) out := g_callV (host := "") (As := [a1, a2, a3])  hd hl hy hsh h4 rfl hst hc k
theorem g_S3l {M M' : mM} {d pc idx : Nat} {L : mLs} {rest : List Value} {a1 a2 a3 : Value} {hp hp1 : mHp} {out : mOut} {v : Int64} {y : MethodName}  (hd : decode M.2.1 pc = .ok (.invokestatic idx, 3)) (hl : Cond.methodLink M.1 idx y ∈ mGW) (hy : mMethS y M' 3) (hst : rest.length ≤ 4) (hc : mCall d y M' [a1, a2, a3] hp (some (.long v)) hp1) (k : mGo M (d + 1) (pc + 3, L, .long v :: rest, hp1) out) : mGo M (d + 1) (pc, L, a3 :: a2 :: a1 :: rest, hp) out := g_callS (b := 0) (ci := 0) (host := "") (As := [a1, a2, a3])  hd hl hy rfl hst hc k
theorem g_SN3l {M M' : mM} {d pc idx : Nat} {L : mLs} {rest : List Value} {a1 a2 a3 : Value} {hp hp1 : mHp} {out : mOut} {v : Int64} {y : MethodName} {host : String} (hd : decode M.2.1 pc = .ok (.invokestatic idx, 3)) (hl : Cond.methodLinkNest M.1 idx y host ∈ mNW) (hy : mMethS y M' 3) (hst : rest.length ≤ 4) (hc : mCall d y M' [a1, a2, a3] hp (some (.long v)) hp1) (k : mGo M (d + 1) (pc + 3, L, .long v :: rest, hp1) out) : mGo M (d + 1) (pc, L, a3 :: a2 :: a1 :: rest, hp) out := g_callSN (b := 0) (ci := 0) (host := host) (As := [a1, a2, a3])  hd hl hy rfl hst hc k
theorem g_V4i {M M' : mM} {d pc b idx ci : Nat} {L : mLs} {rest : List Value} {a1 a2 a3 a4 : Value} {hp hp1 : mHp} {out : mOut} {v : Int32} {y : MethodName}  (hd : decode M.2.1 pc = .ok (.invokevirtual idx, 3)) (hl : Cond.methodLink M.1 idx y ∈ mGW) (hy : mMethV y M' ci 4) (hsh : hp.1[b]? = some (.inl ci)) (h4 : 4 ≤ b) (hst : rest.length ≤ 4) (hc : mCall d y M' [.ref b, a1, a2, a3, a4] hp (some (.int v)) hp1) (k : mGo M (d + 1) (pc + 3, L, .int v :: rest, hp1) out) : mGo M (d + 1) (pc, L, a4 :: a3 :: a2 :: a1 :: .ref b :: rest, hp) out := g_callV (host := "") (As := [a1, a2, a3, a4])  hd hl hy hsh h4 rfl hst hc k
theorem g_V4v {M M' : mM} {d pc b idx ci : Nat} {L : mLs} {rest : List Value} {a1 a2 a3 a4 : Value} {hp hp1 : mHp} {out : mOut}  {y : MethodName}  (hd : decode M.2.1 pc = .ok (.invokevirtual idx, 3)) (hl : Cond.methodLink M.1 idx y ∈ mGW) (hy : mMethV y M' ci 4) (hsh : hp.1[b]? = some (.inl ci)) (h4 : 4 ≤ b) (hst : rest.length ≤ 4) (hc : mCall d y M' [.ref b, a1, a2, a3, a4] hp (none) hp1) (k : mGo M (d + 1) (pc + 3, L, rest, hp1) out) : mGo M (d + 1) (pc, L, a4 :: a3 :: a2 :: a1 :: .ref b :: rest, hp) out := g_callV (host := "") (As := [a1, a2, a3, a4])  hd hl hy hsh h4 rfl hst hc k
theorem g_V4l {M M' : mM} {d pc b idx ci : Nat} {L : mLs} {rest : List Value} {a1 a2 a3 a4 : Value} {hp hp1 : mHp} {out : mOut} {v : Int64} {y : MethodName}  (hd : decode M.2.1 pc = .ok (.invokevirtual idx, 3)) (hl : Cond.methodLink M.1 idx y ∈ mGW) (hy : mMethV y M' ci 4) (hsh : hp.1[b]? = some (.inl ci)) (h4 : 4 ≤ b) (hst : rest.length ≤ 4) (hc : mCall d y M' [.ref b, a1, a2, a3, a4] hp (some (.long v)) hp1) (k : mGo M (d + 1) (pc + 3, L, .long v :: rest, hp1) out) : mGo M (d + 1) (pc, L, a4 :: a3 :: a2 :: a1 :: .ref b :: rest, hp) out := g_callV (host := "") (As := [a1, a2, a3, a4])  hd hl hy hsh h4 rfl hst hc k
theorem g_V5i {M M' : mM} {d pc b idx ci : Nat} {L : mLs} {rest : List Value} {a1 a2 a3 a4 a5 : Value} {hp hp1 : mHp} {out : mOut} {v : Int32} {y : MethodName}  (hd : decode M.2.1 pc = .ok (.invokevirtual idx, 3)) (hl : Cond.methodLink M.1 idx y ∈ mGW) (hy : mMethV y M' ci 5) (hsh : hp.1[b]? = some (.inl ci)) (h4 : 4 ≤ b) (hst : rest.length ≤ 4) (hc : mCall d y M' [.ref b, a1, a2, a3, a4, a5] hp (some (.int v)) hp1) (k : mGo M (d + 1) (pc + 3, L, .int v :: rest, hp1) out) : mGo M (d + 1) (pc, L, a5 :: a4 :: a3 :: a2 :: a1 :: .ref b :: rest, hp) out := g_callV (host := "") (As := [a1, a2, a3, a4, a5])  hd hl hy hsh h4 rfl hst hc k
theorem g_V5v {M M' : mM} {d pc b idx ci : Nat} {L : mLs} {rest : List Value} {a1 a2 a3 a4 a5 : Value} {hp hp1 : mHp} {out : mOut}  {y : MethodName}  (hd : decode M.2.1 pc = .ok (.invokevirtual idx, 3)) (hl : Cond.methodLink M.1 idx y ∈ mGW) (hy : mMethV y M' ci 5) (hsh : hp.1[b]? = some (.inl ci)) (h4 : 4 ≤ b) (hst : rest.length ≤ 4) (hc : mCall d y M' [.ref b, a1, a2, a3, a4, a5] hp (none) hp1) (k : mGo M (d + 1) (pc + 3, L, rest, hp1) out) : mGo M (d + 1) (pc, L, a5 :: a4 :: a3 :: a2 :: a1 :: .ref b :: rest, hp) out := g_callV (host := "") (As := [a1, a2, a3, a4, a5])  hd hl hy hsh h4 rfl hst hc k
theorem g_V5l {M M' : mM} {d pc b idx ci : Nat} {L : mLs} {rest : List Value} {a1 a2 a3 a4 a5 : Value} {hp hp1 : mHp} {out : mOut} {v : Int64} {y : MethodName}  (hd : decode M.2.1 pc = .ok (.invokevirtual idx, 3)) (hl : Cond.methodLink M.1 idx y ∈ mGW) (hy : mMethV y M' ci 5) (hsh : hp.1[b]? = some (.inl ci)) (h4 : 4 ≤ b) (hst : rest.length ≤ 4) (hc : mCall d y M' [.ref b, a1, a2, a3, a4, a5] hp (some (.long v)) hp1) (k : mGo M (d + 1) (pc + 3, L, .long v :: rest, hp1) out) : mGo M (d + 1) (pc, L, a5 :: a4 :: a3 :: a2 :: a1 :: .ref b :: rest, hp) out := g_callV (host := "") (As := [a1, a2, a3, a4, a5])  hd hl hy hsh h4 rfl hst hc k
theorem g_I0 {M : mM} {o2 : String} {c2 : ByteArray} {n2 : Nat} {d pc b idx : Nat} {L : mLs} {rest : List Value}  {hp hp1 : mHp} {out : mOut}  {y : MethodName}  (hd : decode M.2.1 pc = .ok (.invokespecial idx, 3)) (hl : Cond.methodLink M.1 idx y ∈ mGW) (hy : mMethI y (o2, c2, n2, (none : Option FieldType), true) 0) (hst : rest.length ≤ 4) (hc : mCall d y (o2, c2, n2, (none : Option FieldType), true) [.ref b] hp (none) hp1) (k : mGo M (d + 1) (pc + 3, L, rest, hp1) out) : mGo M (d + 1) (pc, L, .ref b :: rest, hp) out := g_callI (ci := 0) (host := "") (As := [])  hd hl hy rfl hst hc k
theorem g_IN0 {M : mM} {o2 : String} {c2 : ByteArray} {n2 : Nat} {d pc b idx : Nat} {L : mLs} {rest : List Value}  {hp hp1 : mHp} {out : mOut}  {y : MethodName} {host : String} (hd : decode M.2.1 pc = .ok (.invokespecial idx, 3)) (hl : Cond.methodLinkNest M.1 idx y host ∈ mNW) (hy : mMethI y (o2, c2, n2, (none : Option FieldType), true) 0) (hst : rest.length ≤ 4) (hc : mCall d y (o2, c2, n2, (none : Option FieldType), true) [.ref b] hp (none) hp1) (k : mGo M (d + 1) (pc + 3, L, rest, hp1) out) : mGo M (d + 1) (pc, L, .ref b :: rest, hp) out := g_callIN (ci := 0) (host := host) (As := [])  hd hl hy rfl hst hc k
end
section
/-! the heap behind the constructors: shapes and fixed references; the references of cell 22 (the kept rooms) move -/
def mSH (L : Nat) : List mShp := [.inr (3, L), .inr (3, 4), .inr (3, 4), .inr (3, 20), .inl 6, .inl 4, .inr (0, 4), .inl 0, .inr (0, 10), .inr (0, 10), .inr (0, 10), .inr (0, 10), .inr (0, 10), .inr (0, 10), .inl 2, .inr (0, 12), .inr (0, 12), .inr (0, 3), .inr (0, 50), .inr (0, 3), .inr (0, 3), .inl 1, .inr (2, 7), .inl 4, .inr (0, 4), .inl 0, .inr (0, 10), .inr (0, 10), .inr (0, 10), .inr (0, 10), .inr (0, 10), .inr (0, 10), .inl 2, .inr (0, 12), .inr (0, 12), .inr (0, 3), .inr (0, 50), .inr (0, 3), .inr (0, 3), .inl 4, .inr (0, 4), .inl 0, .inr (0, 10), .inr (0, 10), .inr (0, 10), .inr (0, 10), .inr (0, 10), .inr (0, 10), .inl 2, .inr (0, 12), .inr (0, 12), .inr (0, 3), .inr (0, 50), .inr (0, 3), .inr (0, 3), .inl 4, .inr (0, 4), .inl 0, .inr (0, 10), .inr (0, 10), .inr (0, 10), .inr (0, 10), .inr (0, 10), .inr (0, 10), .inl 2, .inr (0, 12), .inr (0, 12), .inr (0, 3), .inr (0, 50), .inr (0, 3), .inr (0, 3), .inl 4, .inr (0, 4), .inl 0, .inr (0, 10), .inr (0, 10), .inr (0, 10), .inr (0, 10), .inr (0, 10), .inr (0, 10), .inl 2, .inr (0, 12), .inr (0, 12), .inr (0, 3), .inr (0, 50), .inr (0, 3), .inr (0, 3), .inl 4, .inr (0, 4), .inl 0, .inr (0, 10), .inr (0, 10), .inr (0, 10), .inr (0, 10), .inr (0, 10), .inr (0, 10), .inl 2, .inr (0, 12), .inr (0, 12), .inr (0, 3), .inr (0, 50), .inr (0, 3), .inr (0, 3), .inl 4, .inr (0, 4), .inl 0, .inr (0, 10), .inr (0, 10), .inr (0, 10), .inr (0, 10), .inr (0, 10), .inr (0, 10), .inl 2, .inr (0, 12), .inr (0, 12), .inr (0, 3), .inr (0, 50), .inr (0, 3), .inr (0, 3), .inl 4, .inr (0, 4), .inl 0, .inr (0, 10), .inr (0, 10), .inr (0, 10), .inr (0, 10), .inr (0, 10), .inr (0, 10), .inl 2, .inr (0, 12), .inr (0, 12), .inr (0, 3), .inr (0, 50), .inr (0, 3), .inr (0, 3), .inl 5, .inr (2, 2), .inl 4, .inr (0, 4), .inl 0, .inr (0, 10), .inr (0, 10), .inr (0, 10), .inr (0, 10), .inr (0, 10), .inr (0, 10), .inl 2, .inr (0, 12), .inr (0, 12), .inr (0, 3), .inr (0, 50), .inr (0, 3), .inr (0, 3), .inl 4, .inr (0, 4), .inl 0, .inr (0, 10), .inr (0, 10), .inr (0, 10), .inr (0, 10), .inr (0, 10), .inr (0, 10), .inl 2, .inr (0, 12), .inr (0, 12), .inr (0, 3), .inr (0, 50), .inr (0, 3), .inr (0, 3), .inr (1, 2), .inl 3, .inr (0, 80)]
def mRL : List (List Nat) := [[], [], [], [], [5, 21, 135, 170], [0, 6, 7, 14, 19, 20], [], [0, 8, 9, 10, 11, 12, 13], [], [], [], [], [], [], [15, 16, 17, 18, 0], [], [], [], [], [], [], [22, 0], [], [0, 24, 25, 32, 37, 38], [], [0, 26, 27, 28, 29, 30, 31], [], [], [], [], [], [], [33, 34, 35, 36, 0], [], [], [], [], [], [], [0, 40, 41, 48, 53, 54], [], [0, 42, 43, 44, 45, 46, 47], [], [], [], [], [], [], [49, 50, 51, 52, 0], [], [], [], [], [], [], [0, 56, 57, 64, 69, 70], [], [0, 58, 59, 60, 61, 62, 63], [], [], [], [], [], [], [65, 66, 67, 68, 0], [], [], [], [], [], [], [0, 72, 73, 80, 85, 86], [], [0, 74, 75, 76, 77, 78, 79], [], [], [], [], [], [], [81, 82, 83, 84, 0], [], [], [], [], [], [], [0, 88, 89, 96, 101, 102], [], [0, 90, 91, 92, 93, 94, 95], [], [], [], [], [], [], [97, 98, 99, 100, 0], [], [], [], [], [], [], [0, 104, 105, 112, 117, 118], [], [0, 106, 107, 108, 109, 110, 111], [], [], [], [], [], [], [113, 114, 115, 116, 0], [], [], [], [], [], [], [0, 120, 121, 128, 133, 134], [], [0, 122, 123, 124, 125, 126, 127], [], [], [], [], [], [], [129, 130, 131, 132, 0], [], [], [], [], [], [], [136, 169], [137, 153], [0, 138, 139, 146, 151, 152], [], [0, 140, 141, 142, 143, 144, 145], [], [], [], [], [], [], [147, 148, 149, 150, 0], [], [], [], [], [], [], [0, 154, 155, 162, 167, 168], [], [0, 156, 157, 158, 159, 160, 161], [], [], [], [], [], [], [163, 164, 165, 166, 0], [], [], [], [], [], [], [], [171, 0], []]
def mR0 (c k : Nat) : Option Nat := match (mRL.getD c []).getD k 0 with
  | 0 => none
  | r + 1 => some (r + 1)
def mRF (g : Nat → Option Nat) (c k : Nat) : Option Nat := if c = 22 then g k else mR0 c k
abbrev mHX (L : Nat) (F : Nat → Nat → Int32) (g : Nat → Option Nat) : mHp := (mSH L, F, mRF g)
def pe (F : Nat → Nat → Int32) (c k : Nat) (v : Int32) : Nat → Nat → Int32 := va_up F c (va_up (F c) k v)
def cpB (F : Nat → Nat → Int32) (a b sx dx n : Nat) : Nat → Nat → Int32 := va_up F a (va_cpy (F b) (F a) sx dx n)
theorem pe_at (F : Nat → Nat → Int32) (c k : Nat) (v : Int32) (a b : Nat) : pe F c k v a b = if a = c ∧ b = k then v else F a b := by
  unfold pe va_up
  by_cases h : a = c
  · subst h
    by_cases h2 : b = k
    · simp [h2]
    · simp [h2]
  · simp [h]
theorem pe_eq (F : Nat → Nat → Int32) (c k : Nat) (v : Int32) : pe F c k v c k = v := by rw [pe_at, if_pos ⟨rfl, rfl⟩]
theorem pe_row {F : Nat → Nat → Int32} {c k : Nat} {v : Int32} {a : Nat} (h : a ≠ c) : pe F c k v a = F a := va_up_ne _ _ h
theorem pe_ne {F : Nat → Nat → Int32} {c k : Nat} {v : Int32} {a b : Nat} (h : ¬ (a = c ∧ b = k)) : pe F c k v a b = F a b := by rw [pe_at, if_neg h]
theorem pe_self (F : Nat → Nat → Int32) (c k : Nat) (v : Int32) : pe F c k v c = va_up (F c) k v := va_up_self _ _ _
theorem cpB_at (F : Nat → Nat → Int32) (a b sx dx n c k : Nat) : cpB F a b sx dx n c k = if c = a ∧ dx ≤ k ∧ k < dx + n then F b (sx + (k - dx)) else F c k := by
  unfold cpB va_up va_cpy
  by_cases h : c = a
  · subst h
    simp
  · simp [h]
theorem cpB_row {F : Nat → Nat → Int32} {a b sx dx n c : Nat} (h : c ≠ a) : cpB F a b sx dx n c = F c := va_up_ne _ _ h
def mbi (p : Prop) [Decidable p] : Int32 := if p then 1 else 0
theorem mbi_t {p : Prop} [Decidable p] (h : p) : mbi p = 1 := if_pos h
theorem mbi_f {p : Prop} [Decidable p] (h : ¬ p) : mbi p = 0 := if_neg h
theorem mbi_0 {p : Prop} [Decidable p] : mbi p = 0 ↔ ¬ p := by
  unfold mbi
  by_cases h : p
  · simp [h]
  · simp [h]
theorem mbi_n0 {p : Prop} [Decidable p] : ¬ mbi p = 0 ↔ p := by rw [mbi_0]; exact Decidable.not_not
theorem mbi_ok {p : Prop} [Decidable p] : narrow .boolean (.int (mbi p)) = .int (mbi p) := by
  unfold mbi
  split <;> rfl
theorem m_ret {a b : Int32} {hp : mHp} (h : a = b) : ((some (Value.int a), hp) : mOut) = (some (Value.int b), hp) := by rw [h]
theorem m_ret2 {a b : Int32} {hp hp1 : mHp} (h : a = b) (h2 : hp = hp1) : ((some (Value.int a), hp) : mOut) = (some (Value.int b), hp1) := by rw [h, h2]
theorem m_ret0 {hp hp1 : mHp} (h2 : hp = hp1) : ((none, hp) : mOut) = (none, hp1) := by rw [h2]
theorem m_hx {L : Nat} {F F1 : Nat → Nat → Int32} {g : Nat → Option Nat} (h : F = F1) : mHX L F g = mHX L F1 g := by rw [h]
theorem i_lt {x y : Int32} : x < y ↔ x.toInt < y.toInt := Int32.lt_iff_toInt_lt
theorem i_le {x y : Int32} : x ≤ y ↔ x.toInt ≤ y.toInt := Int32.le_iff_toInt_le
theorem i_eq {x y : Int32} : x = y ↔ x.toInt = y.toInt := Int32.toInt_inj.symm
theorem i_0 : (0 : Int32).toInt = 0 := by decide
theorem i_1 : (1 : Int32).toInt = 1 := by decide
theorem i_n {n : Nat} (h : n < 2 ^ 31) : (nI n).toInt = (n : Int) := nI_toInt h
theorem g_ialdN {M : mM} {d pc : Nat} {L : mLs} {st : List Value} {sh : List mShp} {F : Nat → Nat → Int32} {R0 : Nat → Nat → Option Nat} {out : mOut} {j n : Nat} {i : Int32} (gx : Nat) (hd : decode M.2.1 pc = .ok (.iaload, 1)) (hsh : sh[j]? = some (.inr (0, n))) (h4 : 4 ≤ j) (hi : i = nI gx) (hg : gx < n) (hn : n < 2 ^ 31) (k : mGo M d (pc + 1, L, .int (F j gx) :: st, (sh, F, R0)) out) : mGo M d (pc, L, .int i :: .ref j :: st, (sh, F, R0)) out := by
  subst hi
  exact g_iald hd hsh h4 (vp_in_nI hg hn) (by rw [nI_clamp (Nat.lt_trans hg hn)]; exact k)
theorem g_zaldN {M : mM} {d pc : Nat} {L : mLs} {st : List Value} {sh : List mShp} {F : Nat → Nat → Int32} {R0 : Nat → Nat → Option Nat} {out : mOut} {j n : Nat} {i : Int32} (gx : Nat) (hd : decode M.2.1 pc = .ok (.baload, 1)) (hsh : sh[j]? = some (.inr (1, n))) (h4 : 4 ≤ j) (hi : i = nI gx) (hg : gx < n) (hn : n < 2 ^ 31) (k : mGo M d (pc + 1, L, .int (F j gx) :: st, (sh, F, R0)) out) : mGo M d (pc, L, .int i :: .ref j :: st, (sh, F, R0)) out := by
  subst hi
  exact g_zald hd hsh h4 (vp_in_nI hg hn) (by rw [nI_clamp (Nat.lt_trans hg hn)]; exact k)
theorem g_saldN {M : mM} {d pc : Nat} {L : mLs} {st : List Value} {sh : List mShp} {F : Nat → Nat → Int32} {R0 : Nat → Nat → Option Nat} {out : mOut} {j n : Nat} {i : Int32} (gx : Nat) (hd : decode M.2.1 pc = .ok (.iaload, 1)) (hsh : sh[j]? = some (.inr (3, n))) (h4 : j < 4) (hi : i = nI gx) (hg : gx < n) (hn : n < 2 ^ 31) (k : mGo M d (pc + 1, L, .int (F j gx) :: st, (sh, F, R0)) out) : mGo M d (pc, L, .int i :: .ref j :: st, (sh, F, R0)) out := by
  subst hi
  exact g_sald hd hsh h4 (vp_in_nI hg hn) (by rw [nI_clamp (Nat.lt_trans hg hn)]; exact k)
theorem g_aaldN {M : mM} {d pc : Nat} {L : mLs} {st : List Value} {sh : List mShp} {F : Nat → Nat → Int32} {R0 : Nat → Nat → Option Nat} {out : mOut} {j n : Nat} {i : Int32} {r : Nat} (gx : Nat) (hd : decode M.2.1 pc = .ok (.aaload, 1)) (hsh : sh[j]? = some (.inr (2, n))) (h4 : 4 ≤ j) (hi : i = nI gx) (hg : gx < n) (hn : n < 2 ^ 31) (hr : R0 j gx = some r) (k : mGo M d (pc + 1, L, .ref r :: st, (sh, F, R0)) out) : mGo M d (pc, L, .int i :: .ref j :: st, (sh, F, R0)) out := by
  subst hi
  exact g_aald hd hsh h4 (vp_in_nI hg hn) (by rw [nI_clamp (Nat.lt_trans hg hn)]; exact hr) k
theorem g_iastN {M : mM} {d pc : Nat} {L : mLs} {st : List Value} {sh : List mShp} {F : Nat → Nat → Int32} {R0 : Nat → Nat → Option Nat} {out : mOut} {j n : Nat} {i : Int32} {x : Int32} (gx : Nat) (hd : decode M.2.1 pc = .ok (.iastore, 1)) (hsh : sh[j]? = some (.inr (0, n))) (h4 : 4 ≤ j) (hi : i = nI gx) (hg : gx < n) (hn : n < 2 ^ 31) (k : mGo M d (pc + 1, L, st, (sh, pe F j gx x, R0)) out) : mGo M d (pc, L, .int x :: .int i :: .ref j :: st, (sh, F, R0)) out := by
  subst hi
  exact g_iast hd hsh h4 (vp_in_nI hg hn) (by rw [nI_clamp (Nat.lt_trans hg hn)]; exact k)
theorem g_zastN {M : mM} {d pc : Nat} {L : mLs} {st : List Value} {sh : List mShp} {F : Nat → Nat → Int32} {R0 : Nat → Nat → Option Nat} {out : mOut} {j n : Nat} {i : Int32} {x : Int32} (gx : Nat) (hd : decode M.2.1 pc = .ok (.bastore, 1)) (hsh : sh[j]? = some (.inr (1, n))) (h4 : 4 ≤ j) (hi : i = nI gx) (hg : gx < n) (hn : n < 2 ^ 31) (h01 : narrow .boolean (.int x) = .int x) (k : mGo M d (pc + 1, L, st, (sh, pe F j gx x, R0)) out) : mGo M d (pc, L, .int x :: .int i :: .ref j :: st, (sh, F, R0)) out := by
  subst hi
  exact g_zast hd hsh h4 (vp_in_nI hg hn) h01 (by rw [nI_clamp (Nat.lt_trans hg hn)]; exact k)
theorem g_aastN {M : mM} {d pc : Nat} {L : mLs} {st : List Value} {sh : List mShp} {F : Nat → Nat → Int32} {R0 : Nat → Nat → Option Nat} {out : mOut} {j n : Nat} {i : Int32} {v ci : Nat} (gx : Nat) (hd : decode M.2.1 pc = .ok (.aastore, 1)) (hsh : sh[j]? = some (.inr (2, n))) (h4 : 4 ≤ j) (hi : i = nI gx) (hg : gx < n) (hn : n < 2 ^ 31) (hv : sh[v]? = some (.inl ci)) (hv4 : 4 ≤ v) (hci : mcl[ci]?.map (fun q => q.1) = some RX4) (k : mGo M d (pc + 1, L, st, (sh, F, va_up R0 j (va_up (R0 j) gx (some v)))) out) : mGo M d (pc, L, .ref v :: .int i :: .ref j :: st, (sh, F, R0)) out := by
  subst hi
  exact g_aast hd hsh h4 (vp_in_nI hg hn) hv hv4 hci (by rw [nI_clamp (Nat.lt_trans hg hn)]; exact k)
theorem g_lconstv {M : mM} {d pc : Nat} {L : mLs} {st : List Value} {hp : mHp} {out : mOut} {n : Fin 2} {v : Int64} (hd : decode M.2.1 pc = .ok (.lconst n, 1)) (hv : Int64.ofNat (n : Nat) = v) (k : mGo M d (pc + 1, L, .long v :: st, hp) out) : mGo M d (pc, L, st, hp) out := by
  subst hv
  exact g_lconst hd k
theorem g_pI {M : mM} {d pc : Nat} {L : mLs} {st : List Value} {sh : List mShp} {F : Nat → Nat → Int32} {R0 : Nat → Nat → Option Nat} {out : mOut} {idx ci f j : Nat} {x : Int32} (hd : decode M.2.1 pc = .ok (.putfield idx, 3)) (hf : mFL M.1 idx ci f) (hfin : mfin ci f = false ∨ (mfin ci f = true ∧ M.2.2.2.2 = true ∧ mdc ci = M.1)) (hsh : sh[j]? = some (.inl ci)) (h4 : 4 ≤ j) (ht : mty ci f = .int)
    (k : mGo M d (pc + 3, L, st, (sh, pe F j f x, R0)) out) : mGo M d (pc, L, .int x :: .ref j :: st, (sh, F, R0)) out := g_putI hd hf hfin hsh h4 ht k
theorem g_pZ {M : mM} {d pc : Nat} {L : mLs} {st : List Value} {sh : List mShp} {F : Nat → Nat → Int32} {R0 : Nat → Nat → Option Nat} {out : mOut} {idx ci f j : Nat} {x : Int32} (hd : decode M.2.1 pc = .ok (.putfield idx, 3)) (hf : mFL M.1 idx ci f) (hfin : mfin ci f = false ∨ (mfin ci f = true ∧ M.2.2.2.2 = true ∧ mdc ci = M.1)) (hsh : sh[j]? = some (.inl ci)) (h4 : 4 ≤ j) (ht : mty ci f = .boolean) (h01 : x = 0 ∨ x = 1)
    (k : mGo M d (pc + 3, L, st, (sh, pe F j f x, R0)) out) : mGo M d (pc, L, .int x :: .ref j :: st, (sh, F, R0)) out := g_putZ hd hf hfin hsh h4 ht h01 k
theorem g_gI {M : mM} {d pc : Nat} {L : mLs} {st : List Value} {sh : List mShp} {F : Nat → Nat → Int32} {R0 : Nat → Nat → Option Nat} {out : mOut} {idx ci f j : Nat} (hd : decode M.2.1 pc = .ok (.getfield idx, 3)) (hf : mFL M.1 idx ci f) (ht : ∀ i r, mfv (mty ci f) i r = .int i) (hsh : sh[j]? = some (.inl ci)) (h4 : 4 ≤ j) (k : mGo M d (pc + 3, L, .int (F j f) :: st, (sh, F, R0)) out) : mGo M d (pc, L, .ref j :: st, (sh, F, R0)) out := g_getI hd hf ht hsh h4 k
theorem g_gR {M : mM} {d pc : Nat} {L : mLs} {st : List Value} {sh : List mShp} {F : Nat → Nat → Int32} {R0 : Nat → Nat → Option Nat} {out : mOut} {idx ci f j r : Nat} (hd : decode M.2.1 pc = .ok (.getfield idx, 3)) (hf : mFL M.1 idx ci f) (ht : ∀ i r, mfv (mty ci f) i r = va_rf r) (hsh : sh[j]? = some (.inl ci)) (h4 : 4 ≤ j) (hr : R0 j f = some r) (k : mGo M d (pc + 3, L, .ref r :: st, (sh, F, R0)) out) : mGo M d (pc, L, .ref j :: st, (sh, F, R0)) out := g_getR hd hf ht hsh h4 hr k
theorem g_iincN {M : mM} {d pc : Nat} {L : mLs} {st : List Value} {hp : mHp} {out : mOut} {n j : Nat} (hd : decode M.2.1 pc = .ok (.iinc n 1, 3)) (hl : L[n]? = some (some (.int (nI j)))) (hi : n < M.2.2.1) (hb1 : mSb L n = true) (k : mGo M d (pc + 3, L.set n (some (.int (nI (j + 1)))), st, hp) out) : mGo M d (pc, L, st, hp) out :=
  g_iinc hd hl hi hb1 (by rw [show nI j + Int32.ofInt 1 = nI (j + 1) from nI_1 j]; exact k)
theorem g_iincv {M : mM} {d pc : Nat} {L : mLs} {st : List Value} {hp : mHp} {out : mOut} {n : Nat} {z : Int} {x v : Int32} (hd : decode M.2.1 pc = .ok (.iinc n z, 3)) (hl : L[n]? = some (some (.int x))) (hv : x + Int32.ofInt z = v) (hi : n < M.2.2.1) (hb1 : mSb L n = true) (k : mGo M d (pc + 3, L.set n (some (.int v)), st, hp) out) : mGo M d (pc, L, st, hp) out := by
  subst hv
  exact g_iinc hd hl hi hb1 k
theorem g_iincx {M : mM} {d pc : Nat} {L : mLs} {st : List Value} {hp : mHp} {out : mOut} {n : Nat} {z : Int} {x w : Int32} (hd : decode M.2.1 pc = .ok (.iinc n z, 3)) (hl : L[n]? = some (some (.int x))) (hw : Int32.ofInt z = w) (hi : n < M.2.2.1) (hb1 : mSb L n = true) (k : mGo M d (pc + 3, L.set n (some (.int (x + w))), st, hp) out) : mGo M d (pc, L, st, hp) out := by
  subst hw
  exact g_iinc hd hl hi hb1 k
theorem g_topi {M : mM} {d pc : Nat} {L : mLs} {st : List Value} {hp : mHp} {out : mOut} {x : Int32} (k : ∀ y : Int32, y = x → mGo M d (pc, L, .int y :: st, hp) out) : mGo M d (pc, L, .int x :: st, hp) out := k x rfl
theorem g_copyN {M : mM} {d pc : Nat} {L : mLs} {st : List Value} {sh : List mShp} {F : Nat → Nat → Int32} {R0 : Nat → Nat → Option Nat} {out : mOut} {idx a b n0 n1 : Nat} {sp dp n : Int32} (sx dx nx : Nat) (hd : decode M.2.1 pc = .ok (.invokestatic idx, 3)) (hw : Cond.methodLink M.1 idx arraycopyName ∈ mGW) (ha : sh[a]? = some (.inr (0, n0))) (hb0 : sh[b]? = some (.inr (0, n1))) (ha4 : 4 ≤ a) (hb4 : 4 ≤ b)
    (h1 : sp = nI sx) (h2 : dp = nI dx) (h3 : n = nI nx) (h4 : sx + nx ≤ n0) (h5 : dx + nx ≤ n1) (h6 : sx + nx < 2 ^ 31) (h7 : dx < 2 ^ 31) (hst : st.length ≤ 4) (k : mGo M (d + 1) (pc + 3, L, st, (sh, cpB F b a sx dx nx, R0)) out) : mGo M (d + 1) (pc, L, .int n :: .int dp :: .ref b :: .int sp :: .ref a :: st, (sh, F, R0)) out := by
  subst h1
  subst h2
  subst h3
  have e1 : (nI sx).toNatClampNeg = sx := nI_clamp (by omega)
  have e2 : (nI dx).toNatClampNeg = dx := nI_clamp h7
  have e3 : (nI nx).toNatClampNeg = nx := nI_clamp (by omega)
  exact g_copy hd hw wa_nat wa_stat wa_ini ha hb0 ha4 hb4 (nI_pos (by omega)) (nI_pos h7) (nI_pos (by omega)) (by rw [e1, e3]; exact h4) (by rw [e2, e3]; exact h5) hst (by rw [e1, e2, e3]; exact k)
def mfold {α : Type} (f : α → Nat → α) (a : α) : Nat → α
  | 0 => a
  | n + 1 => f (mfold f a n) n
def sSet (seat : Nat → Int32) (t : Int32) (n : Nat) : Int32 := mfold (fun a k => if seat k = t then a ||| ((1 : Int32) <<< (nI k &&& 31)) else a) 0 n
theorem mfold_succ {α : Type} (f : α → Nat → α) (a : α) (n : Nat) : mfold f a (n + 1) = f (mfold f a n) n := rfl
def sHostF (seat rank : Nat → Int32) (t : Int32) (a : Int32 × Int32) (k : Nat) : Int32 × Int32 := if seat k = t then (if rank k ≤ a.2 then a else (nI k, rank k)) else a
def sHost (seat rank : Nat → Int32) (t : Int32) (n : Nat) : Int32 := (mfold (sHostF seat rank t) (-6, 0) n).1
def sCompF (seat rank : Nat → Int32) (t ab : Int32) (a : Int32 × Int32 × Int32) (k : Nat) : Int32 × Int32 × Int32 := if seat k = t then (if nI k = ab then a else (a.1 + 1, (if a.1 = 0 then rank k else a.2.1), (if a.2.2 = 0 then 0 else if rank k = (if a.1 = 0 then rank k else a.2.1) then 1 else 0))) else a
def sComp (seat rank : Nat → Int32) (t ab : Int32) (n : Nat) : Int32 := if 3 ≤ (mfold (sCompF seat rank t ab) (0, 0, 1) n).1 then (if (mfold (sCompF seat rank t ab) (0, 0, 1) n).2.2 = 0 then 4 else 3) else (mfold (sCompF seat rank t ab) (0, 0, 1) n).1
def sLendF (seat rank cough : Nat → Int32) (x t : Int32) (a : Int32 × Int32) (k : Nat) : Int32 × Int32 := if nI k = x then a else if seat k = t then (if cough k ≤ 0 then a else if a.2 ≤ rank k then a else (nI k, rank k)) else a
def sLend (seat rank cough : Nat → Int32) (x t : Int32) (n : Nat) : Int32 := (mfold (sLendF seat rank cough x t) (-6, 10) n).1
def sSum (a : Nat → Int32) (n : Nat) : Int32 := mfold (fun b k => b + a k) 0 n
def sSumHere (seat cough : Nat → Int32) (n : Nat) : Int32 := mfold (fun b k => b + (if seat k = (-6) then 0 else cough k)) 0 n
end
section
set_option maxHeartbeats 4000000 in
set_option maxRecDepth 100000 in
theorem c_isKnown {L : Nat} {F : Nat → Nat → Int32} {g : Nat → Option Nat} (d : Nat) (x : Int32) : mCall (d) yX0_isKnown MX0_isKnown [.ref 7, .int x] (mHX L F g) (some (.int (mbi (0 ≤ x ∧ x < F 7 0)))) (mHX L F g) := by
  refine mCall_of sX0_isKnown.1 (Nat.le_of_ble_eq_true rfl) ⟨_, rfl, mbi_ok⟩ ?_
  show mGo _ _ (0, [some (.ref 7), some (.int x)], [], _) _
  refine g_iload_n dX0_isKnown_0 rfl ?_
  refine g_if_lt (tgt := 16) dX0_isKnown_1 (by decide) (fun c1 => ?_) (fun c1 => ?_)
  · skip
    refine g_iconstv (v := 0) dX0_isKnown_16 rfl ?_
    exact g_iret dX0_isKnown_17 (m_ret (by unfold mbi; split <;> first | rfl | (exfalso; simp only [i_eq, i_lt, i_le, i_0] at *; omega)))
  · skip
    refine g_iload_n dX0_isKnown_4 rfl ?_
    refine g_aload_n dX0_isKnown_5 rfl ?_
    refine g_gI dX0_isKnown_6 fl_X0_9 (fun _ _ => rfl) rfl (by decide) ?_
    refine g_icmp_ge (tgt := 16) dX0_isKnown_9 (by decide) (fun c9 => ?_) (fun c9 => ?_)
    · skip
      refine g_iconstv (v := 0) dX0_isKnown_16 rfl ?_
      exact g_iret dX0_isKnown_17 (m_ret (by unfold mbi; split <;> first | rfl | (exfalso; simp only [i_eq, i_lt, i_le, i_0] at *; omega)))
    · skip
      refine g_iconstv (v := 1) dX0_isKnown_12 rfl ?_
      refine g_goto (tgt := 17) dX0_isKnown_13 (by decide) ?_
      exact g_iret dX0_isKnown_17 (m_ret (by unfold mbi; split <;> first | rfl | (exfalso; simp only [i_eq, i_lt, i_le, i_0] at *; omega)))
set_option maxHeartbeats 4000000 in
set_option maxRecDepth 100000 in
theorem lp_setAt {L : Nat} {F : Nat → Nat → Int32} {g : Nat → Option Nat} (d : Nat) (n : Nat) (hn : F 7 0 = nI n) (h10 : n ≤ 10) (t : Int32) : ∀ (m k : Nat) (a : Int32), k + m = n → a = sSet (F 8) t k → mGo MX0_setAt (d) (4, [some (.ref 7), some (.int t), some (.int a), some (.int (nI k))], [], mHX L F g) (some (.int (sSet (F 8) t n)), mHX L F g) := by
  intro m
  induction m with
  | zero =>
    intro k a hk ea
    obtain rfl : k = n := by omega
    refine g_iload_n dX0_setAt_4 rfl ?_
    refine g_aload_n dX0_setAt_5 rfl ?_
    refine g_gI dX0_setAt_6 fl_X0_9 (fun _ _ => rfl) rfl (by decide) ?_
    refine g_icmp_ge (tgt := 34) dX0_setAt_9 (by decide) (fun c9 => ?_) (fun c9 => absurd (by rw [hn]; exact nI_le (by omega) (by omega)) c9)
    refine g_iload_n dX0_setAt_34 rfl ?_
    exact g_iret dX0_setAt_35 (m_ret ea.symm)
  | succ m ih =>
    intro k a hk ea
    refine g_iload_n dX0_setAt_4 rfl ?_
    refine g_aload_n dX0_setAt_5 rfl ?_
    refine g_gI dX0_setAt_6 fl_X0_9 (fun _ _ => rfl) rfl (by decide) ?_
    refine g_icmp_ge (tgt := 34) dX0_setAt_9 (by decide) (fun c9 => absurd c9 (by rw [hn]; exact nI_ge (by omega) (by omega))) (fun c9 => ?_)
    refine g_aload_n dX0_setAt_12 rfl ?_
    refine g_gR (r := 8) dX0_setAt_13 fl_X0_15 (fun _ _ => rfl) rfl (by decide) rfl ?_
    refine g_iload_n dX0_setAt_16 rfl ?_
    refine g_ialdN (gx := k) dX0_setAt_17 rfl (by decide) rfl (by omega) (by decide) ?_
    refine g_iload_n dX0_setAt_18 rfl ?_
    refine g_icmp_ne (tgt := 28) dX0_setAt_19 (by decide) (fun c19 => ?_) (fun c19 => ?_)
    · skip
      refine g_iincN dX0_setAt_28 rfl (by decide) rfl ?_
      refine g_goto (tgt := 4) dX0_setAt_31 (by decide) ?_
      exact ih (k + 1) _ (by omega) (by subst ea; simp [sSet, mfold, c19])
    · skip
      refine g_iload_n dX0_setAt_22 rfl ?_
      refine g_iconstv (v := 1) dX0_setAt_23 rfl ?_
      refine g_iload_n dX0_setAt_24 rfl ?_
      refine g_ishl dX0_setAt_25 ?_
      refine g_ior dX0_setAt_26 ?_
      refine g_istore_n dX0_setAt_27 (by decide) rfl ?_
      refine g_iincN dX0_setAt_28 rfl (by decide) rfl ?_
      refine g_goto (tgt := 4) dX0_setAt_31 (by decide) ?_
      exact ih (k + 1) _ (by omega) (by subst ea; simp [sSet, mfold, c19])
set_option maxHeartbeats 4000000 in
set_option maxRecDepth 100000 in
theorem c_setAt {L : Nat} {F : Nat → Nat → Int32} {g : Nat → Option Nat} (d : Nat) (n : Nat) (hn : F 7 0 = nI n) (h10 : n ≤ 10) (t : Int32) : mCall (d) yX0_setAt MX0_setAt [.ref 7, .int t] (mHX L F g) (some (.int (sSet (F 8) t n))) (mHX L F g) := by
  refine mCall_of sX0_setAt.1 (Nat.le_of_ble_eq_true rfl) ⟨_, rfl, rfl⟩ ?_
  show mGo _ _ (0, [some (.ref 7), some (.int t), none, none], [], _) _
  refine g_iconstv (v := 0) dX0_setAt_0 rfl ?_
  refine g_istore_n dX0_setAt_1 (by decide) rfl ?_
  refine g_iconstv (v := 0) dX0_setAt_2 rfl ?_
  refine g_istore_n dX0_setAt_3 (by decide) rfl ?_
  exact lp_setAt d n hn h10 t n 0 _ (Nat.zero_add n) rfl
set_option maxHeartbeats 4000000 in
set_option maxRecDepth 100000 in
theorem c_setOfThoseHere {L : Nat} {F : Nat → Nat → Int32} {g : Nat → Option Nat} (d : Nat) (n : Nat) (hn : F 7 0 = nI n) (h10 : n ≤ 10) : mCall (d + 1) yX0_setOfThoseHere MX0_setOfThoseHere [.ref 7] (mHX L F g) (some (.int (((0 ||| sSet (F 8) 0 n) ||| sSet (F 8) 1 n) ||| sSet (F 8) 2 n))) (mHX L F g) := by
  refine mCall_of sX0_setOfThoseHere.1 (Nat.le_of_ble_eq_true rfl) ⟨_, rfl, rfl⟩ ?_
  show mGo _ _ (0, [some (.ref 7), none, none], [], _) _
  refine g_iconstv (v := 0) dX0_setOfThoseHere_0 rfl ?_
  refine g_istore_n dX0_setOfThoseHere_1 (by decide) rfl ?_
  refine g_iconstv (v := 0) dX0_setOfThoseHere_2 rfl ?_
  refine g_istore_n dX0_setOfThoseHere_3 (by decide) rfl ?_
  refine g_iload_n dX0_setOfThoseHere_4 rfl ?_
  refine g_iconstv (v := 3) dX0_setOfThoseHere_5 rfl ?_
  refine g_icmp_ge (tgt := 23) dX0_setOfThoseHere_6 (by decide) (fun c6 => absurd c6 (by decide)) (fun c6 => ?_)
  refine g_iload_n dX0_setOfThoseHere_9 rfl ?_
  refine g_aload_n dX0_setOfThoseHere_10 rfl ?_
  refine g_iload_n dX0_setOfThoseHere_11 rfl ?_
  refine g_V1i dX0_setOfThoseHere_12 ml_X0_44 sX0_setAt rfl (by decide) (Nat.le_of_ble_eq_true rfl) (c_setAt d n hn h10 0) ?_
  refine g_ior dX0_setOfThoseHere_15 ?_
  refine g_istore_n dX0_setOfThoseHere_16 (by decide) rfl ?_
  refine g_iincv (v := 1) dX0_setOfThoseHere_17 rfl rfl (by decide) rfl ?_
  refine g_goto (tgt := 4) dX0_setOfThoseHere_20 (by decide) ?_
  refine g_iload_n dX0_setOfThoseHere_4 rfl ?_
  refine g_iconstv (v := 3) dX0_setOfThoseHere_5 rfl ?_
  refine g_icmp_ge (tgt := 23) dX0_setOfThoseHere_6 (by decide) (fun c6 => absurd c6 (by decide)) (fun c6 => ?_)
  refine g_iload_n dX0_setOfThoseHere_9 rfl ?_
  refine g_aload_n dX0_setOfThoseHere_10 rfl ?_
  refine g_iload_n dX0_setOfThoseHere_11 rfl ?_
  refine g_V1i dX0_setOfThoseHere_12 ml_X0_44 sX0_setAt rfl (by decide) (Nat.le_of_ble_eq_true rfl) (c_setAt d n hn h10 1) ?_
  refine g_ior dX0_setOfThoseHere_15 ?_
  refine g_istore_n dX0_setOfThoseHere_16 (by decide) rfl ?_
  refine g_iincv (v := 2) dX0_setOfThoseHere_17 rfl rfl (by decide) rfl ?_
  refine g_goto (tgt := 4) dX0_setOfThoseHere_20 (by decide) ?_
  refine g_iload_n dX0_setOfThoseHere_4 rfl ?_
  refine g_iconstv (v := 3) dX0_setOfThoseHere_5 rfl ?_
  refine g_icmp_ge (tgt := 23) dX0_setOfThoseHere_6 (by decide) (fun c6 => absurd c6 (by decide)) (fun c6 => ?_)
  refine g_iload_n dX0_setOfThoseHere_9 rfl ?_
  refine g_aload_n dX0_setOfThoseHere_10 rfl ?_
  refine g_iload_n dX0_setOfThoseHere_11 rfl ?_
  refine g_V1i dX0_setOfThoseHere_12 ml_X0_44 sX0_setAt rfl (by decide) (Nat.le_of_ble_eq_true rfl) (c_setAt d n hn h10 2) ?_
  refine g_ior dX0_setOfThoseHere_15 ?_
  refine g_istore_n dX0_setOfThoseHere_16 (by decide) rfl ?_
  refine g_iincv (v := 3) dX0_setOfThoseHere_17 rfl rfl (by decide) rfl ?_
  refine g_goto (tgt := 4) dX0_setOfThoseHere_20 (by decide) ?_
  refine g_iload_n dX0_setOfThoseHere_4 rfl ?_
  refine g_iconstv (v := 3) dX0_setOfThoseHere_5 rfl ?_
  refine g_icmp_ge (tgt := 23) dX0_setOfThoseHere_6 (by decide) (fun c6 => ?_) (fun c6 => absurd (by decide) c6)
  refine g_iload_n dX0_setOfThoseHere_23 rfl ?_
  exact g_iret dX0_setOfThoseHere_24 rfl
set_option maxHeartbeats 4000000 in
set_option maxRecDepth 100000 in
theorem lp_hostOf {L : Nat} {F : Nat → Nat → Int32} {g : Nat → Option Nat} (d : Nat) (n : Nat) (hn : F 7 0 = nI n) (h10 : n ≤ 10) (t : Int32) : ∀ (m k : Nat) (a : Int32) (b : Int32), k + m = n → a = (mfold (sHostF (F 8) (F 9) t) (-6, 0) k).1 → b = (mfold (sHostF (F 8) (F 9) t) (-6, 0) k).2 → mGo MX0_hostOf (d) (8, [some (.ref 7), some (.int t), some (.int a), some (.int b), some (.int (nI k))], [], mHX L F g) (some (.int (sHost (F 8) (F 9) t n)), mHX L F g) := by
  intro m
  induction m with
  | zero =>
    intro k a b hk ea eb
    obtain rfl : k = n := by omega
    refine g_iload dX0_hostOf_8 rfl ?_
    refine g_aload_n dX0_hostOf_10 rfl ?_
    refine g_gI dX0_hostOf_11 fl_X0_9 (fun _ _ => rfl) rfl (by decide) ?_
    refine g_icmp_ge (tgt := 56) dX0_hostOf_14 (by decide) (fun c14 => ?_) (fun c14 => absurd (by rw [hn]; exact nI_le (by omega) (by omega)) c14)
    refine g_iload_n dX0_hostOf_56 rfl ?_
    exact g_iret dX0_hostOf_57 (m_ret ea.symm)
  | succ m ih =>
    intro k a b hk ea eb
    refine g_iload dX0_hostOf_8 rfl ?_
    refine g_aload_n dX0_hostOf_10 rfl ?_
    refine g_gI dX0_hostOf_11 fl_X0_9 (fun _ _ => rfl) rfl (by decide) ?_
    refine g_icmp_ge (tgt := 56) dX0_hostOf_14 (by decide) (fun c14 => absurd c14 (by rw [hn]; exact nI_ge (by omega) (by omega))) (fun c14 => ?_)
    refine g_aload_n dX0_hostOf_17 rfl ?_
    refine g_gR (r := 8) dX0_hostOf_18 fl_X0_15 (fun _ _ => rfl) rfl (by decide) rfl ?_
    refine g_iload dX0_hostOf_21 rfl ?_
    refine g_ialdN (gx := k) dX0_hostOf_23 rfl (by decide) rfl (by omega) (by decide) ?_
    refine g_iload_n dX0_hostOf_24 rfl ?_
    refine g_icmp_ne (tgt := 50) dX0_hostOf_25 (by decide) (fun c25 => ?_) (fun c25 => ?_)
    · skip
      refine g_iincN dX0_hostOf_50 rfl (by decide) rfl ?_
      refine g_goto (tgt := 8) dX0_hostOf_53 (by decide) ?_
      exact ih (k + 1) _ _ (by omega) (by subst ea; subst eb; rw [mfold_succ]; simp only [sHostF, c25, if_true, if_false, reduceIte, eq_self]) (by subst ea; subst eb; rw [mfold_succ]; simp only [sHostF, c25, if_true, if_false, reduceIte, eq_self])
    · skip
      refine g_aload_n dX0_hostOf_28 rfl ?_
      refine g_gR (r := 9) dX0_hostOf_29 fl_X0_19 (fun _ _ => rfl) rfl (by decide) rfl ?_
      refine g_iload dX0_hostOf_32 rfl ?_
      refine g_ialdN (gx := k) dX0_hostOf_34 rfl (by decide) rfl (by omega) (by decide) ?_
      refine g_iload_n dX0_hostOf_35 rfl ?_
      refine g_icmp_le (tgt := 50) dX0_hostOf_36 (by decide) (fun c36 => ?_) (fun c36 => ?_)
      · skip
        refine g_iincN dX0_hostOf_50 rfl (by decide) rfl ?_
        refine g_goto (tgt := 8) dX0_hostOf_53 (by decide) ?_
        exact ih (k + 1) _ _ (by omega) (by subst ea; subst eb; rw [mfold_succ]; simp only [sHostF, c25, c36, if_true, if_false, reduceIte, eq_self]) (by subst ea; subst eb; rw [mfold_succ]; simp only [sHostF, c25, c36, if_true, if_false, reduceIte, eq_self])
      · skip
        refine g_iload dX0_hostOf_39 rfl ?_
        refine g_istore_n dX0_hostOf_41 (by decide) rfl ?_
        refine g_aload_n dX0_hostOf_42 rfl ?_
        refine g_gR (r := 9) dX0_hostOf_43 fl_X0_19 (fun _ _ => rfl) rfl (by decide) rfl ?_
        refine g_iload dX0_hostOf_46 rfl ?_
        refine g_ialdN (gx := k) dX0_hostOf_48 rfl (by decide) rfl (by omega) (by decide) ?_
        refine g_istore_n dX0_hostOf_49 (by decide) rfl ?_
        refine g_iincN dX0_hostOf_50 rfl (by decide) rfl ?_
        refine g_goto (tgt := 8) dX0_hostOf_53 (by decide) ?_
        exact ih (k + 1) _ _ (by omega) (by subst ea; subst eb; rw [mfold_succ]; simp only [sHostF, c25, c36, if_true, if_false, reduceIte, eq_self]) (by subst ea; subst eb; rw [mfold_succ]; simp only [sHostF, c25, c36, if_true, if_false, reduceIte, eq_self])
set_option maxHeartbeats 4000000 in
set_option maxRecDepth 100000 in
theorem c_hostOf {L : Nat} {F : Nat → Nat → Int32} {g : Nat → Option Nat} (d : Nat) (n : Nat) (hn : F 7 0 = nI n) (h10 : n ≤ 10) (t : Int32) : mCall (d) yX0_hostOf MX0_hostOf [.ref 7, .int t] (mHX L F g) (some (.int (sHost (F 8) (F 9) t n))) (mHX L F g) := by
  refine mCall_of sX0_hostOf.1 (Nat.le_of_ble_eq_true rfl) ⟨_, rfl, rfl⟩ ?_
  show mGo _ _ (0, [some (.ref 7), some (.int t), none, none, none], [], _) _
  refine g_bipushv (v := (-6)) dX0_hostOf_0 rfl ?_
  refine g_istore_n dX0_hostOf_2 (by decide) rfl ?_
  refine g_iconstv (v := 0) dX0_hostOf_3 rfl ?_
  refine g_istore_n dX0_hostOf_4 (by decide) rfl ?_
  refine g_iconstv (v := 0) dX0_hostOf_5 rfl ?_
  refine g_istore dX0_hostOf_6 (by decide) rfl ?_
  exact lp_hostOf d n hn h10 t n 0 _ _ (Nat.zero_add n) rfl rfl
set_option maxHeartbeats 4000000 in
set_option maxRecDepth 100000 in
theorem c_isHost {L : Nat} {F : Nat → Nat → Int32} {g : Nat → Option Nat} (d : Nat) (n : Nat) (hn : F 7 0 = nI n) (h10 : n ≤ 10) (k : Nat) (hk : k < n) : mCall (d + 1) yX0_isHost MX0_isHost [.ref 7, .int (nI k)] (mHX L F g) (some (.int (mbi (¬ F 8 k = (-6) ∧ sHost (F 8) (F 9) (F 8 k) n = nI k)))) (mHX L F g) := by
  refine mCall_of sX0_isHost.1 (Nat.le_of_ble_eq_true rfl) ⟨_, rfl, mbi_ok⟩ ?_
  show mGo _ _ (0, [some (.ref 7), some (.int (nI k))], [], _) _
  refine g_aload_n dX0_isHost_0 rfl ?_
  refine g_gR (r := 8) dX0_isHost_1 fl_X0_15 (fun _ _ => rfl) rfl (by decide) rfl ?_
  refine g_iload_n dX0_isHost_4 rfl ?_
  refine g_ialdN (gx := k) dX0_isHost_5 rfl (by decide) rfl (by omega) (by decide) ?_
  refine g_bipushv (v := (-6)) dX0_isHost_6 rfl ?_
  refine g_icmp_eq (tgt := 29) dX0_isHost_8 (by decide) (fun c8 => ?_) (fun c8 => ?_)
  · skip
    refine g_iconstv (v := 0) dX0_isHost_29 rfl ?_
    exact g_iret dX0_isHost_30 (m_ret (by simp [mbi, c8]))
  · skip
    refine g_aload_n dX0_isHost_11 rfl ?_
    refine g_aload_n dX0_isHost_12 rfl ?_
    refine g_gR (r := 8) dX0_isHost_13 fl_X0_15 (fun _ _ => rfl) rfl (by decide) rfl ?_
    refine g_iload_n dX0_isHost_16 rfl ?_
    refine g_ialdN (gx := k) dX0_isHost_17 rfl (by decide) rfl (by omega) (by decide) ?_
    refine g_V1i dX0_isHost_18 ml_X0_40 sX0_hostOf rfl (by decide) (Nat.le_of_ble_eq_true rfl) (c_hostOf d n hn h10 (F 8 k)) ?_
    refine g_iload_n dX0_isHost_21 rfl ?_
    refine g_icmp_ne (tgt := 29) dX0_isHost_22 (by decide) (fun c22 => ?_) (fun c22 => ?_)
    · skip
      refine g_iconstv (v := 0) dX0_isHost_29 rfl ?_
      exact g_iret dX0_isHost_30 (m_ret (by simp [mbi, c8, c22]))
    · skip
      refine g_iconstv (v := 1) dX0_isHost_25 rfl ?_
      refine g_goto (tgt := 30) dX0_isHost_26 (by decide) ?_
      exact g_iret dX0_isHost_30 (m_ret (by simp [mbi, c8, c22]))
set_option maxHeartbeats 4000000 in
set_option maxRecDepth 100000 in
theorem lp_companyOf {L : Nat} {F : Nat → Nat → Int32} {g : Nat → Option Nat} (d : Nat) (n : Nat) (hn : F 7 0 = nI n) (h10 : n ≤ 10) (t ab : Int32) : ∀ (m k : Nat) (a : Int32) (b : Int32) (o : Int32), k + m = n → a = (mfold (sCompF (F 8) (F 9) t ab) (0, 0, 1) k).1 → b = (mfold (sCompF (F 8) (F 9) t ab) (0, 0, 1) k).2.1 → o = (mfold (sCompF (F 8) (F 9) t ab) (0, 0, 1) k).2.2 → mGo MX0_companyOf (d) (11, [some (.ref 7), some (.int t), some (.int ab), some (.int a), some (.int b), some (.int o), some (.int (nI k))], [], mHX L F g) (some (.int (sComp (F 8) (F 9) t ab n)), mHX L F g) := by
  intro m
  induction m with
  | zero =>
    intro k a b o hk ea eb eo
    obtain rfl : k = n := by omega
    refine g_iload dX0_companyOf_11 rfl ?_
    refine g_aload_n dX0_companyOf_13 rfl ?_
    refine g_gI dX0_companyOf_14 fl_X0_9 (fun _ _ => rfl) rfl (by decide) ?_
    refine g_icmp_ge (tgt := 88) dX0_companyOf_17 (by decide) (fun c17 => ?_) (fun c17 => absurd (by rw [hn]; exact nI_le (by omega) (by omega)) c17)
    refine g_iload_n dX0_companyOf_88 rfl ?_
    refine g_iconstv (v := 3) dX0_companyOf_89 rfl ?_
    refine g_icmp_ge (tgt := 95) dX0_companyOf_90 (by decide) (fun c90 => ?_) (fun c90 => ?_)
    · skip
      refine g_iload dX0_companyOf_95 rfl ?_
      refine g_if_eq (tgt := 104) dX0_companyOf_97 (by decide) (fun c97 => ?_) (fun c97 => ?_)
      · skip
        refine g_iconstv (v := 4) dX0_companyOf_104 rfl ?_
        exact g_iret dX0_companyOf_105 (m_ret (by subst ea; subst eo; simp only [sComp, c90, c97, if_true, if_false, reduceIte, eq_self]))
      · skip
        refine g_iconstv (v := 3) dX0_companyOf_100 rfl ?_
        refine g_goto (tgt := 105) dX0_companyOf_101 (by decide) ?_
        exact g_iret dX0_companyOf_105 (m_ret (by subst ea; subst eo; simp only [sComp, c90, c97, if_true, if_false, reduceIte, eq_self]))
    · skip
      refine g_iload_n dX0_companyOf_93 rfl ?_
      exact g_iret dX0_companyOf_94 (m_ret (by subst ea; subst eo; simp only [sComp, c90, if_true, if_false, reduceIte, eq_self]))
  | succ m ih =>
    intro k a b o hk ea eb eo
    refine g_iload dX0_companyOf_11 rfl ?_
    refine g_aload_n dX0_companyOf_13 rfl ?_
    refine g_gI dX0_companyOf_14 fl_X0_9 (fun _ _ => rfl) rfl (by decide) ?_
    refine g_icmp_ge (tgt := 88) dX0_companyOf_17 (by decide) (fun c17 => absurd c17 (by rw [hn]; exact nI_ge (by omega) (by omega))) (fun c17 => ?_)
    refine g_aload_n dX0_companyOf_20 rfl ?_
    refine g_gR (r := 8) dX0_companyOf_21 fl_X0_15 (fun _ _ => rfl) rfl (by decide) rfl ?_
    refine g_iload dX0_companyOf_24 rfl ?_
    refine g_ialdN (gx := k) dX0_companyOf_26 rfl (by decide) rfl (by omega) (by decide) ?_
    refine g_iload_n dX0_companyOf_27 rfl ?_
    refine g_icmp_ne (tgt := 82) dX0_companyOf_28 (by decide) (fun c28 => ?_) (fun c28 => ?_)
    · skip
      refine g_iincN dX0_companyOf_82 rfl (by decide) rfl ?_
      refine g_goto (tgt := 11) dX0_companyOf_85 (by decide) ?_
      exact ih (k + 1) _ _ _ (by omega) (by first | (subst ea; subst eb; subst eo; rw [mfold_succ]; simp only [sCompF, c28, if_true, if_false, reduceIte, eq_self]; done) | exact absurd rfl c69) (by first | (subst ea; subst eb; subst eo; rw [mfold_succ]; simp only [sCompF, c28, if_true, if_false, reduceIte, eq_self]; done) | exact absurd rfl c69) (by first | (subst ea; subst eb; subst eo; rw [mfold_succ]; simp only [sCompF, c28, if_true, if_false, reduceIte, eq_self]; done) | exact absurd rfl c69)
    · skip
      refine g_iload dX0_companyOf_31 rfl ?_
      refine g_iload_n dX0_companyOf_33 rfl ?_
      refine g_icmp_eq (tgt := 82) dX0_companyOf_34 (by decide) (fun c34 => ?_) (fun c34 => ?_)
      · skip
        refine g_iincN dX0_companyOf_82 rfl (by decide) rfl ?_
        refine g_goto (tgt := 11) dX0_companyOf_85 (by decide) ?_
        exact ih (k + 1) _ _ _ (by omega) (by first | (subst ea; subst eb; subst eo; rw [mfold_succ]; simp only [sCompF, c28, c34, if_true, if_false, reduceIte, eq_self]; done) | exact absurd rfl c69) (by first | (subst ea; subst eb; subst eo; rw [mfold_succ]; simp only [sCompF, c28, c34, if_true, if_false, reduceIte, eq_self]; done) | exact absurd rfl c69) (by first | (subst ea; subst eb; subst eo; rw [mfold_succ]; simp only [sCompF, c28, c34, if_true, if_false, reduceIte, eq_self]; done) | exact absurd rfl c69)
      · skip
        refine g_iload_n dX0_companyOf_37 rfl ?_
        refine g_if_ne (tgt := 51) dX0_companyOf_38 (by decide) (fun c38 => ?_) (fun c38 => ?_)
        · skip
          refine g_iload dX0_companyOf_51 rfl ?_
          refine g_istore dX0_companyOf_53 (by decide) rfl ?_
          refine g_iload dX0_companyOf_55 rfl ?_
          refine g_if_eq (tgt := 76) dX0_companyOf_57 (by decide) (fun c57 => ?_) (fun c57 => ?_)
          · skip
            refine g_iconstv (v := 0) dX0_companyOf_76 rfl ?_
            refine g_istore dX0_companyOf_77 (by decide) rfl ?_
            refine g_iincx (w := 1) dX0_companyOf_79 rfl rfl (by decide) rfl ?_
            refine g_iincN dX0_companyOf_82 rfl (by decide) rfl ?_
            refine g_goto (tgt := 11) dX0_companyOf_85 (by decide) ?_
            exact ih (k + 1) _ _ _ (by omega) (by first | (subst ea; subst eb; subst eo; rw [mfold_succ]; simp only [sCompF, c28, c34, c38, c57, if_true, if_false, reduceIte, eq_self]; done) | exact absurd rfl c69) (by first | (subst ea; subst eb; subst eo; rw [mfold_succ]; simp only [sCompF, c28, c34, c38, c57, if_true, if_false, reduceIte, eq_self]; done) | exact absurd rfl c69) (by first | (subst ea; subst eb; subst eo; rw [mfold_succ]; simp only [sCompF, c28, c34, c38, c57, if_true, if_false, reduceIte, eq_self]; done) | exact absurd rfl c69)
          · skip
            refine g_aload_n dX0_companyOf_60 rfl ?_
            refine g_gR (r := 9) dX0_companyOf_61 fl_X0_19 (fun _ _ => rfl) rfl (by decide) rfl ?_
            refine g_iload dX0_companyOf_64 rfl ?_
            refine g_ialdN (gx := k) dX0_companyOf_66 rfl (by decide) rfl (by omega) (by decide) ?_
            refine g_iload dX0_companyOf_67 rfl ?_
            refine g_icmp_ne (tgt := 76) dX0_companyOf_69 (by decide) (fun c69 => ?_) (fun c69 => ?_)
            · skip
              refine g_iconstv (v := 0) dX0_companyOf_76 rfl ?_
              refine g_istore dX0_companyOf_77 (by decide) rfl ?_
              refine g_iincx (w := 1) dX0_companyOf_79 rfl rfl (by decide) rfl ?_
              refine g_iincN dX0_companyOf_82 rfl (by decide) rfl ?_
              refine g_goto (tgt := 11) dX0_companyOf_85 (by decide) ?_
              exact ih (k + 1) _ _ _ (by omega) (by first | (subst ea; subst eb; subst eo; rw [mfold_succ]; simp only [sCompF, c28, c34, c38, c57, c69, if_true, if_false, reduceIte, eq_self]; done) | exact absurd rfl c69) (by first | (subst ea; subst eb; subst eo; rw [mfold_succ]; simp only [sCompF, c28, c34, c38, c57, c69, if_true, if_false, reduceIte, eq_self]; done) | exact absurd rfl c69) (by first | (subst ea; subst eb; subst eo; rw [mfold_succ]; simp only [sCompF, c28, c34, c38, c57, c69, if_true, if_false, reduceIte, eq_self]; done) | exact absurd rfl c69)
            · skip
              refine g_iconstv (v := 1) dX0_companyOf_72 rfl ?_
              refine g_goto (tgt := 77) dX0_companyOf_73 (by decide) ?_
              refine g_istore dX0_companyOf_77 (by decide) rfl ?_
              refine g_iincx (w := 1) dX0_companyOf_79 rfl rfl (by decide) rfl ?_
              refine g_iincN dX0_companyOf_82 rfl (by decide) rfl ?_
              refine g_goto (tgt := 11) dX0_companyOf_85 (by decide) ?_
              exact ih (k + 1) _ _ _ (by omega) (by first | (subst ea; subst eb; subst eo; rw [mfold_succ]; simp only [sCompF, c28, c34, c38, c57, c69, if_true, if_false, reduceIte, eq_self]; done) | exact absurd rfl c69) (by first | (subst ea; subst eb; subst eo; rw [mfold_succ]; simp only [sCompF, c28, c34, c38, c57, c69, if_true, if_false, reduceIte, eq_self]; done) | exact absurd rfl c69) (by first | (subst ea; subst eb; subst eo; rw [mfold_succ]; simp only [sCompF, c28, c34, c38, c57, c69, if_true, if_false, reduceIte, eq_self]; done) | exact absurd rfl c69)
        · skip
          refine g_aload_n dX0_companyOf_41 rfl ?_
          refine g_gR (r := 9) dX0_companyOf_42 fl_X0_19 (fun _ _ => rfl) rfl (by decide) rfl ?_
          refine g_iload dX0_companyOf_45 rfl ?_
          refine g_ialdN (gx := k) dX0_companyOf_47 rfl (by decide) rfl (by omega) (by decide) ?_
          refine g_goto (tgt := 53) dX0_companyOf_48 (by decide) ?_
          refine g_istore dX0_companyOf_53 (by decide) rfl ?_
          refine g_iload dX0_companyOf_55 rfl ?_
          refine g_if_eq (tgt := 76) dX0_companyOf_57 (by decide) (fun c57 => ?_) (fun c57 => ?_)
          · skip
            refine g_iconstv (v := 0) dX0_companyOf_76 rfl ?_
            refine g_istore dX0_companyOf_77 (by decide) rfl ?_
            refine g_iincx (w := 1) dX0_companyOf_79 rfl rfl (by decide) rfl ?_
            refine g_iincN dX0_companyOf_82 rfl (by decide) rfl ?_
            refine g_goto (tgt := 11) dX0_companyOf_85 (by decide) ?_
            exact ih (k + 1) _ _ _ (by omega) (by first | (subst ea; subst eb; subst eo; rw [mfold_succ]; simp only [sCompF, c28, c34, c38, c57, if_true, if_false, reduceIte, eq_self]; done) | exact absurd rfl c69) (by first | (subst ea; subst eb; subst eo; rw [mfold_succ]; simp only [sCompF, c28, c34, c38, c57, if_true, if_false, reduceIte, eq_self]; done) | exact absurd rfl c69) (by first | (subst ea; subst eb; subst eo; rw [mfold_succ]; simp only [sCompF, c28, c34, c38, c57, if_true, if_false, reduceIte, eq_self]; done) | exact absurd rfl c69)
          · skip
            refine g_aload_n dX0_companyOf_60 rfl ?_
            refine g_gR (r := 9) dX0_companyOf_61 fl_X0_19 (fun _ _ => rfl) rfl (by decide) rfl ?_
            refine g_iload dX0_companyOf_64 rfl ?_
            refine g_ialdN (gx := k) dX0_companyOf_66 rfl (by decide) rfl (by omega) (by decide) ?_
            refine g_iload dX0_companyOf_67 rfl ?_
            refine g_icmp_ne (tgt := 76) dX0_companyOf_69 (by decide) (fun c69 => ?_) (fun c69 => ?_)
            · skip
              refine g_iconstv (v := 0) dX0_companyOf_76 rfl ?_
              refine g_istore dX0_companyOf_77 (by decide) rfl ?_
              refine g_iincx (w := 1) dX0_companyOf_79 rfl rfl (by decide) rfl ?_
              refine g_iincN dX0_companyOf_82 rfl (by decide) rfl ?_
              refine g_goto (tgt := 11) dX0_companyOf_85 (by decide) ?_
              exact ih (k + 1) _ _ _ (by omega) (by first | (subst ea; subst eb; subst eo; rw [mfold_succ]; simp only [sCompF, c28, c34, c38, c57, c69, if_true, if_false, reduceIte, eq_self]; done) | exact absurd rfl c69) (by first | (subst ea; subst eb; subst eo; rw [mfold_succ]; simp only [sCompF, c28, c34, c38, c57, c69, if_true, if_false, reduceIte, eq_self]; done) | exact absurd rfl c69) (by first | (subst ea; subst eb; subst eo; rw [mfold_succ]; simp only [sCompF, c28, c34, c38, c57, c69, if_true, if_false, reduceIte, eq_self]; done) | exact absurd rfl c69)
            · skip
              refine g_iconstv (v := 1) dX0_companyOf_72 rfl ?_
              refine g_goto (tgt := 77) dX0_companyOf_73 (by decide) ?_
              refine g_istore dX0_companyOf_77 (by decide) rfl ?_
              refine g_iincx (w := 1) dX0_companyOf_79 rfl rfl (by decide) rfl ?_
              refine g_iincN dX0_companyOf_82 rfl (by decide) rfl ?_
              refine g_goto (tgt := 11) dX0_companyOf_85 (by decide) ?_
              exact ih (k + 1) _ _ _ (by omega) (by first | (subst ea; subst eb; subst eo; rw [mfold_succ]; simp only [sCompF, c28, c34, c38, c57, c69, if_true, if_false, reduceIte, eq_self]; done) | exact absurd rfl c69) (by first | (subst ea; subst eb; subst eo; rw [mfold_succ]; simp only [sCompF, c28, c34, c38, c57, c69, if_true, if_false, reduceIte, eq_self]; done) | exact absurd rfl c69) (by first | (subst ea; subst eb; subst eo; rw [mfold_succ]; simp only [sCompF, c28, c34, c38, c57, c69, if_true, if_false, reduceIte, eq_self]; done) | exact absurd rfl c69)
set_option maxHeartbeats 4000000 in
set_option maxRecDepth 100000 in
theorem c_companyOf {L : Nat} {F : Nat → Nat → Int32} {g : Nat → Option Nat} (d : Nat) (n : Nat) (hn : F 7 0 = nI n) (h10 : n ≤ 10) (t ab : Int32) : mCall (d) yX0_companyOf MX0_companyOf [.ref 7, .int t, .int ab] (mHX L F g) (some (.int (sComp (F 8) (F 9) t ab n))) (mHX L F g) := by
  refine mCall_of sX0_companyOf.1 (Nat.le_of_ble_eq_true rfl) ⟨_, rfl, rfl⟩ ?_
  show mGo _ _ (0, [some (.ref 7), some (.int t), some (.int ab), none, none, none, none], [], _) _
  refine g_iconstv (v := 0) dX0_companyOf_0 rfl ?_
  refine g_istore_n dX0_companyOf_1 (by decide) rfl ?_
  refine g_iconstv (v := 0) dX0_companyOf_2 rfl ?_
  refine g_istore dX0_companyOf_3 (by decide) rfl ?_
  refine g_iconstv (v := 1) dX0_companyOf_5 rfl ?_
  refine g_istore dX0_companyOf_6 (by decide) rfl ?_
  refine g_iconstv (v := 0) dX0_companyOf_8 rfl ?_
  refine g_istore dX0_companyOf_9 (by decide) rfl ?_
  exact lp_companyOf d n hn h10 t ab n 0 _ _ _ (Nat.zero_add n) rfl rfl rfl
set_option maxHeartbeats 4000000 in
set_option maxRecDepth 100000 in
theorem lp_lenderTo {L : Nat} {F : Nat → Nat → Int32} {g : Nat → Option Nat} (d : Nat) (n : Nat) (hn : F 7 0 = nI n) (h10 : n ≤ 10) (x t : Int32) : ∀ (m k : Nat) (a : Int32) (b : Int32), k + m = n → a = (mfold (sLendF (F 8) (F 9) (F 11) x t) (-6, 10) k).1 → b = (mfold (sLendF (F 8) (F 9) (F 11) x t) (-6, 10) k).2 → mGo MX0_lenderTo (d) (10, [some (.ref 7), some (.int x), some (.int t), some (.int a), some (.int b), some (.int (nI k))], [], mHX L F g) (some (.int (sLend (F 8) (F 9) (F 11) x t n)), mHX L F g) := by
  intro m
  induction m with
  | zero =>
    intro k a b hk ea eb
    obtain rfl : k = n := by omega
    refine g_iload dX0_lenderTo_10 rfl ?_
    refine g_aload_n dX0_lenderTo_12 rfl ?_
    refine g_gI dX0_lenderTo_13 fl_X0_9 (fun _ _ => rfl) rfl (by decide) ?_
    refine g_icmp_ge (tgt := 76) dX0_lenderTo_16 (by decide) (fun c16 => ?_) (fun c16 => absurd (by rw [hn]; exact nI_le (by omega) (by omega)) c16)
    refine g_iload_n dX0_lenderTo_76 rfl ?_
    exact g_iret dX0_lenderTo_77 (m_ret ea.symm)
  | succ m ih =>
    intro k a b hk ea eb
    refine g_iload dX0_lenderTo_10 rfl ?_
    refine g_aload_n dX0_lenderTo_12 rfl ?_
    refine g_gI dX0_lenderTo_13 fl_X0_9 (fun _ _ => rfl) rfl (by decide) ?_
    refine g_icmp_ge (tgt := 76) dX0_lenderTo_16 (by decide) (fun c16 => absurd c16 (by rw [hn]; exact nI_ge (by omega) (by omega))) (fun c16 => ?_)
    refine g_iload dX0_lenderTo_19 rfl ?_
    refine g_iload_n dX0_lenderTo_21 rfl ?_
    refine g_icmp_eq (tgt := 70) dX0_lenderTo_22 (by decide) (fun c22 => ?_) (fun c22 => ?_)
    · skip
      refine g_iincN dX0_lenderTo_70 rfl (by decide) rfl ?_
      refine g_goto (tgt := 10) dX0_lenderTo_73 (by decide) ?_
      exact ih (k + 1) _ _ (by omega) (by subst ea; subst eb; rw [mfold_succ]; simp only [sLendF, c22, if_true, if_false, reduceIte, eq_self]) (by subst ea; subst eb; rw [mfold_succ]; simp only [sLendF, c22, if_true, if_false, reduceIte, eq_self])
    · skip
      refine g_aload_n dX0_lenderTo_25 rfl ?_
      refine g_gR (r := 8) dX0_lenderTo_26 fl_X0_15 (fun _ _ => rfl) rfl (by decide) rfl ?_
      refine g_iload dX0_lenderTo_29 rfl ?_
      refine g_ialdN (gx := k) dX0_lenderTo_31 rfl (by decide) rfl (by omega) (by decide) ?_
      refine g_iload_n dX0_lenderTo_32 rfl ?_
      refine g_icmp_ne (tgt := 70) dX0_lenderTo_33 (by decide) (fun c33 => ?_) (fun c33 => ?_)
      · skip
        refine g_iincN dX0_lenderTo_70 rfl (by decide) rfl ?_
        refine g_goto (tgt := 10) dX0_lenderTo_73 (by decide) ?_
        exact ih (k + 1) _ _ (by omega) (by subst ea; subst eb; rw [mfold_succ]; simp only [sLendF, c22, c33, if_true, if_false, reduceIte, eq_self]) (by subst ea; subst eb; rw [mfold_succ]; simp only [sLendF, c22, c33, if_true, if_false, reduceIte, eq_self])
      · skip
        refine g_aload_n dX0_lenderTo_36 rfl ?_
        refine g_gR (r := 11) dX0_lenderTo_37 fl_X0_25 (fun _ _ => rfl) rfl (by decide) rfl ?_
        refine g_iload dX0_lenderTo_40 rfl ?_
        refine g_ialdN (gx := k) dX0_lenderTo_42 rfl (by decide) rfl (by omega) (by decide) ?_
        refine g_if_le (tgt := 70) dX0_lenderTo_43 (by decide) (fun c43 => ?_) (fun c43 => ?_)
        · skip
          refine g_iincN dX0_lenderTo_70 rfl (by decide) rfl ?_
          refine g_goto (tgt := 10) dX0_lenderTo_73 (by decide) ?_
          exact ih (k + 1) _ _ (by omega) (by subst ea; subst eb; rw [mfold_succ]; simp only [sLendF, c22, c33, c43, if_true, if_false, reduceIte, eq_self]) (by subst ea; subst eb; rw [mfold_succ]; simp only [sLendF, c22, c33, c43, if_true, if_false, reduceIte, eq_self])
        · skip
          refine g_aload_n dX0_lenderTo_46 rfl ?_
          refine g_gR (r := 9) dX0_lenderTo_47 fl_X0_19 (fun _ _ => rfl) rfl (by decide) rfl ?_
          refine g_iload dX0_lenderTo_50 rfl ?_
          refine g_ialdN (gx := k) dX0_lenderTo_52 rfl (by decide) rfl (by omega) (by decide) ?_
          refine g_iload dX0_lenderTo_53 rfl ?_
          refine g_icmp_ge (tgt := 70) dX0_lenderTo_55 (by decide) (fun c55 => ?_) (fun c55 => ?_)
          · skip
            refine g_iincN dX0_lenderTo_70 rfl (by decide) rfl ?_
            refine g_goto (tgt := 10) dX0_lenderTo_73 (by decide) ?_
            exact ih (k + 1) _ _ (by omega) (by subst ea; subst eb; rw [mfold_succ]; simp only [sLendF, c22, c33, c43, c55, if_true, if_false, reduceIte, eq_self]) (by subst ea; subst eb; rw [mfold_succ]; simp only [sLendF, c22, c33, c43, c55, if_true, if_false, reduceIte, eq_self])
          · skip
            refine g_iload dX0_lenderTo_58 rfl ?_
            refine g_istore_n dX0_lenderTo_60 (by decide) rfl ?_
            refine g_aload_n dX0_lenderTo_61 rfl ?_
            refine g_gR (r := 9) dX0_lenderTo_62 fl_X0_19 (fun _ _ => rfl) rfl (by decide) rfl ?_
            refine g_iload dX0_lenderTo_65 rfl ?_
            refine g_ialdN (gx := k) dX0_lenderTo_67 rfl (by decide) rfl (by omega) (by decide) ?_
            refine g_istore dX0_lenderTo_68 (by decide) rfl ?_
            refine g_iincN dX0_lenderTo_70 rfl (by decide) rfl ?_
            refine g_goto (tgt := 10) dX0_lenderTo_73 (by decide) ?_
            exact ih (k + 1) _ _ (by omega) (by subst ea; subst eb; rw [mfold_succ]; simp only [sLendF, c22, c33, c43, c55, if_true, if_false, reduceIte, eq_self]) (by subst ea; subst eb; rw [mfold_succ]; simp only [sLendF, c22, c33, c43, c55, if_true, if_false, reduceIte, eq_self])
set_option maxHeartbeats 4000000 in
set_option maxRecDepth 100000 in
theorem c_lenderTo {L : Nat} {F : Nat → Nat → Int32} {g : Nat → Option Nat} (d : Nat) (n : Nat) (hn : F 7 0 = nI n) (h10 : n ≤ 10) (x t : Int32) : mCall (d) yX0_lenderTo MX0_lenderTo [.ref 7, .int x, .int t] (mHX L F g) (some (.int (sLend (F 8) (F 9) (F 11) x t n))) (mHX L F g) := by
  refine mCall_of sX0_lenderTo.1 (Nat.le_of_ble_eq_true rfl) ⟨_, rfl, rfl⟩ ?_
  show mGo _ _ (0, [some (.ref 7), some (.int x), some (.int t), none, none, none], [], _) _
  refine g_bipushv (v := (-6)) dX0_lenderTo_0 rfl ?_
  refine g_istore_n dX0_lenderTo_2 (by decide) rfl ?_
  refine g_bipushv (v := 10) dX0_lenderTo_3 rfl ?_
  refine g_istore dX0_lenderTo_5 (by decide) rfl ?_
  refine g_iconstv (v := 0) dX0_lenderTo_7 rfl ?_
  refine g_istore dX0_lenderTo_8 (by decide) rfl ?_
  exact lp_lenderTo d n hn h10 x t n 0 _ _ (Nat.zero_add n) rfl rfl
set_option maxHeartbeats 4000000 in
set_option maxRecDepth 100000 in
theorem lp_faultsOfAll {L : Nat} {F : Nat → Nat → Int32} {g : Nat → Option Nat} (d : Nat) (n : Nat) (hn : F 7 0 = nI n) (h10 : n ≤ 10)  : ∀ (m k : Nat) (a : Int32), k + m = n → a = sSum (F 10) k → mGo MX0_faultsOfAll (d) (4, [some (.ref 7), some (.int a), some (.int (nI k))], [], mHX L F g) (some (.int (sSum (F 10) n)), mHX L F g) := by
  intro m
  induction m with
  | zero =>
    intro k a hk ea
    obtain rfl : k = n := by omega
    refine g_iload_n dX0_faultsOfAll_4 rfl ?_
    refine g_aload_n dX0_faultsOfAll_5 rfl ?_
    refine g_gI dX0_faultsOfAll_6 fl_X0_9 (fun _ _ => rfl) rfl (by decide) ?_
    refine g_icmp_ge (tgt := 27) dX0_faultsOfAll_9 (by decide) (fun c9 => ?_) (fun c9 => absurd (by rw [hn]; exact nI_le (by omega) (by omega)) c9)
    refine g_iload_n dX0_faultsOfAll_27 rfl ?_
    exact g_iret dX0_faultsOfAll_28 (m_ret ea.symm)
  | succ m ih =>
    intro k a hk ea
    refine g_iload_n dX0_faultsOfAll_4 rfl ?_
    refine g_aload_n dX0_faultsOfAll_5 rfl ?_
    refine g_gI dX0_faultsOfAll_6 fl_X0_9 (fun _ _ => rfl) rfl (by decide) ?_
    refine g_icmp_ge (tgt := 27) dX0_faultsOfAll_9 (by decide) (fun c9 => absurd c9 (by rw [hn]; exact nI_ge (by omega) (by omega))) (fun c9 => ?_)
    refine g_iload_n dX0_faultsOfAll_12 rfl ?_
    refine g_aload_n dX0_faultsOfAll_13 rfl ?_
    refine g_gR (r := 10) dX0_faultsOfAll_14 fl_X0_22 (fun _ _ => rfl) rfl (by decide) rfl ?_
    refine g_iload_n dX0_faultsOfAll_17 rfl ?_
    refine g_ialdN (gx := k) dX0_faultsOfAll_18 rfl (by decide) rfl (by omega) (by decide) ?_
    refine g_iadd dX0_faultsOfAll_19 ?_
    refine g_istore_n dX0_faultsOfAll_20 (by decide) rfl ?_
    refine g_iincN dX0_faultsOfAll_21 rfl (by decide) rfl ?_
    refine g_goto (tgt := 4) dX0_faultsOfAll_24 (by decide) ?_
    exact ih (k + 1) _ (by omega) (by subst ea; rfl)
set_option maxHeartbeats 4000000 in
set_option maxRecDepth 100000 in
theorem c_faultsOfAll {L : Nat} {F : Nat → Nat → Int32} {g : Nat → Option Nat} (d : Nat) (n : Nat) (hn : F 7 0 = nI n) (h10 : n ≤ 10)  : mCall (d) yX0_faultsOfAll MX0_faultsOfAll [.ref 7] (mHX L F g) (some (.int (sSum (F 10) n))) (mHX L F g) := by
  refine mCall_of sX0_faultsOfAll.1 (Nat.le_of_ble_eq_true rfl) ⟨_, rfl, rfl⟩ ?_
  show mGo _ _ (0, [some (.ref 7), none, none], [], _) _
  refine g_iconstv (v := 0) dX0_faultsOfAll_0 rfl ?_
  refine g_istore_n dX0_faultsOfAll_1 (by decide) rfl ?_
  refine g_iconstv (v := 0) dX0_faultsOfAll_2 rfl ?_
  refine g_istore_n dX0_faultsOfAll_3 (by decide) rfl ?_
  exact lp_faultsOfAll d n hn h10  n 0 _ (Nat.zero_add n) rfl
set_option maxHeartbeats 4000000 in
set_option maxRecDepth 100000 in
theorem lp_coughsOfThoseHere {L : Nat} {F : Nat → Nat → Int32} {g : Nat → Option Nat} (d : Nat) (n : Nat) (hn : F 7 0 = nI n) (h10 : n ≤ 10)  : ∀ (m k : Nat) (a : Int32), k + m = n → a = sSumHere (F 8) (F 11) k → mGo MX0_coughsOfThoseHere (d) (4, [some (.ref 7), some (.int a), some (.int (nI k))], [], mHX L F g) (some (.int (sSumHere (F 8) (F 11) n)), mHX L F g) := by
  intro m
  induction m with
  | zero =>
    intro k a hk ea
    obtain rfl : k = n := by omega
    refine g_iload_n dX0_coughsOfThoseHere_4 rfl ?_
    refine g_aload_n dX0_coughsOfThoseHere_5 rfl ?_
    refine g_gI dX0_coughsOfThoseHere_6 fl_X0_9 (fun _ _ => rfl) rfl (by decide) ?_
    refine g_icmp_ge (tgt := 42) dX0_coughsOfThoseHere_9 (by decide) (fun c9 => ?_) (fun c9 => absurd (by rw [hn]; exact nI_le (by omega) (by omega)) c9)
    refine g_iload_n dX0_coughsOfThoseHere_42 rfl ?_
    exact g_iret dX0_coughsOfThoseHere_43 (m_ret ea.symm)
  | succ m ih =>
    intro k a hk ea
    refine g_iload_n dX0_coughsOfThoseHere_4 rfl ?_
    refine g_aload_n dX0_coughsOfThoseHere_5 rfl ?_
    refine g_gI dX0_coughsOfThoseHere_6 fl_X0_9 (fun _ _ => rfl) rfl (by decide) ?_
    refine g_icmp_ge (tgt := 42) dX0_coughsOfThoseHere_9 (by decide) (fun c9 => absurd c9 (by rw [hn]; exact nI_ge (by omega) (by omega))) (fun c9 => ?_)
    refine g_iload_n dX0_coughsOfThoseHere_12 rfl ?_
    refine g_aload_n dX0_coughsOfThoseHere_13 rfl ?_
    refine g_gR (r := 8) dX0_coughsOfThoseHere_14 fl_X0_15 (fun _ _ => rfl) rfl (by decide) rfl ?_
    refine g_iload_n dX0_coughsOfThoseHere_17 rfl ?_
    refine g_ialdN (gx := k) dX0_coughsOfThoseHere_18 rfl (by decide) rfl (by omega) (by decide) ?_
    refine g_bipushv (v := (-6)) dX0_coughsOfThoseHere_19 rfl ?_
    refine g_icmp_ne (tgt := 28) dX0_coughsOfThoseHere_21 (by decide) (fun c21 => ?_) (fun c21 => ?_)
    · skip
      refine g_aload_n dX0_coughsOfThoseHere_28 rfl ?_
      refine g_gR (r := 11) dX0_coughsOfThoseHere_29 fl_X0_25 (fun _ _ => rfl) rfl (by decide) rfl ?_
      refine g_iload_n dX0_coughsOfThoseHere_32 rfl ?_
      refine g_ialdN (gx := k) dX0_coughsOfThoseHere_33 rfl (by decide) rfl (by omega) (by decide) ?_
      refine g_iadd dX0_coughsOfThoseHere_34 ?_
      refine g_istore_n dX0_coughsOfThoseHere_35 (by decide) rfl ?_
      refine g_iincN dX0_coughsOfThoseHere_36 rfl (by decide) rfl ?_
      refine g_goto (tgt := 4) dX0_coughsOfThoseHere_39 (by decide) ?_
      exact ih (k + 1) _ (by omega) (by subst ea; simp [sSumHere, mfold, c21])
    · skip
      refine g_iconstv (v := 0) dX0_coughsOfThoseHere_24 rfl ?_
      refine g_goto (tgt := 34) dX0_coughsOfThoseHere_25 (by decide) ?_
      refine g_iadd dX0_coughsOfThoseHere_34 ?_
      refine g_istore_n dX0_coughsOfThoseHere_35 (by decide) rfl ?_
      refine g_iincN dX0_coughsOfThoseHere_36 rfl (by decide) rfl ?_
      refine g_goto (tgt := 4) dX0_coughsOfThoseHere_39 (by decide) ?_
      exact ih (k + 1) _ (by omega) (by subst ea; simp [sSumHere, mfold, c21])
set_option maxHeartbeats 4000000 in
set_option maxRecDepth 100000 in
theorem c_coughsOfThoseHere {L : Nat} {F : Nat → Nat → Int32} {g : Nat → Option Nat} (d : Nat) (n : Nat) (hn : F 7 0 = nI n) (h10 : n ≤ 10)  : mCall (d) yX0_coughsOfThoseHere MX0_coughsOfThoseHere [.ref 7] (mHX L F g) (some (.int (sSumHere (F 8) (F 11) n))) (mHX L F g) := by
  refine mCall_of sX0_coughsOfThoseHere.1 (Nat.le_of_ble_eq_true rfl) ⟨_, rfl, rfl⟩ ?_
  show mGo _ _ (0, [some (.ref 7), none, none], [], _) _
  refine g_iconstv (v := 0) dX0_coughsOfThoseHere_0 rfl ?_
  refine g_istore_n dX0_coughsOfThoseHere_1 (by decide) rfl ?_
  refine g_iconstv (v := 0) dX0_coughsOfThoseHere_2 rfl ?_
  refine g_istore_n dX0_coughsOfThoseHere_3 (by decide) rfl ?_
  exact lp_coughsOfThoseHere d n hn h10  n 0 _ (Nat.zero_add n) rfl
set_option maxHeartbeats 4000000 in
set_option maxRecDepth 100000 in
theorem c_add_full {L : Nat} {F : Nat → Nat → Int32} {g : Nat → Option Nat} (d : Nat) (a1 a2 a3 : Int32) (h : F 7 0 = nI 10) : mCall (d) yX0_add MX0_add [.ref 7, .int a1, .int a2, .int a3] (mHX L F g) (some (.int (-4))) (mHX L F g) := by
  refine mCall_of sX0_add.1 (Nat.le_of_ble_eq_true rfl) ⟨_, rfl, rfl⟩ ?_
  show mGo _ _ (0, [some (.ref 7), some (.int a1), some (.int a2), some (.int a3)], [], _) _
  refine g_aload_n dX0_add_0 rfl ?_
  refine g_gI dX0_add_1 fl_X0_9 (fun _ _ => rfl) rfl (by decide) ?_
  refine g_bipushv (v := 10) dX0_add_4 rfl ?_
  refine g_icmp_lt (tgt := 12) dX0_add_6 (by decide) (fun c6 => absurd c6 (by rw [h]; decide)) (fun c6 => ?_)
  refine g_bipushv (v := (-4)) dX0_add_9 rfl ?_
  exact g_iret dX0_add_11 rfl
set_option maxHeartbeats 4000000 in
set_option maxRecDepth 100000 in
theorem c_add {L : Nat} {F : Nat → Nat → Int32} {g : Nat → Option Nat} (d : Nat) (a1 a2 a3 : Int32) (n : Nat) (hn : F 7 0 = nI n) (h10 : n < 10) : mCall (d) yX0_add MX0_add [.ref 7, .int a1, .int a2, .int a3] (mHX L F g) (some (.int (nI n))) (mHX L (pe (pe (pe (pe F 8 n a1) 9 n a2) 11 n a3) 7 0 (F 7 0 + 1)) g) := by
  refine mCall_of sX0_add.1 (Nat.le_of_ble_eq_true rfl) ⟨_, rfl, rfl⟩ ?_
  show mGo _ _ (0, [some (.ref 7), some (.int a1), some (.int a2), some (.int a3)], [], _) _
  refine g_aload_n dX0_add_0 rfl ?_
  refine g_gI dX0_add_1 fl_X0_9 (fun _ _ => rfl) rfl (by decide) ?_
  refine g_bipushv (v := 10) dX0_add_4 rfl ?_
  refine g_icmp_lt (tgt := 12) dX0_add_6 (by decide) (fun c6 => ?_) (fun c6 => absurd (by rw [hn]; exact nI_lt h10 (by decide)) c6)
  refine g_aload_n dX0_add_12 rfl ?_
  refine g_gR (r := 8) dX0_add_13 fl_X0_15 (fun _ _ => rfl) rfl (by decide) rfl ?_
  refine g_aload_n dX0_add_16 rfl ?_
  refine g_gI dX0_add_17 fl_X0_9 (fun _ _ => rfl) rfl (by decide) ?_
  refine g_iload_n dX0_add_20 rfl ?_
  refine g_iastN (gx := n) dX0_add_21 rfl (by decide) hn (by omega) (by decide) ?_
  refine g_aload_n dX0_add_22 rfl ?_
  refine g_gR (r := 9) dX0_add_23 fl_X0_19 (fun _ _ => rfl) rfl (by decide) rfl ?_
  refine g_aload_n dX0_add_26 rfl ?_
  refine g_gI dX0_add_27 fl_X0_9 (fun _ _ => rfl) rfl (by decide) ?_
  refine g_iload_n dX0_add_30 rfl ?_
  refine g_iastN (gx := n) dX0_add_31 rfl (by decide) hn (by omega) (by decide) ?_
  refine g_aload_n dX0_add_32 rfl ?_
  refine g_gR (r := 11) dX0_add_33 fl_X0_25 (fun _ _ => rfl) rfl (by decide) rfl ?_
  refine g_aload_n dX0_add_36 rfl ?_
  refine g_gI dX0_add_37 fl_X0_9 (fun _ _ => rfl) rfl (by decide) ?_
  refine g_iload_n dX0_add_40 rfl ?_
  refine g_iastN (gx := n) dX0_add_41 rfl (by decide) hn (by omega) (by decide) ?_
  refine g_aload_n dX0_add_42 rfl ?_
  refine g_dup dX0_add_43 rfl ?_
  refine g_gI dX0_add_44 fl_X0_9 (fun _ _ => rfl) rfl (by decide) ?_
  refine g_iconstv (v := 1) dX0_add_47 rfl ?_
  refine g_iadd dX0_add_48 ?_
  refine g_pI dX0_add_49 fl_X0_9 (Or.inl rfl) rfl (by decide) rfl ?_
  refine g_aload_n dX0_add_52 rfl ?_
  refine g_gI dX0_add_53 fl_X0_9 (fun _ _ => rfl) rfl (by decide) ?_
  refine g_iconstv (v := 1) dX0_add_56 rfl ?_
  refine g_isub dX0_add_57 ?_
  exact g_iret dX0_add_58 (m_ret2 (by show nI n = F 7 0 + 1 - 1; rw [hn, nI_1]; exact (nI_pred n).symm) rfl)
end
section
set_option maxHeartbeats 4000000 in
set_option maxRecDepth 100000 in
theorem c_isTable {L : Nat} {F : Nat → Nat → Int32} {g : Nat → Option Nat} (d : Nat) (x : Int32) : mCall (d) yX6_isTable MX6_isTable [.int x] (mHX L F g) (some (.int (mbi (0 ≤ x ∧ x < 3)))) (mHX L F g) := by
  refine mCall_of sX6_isTable.1 (Nat.le_of_ble_eq_true rfl) ⟨_, rfl, mbi_ok⟩ ?_
  show mGo _ _ (0, [some (.int x)], [], _) _
  refine g_iload_n dX6_isTable_0 rfl ?_
  refine g_if_lt (tgt := 13) dX6_isTable_1 (by decide) (fun c1 => ?_) (fun c1 => ?_)
  · skip
    refine g_iconstv (v := 0) dX6_isTable_13 rfl ?_
    exact g_iret dX6_isTable_14 (m_ret (by unfold mbi; split <;> first | rfl | (exfalso; simp only [i_eq, i_lt, i_le, i_0, show (3 : Int32).toInt = 3 from by decide] at *; omega)))
  · skip
    refine g_iload_n dX6_isTable_4 rfl ?_
    refine g_iconstv (v := 3) dX6_isTable_5 rfl ?_
    refine g_icmp_ge (tgt := 13) dX6_isTable_6 (by decide) (fun c6 => ?_) (fun c6 => ?_)
    · skip
      refine g_iconstv (v := 0) dX6_isTable_13 rfl ?_
      exact g_iret dX6_isTable_14 (m_ret (by unfold mbi; split <;> first | rfl | (exfalso; simp only [i_eq, i_lt, i_le, i_0, show (3 : Int32).toInt = 3 from by decide] at *; omega)))
    · skip
      refine g_iconstv (v := 1) dX6_isTable_9 rfl ?_
      refine g_goto (tgt := 14) dX6_isTable_10 (by decide) ?_
      exact g_iret dX6_isTable_14 (m_ret (by unfold mbi; split <;> first | rfl | (exfalso; simp only [i_eq, i_lt, i_le, i_0, show (3 : Int32).toInt = 3 from by decide] at *; omega)))
def sB1 (x : Int32) : Int32 := x - ((x.toUInt32 >>> ((1 : Int32).toUInt32 &&& Int32.toUInt32 31)).toInt32 &&& 1431655765)
def sB2 (x : Int32) : Int32 := (x &&& 858993459) + ((x.toUInt32 >>> ((2 : Int32).toUInt32 &&& Int32.toUInt32 31)).toInt32 &&& 858993459)
def sB3 (x : Int32) : Int32 := (x + (x.toUInt32 >>> ((4 : Int32).toUInt32 &&& Int32.toUInt32 31)).toInt32) &&& 252645135
def sB4 (x : Int32) : Int32 := x + (x.toUInt32 >>> ((8 : Int32).toUInt32 &&& Int32.toUInt32 31)).toInt32
def sB5 (x : Int32) : Int32 := x + (x.toUInt32 >>> ((16 : Int32).toUInt32 &&& Int32.toUInt32 31)).toInt32
def sPop (x : Int32) : Int32 := sB5 (sB4 (sB3 (sB2 (sB1 x)))) &&& 63
set_option maxHeartbeats 4000000 in
set_option maxRecDepth 100000 in
theorem c_bitCount {hp : mHp} (d : Nat) (x : Int32) : mCall (d) yJ6_bitCount_0f7a4 MJ6_bitCount_0f7a4 [.int x] (hp) (some (.int (sPop x))) (hp) := by
  refine mCall_of sJ6_bitCount_0f7a4.1 (Nat.le_of_ble_eq_true rfl) ⟨_, rfl, rfl⟩ ?_
  show mGo _ _ (0, [some (.int x)], [], _) _
  refine g_iload_n dJ6_bitCount_0f7a4_0 rfl ?_
  refine g_iload_n dJ6_bitCount_0f7a4_1 rfl ?_
  refine g_iconstv (v := 1) dJ6_bitCount_0f7a4_2 rfl ?_
  refine g_iushr dJ6_bitCount_0f7a4_3 ?_
  refine g_ldcw dJ6_bitCount_0f7a4_4 kc_J6_265 ?_
  refine g_iand dJ6_bitCount_0f7a4_7 ?_
  refine g_isub dJ6_bitCount_0f7a4_8 ?_
  refine g_topi (fun x1 e1 => ?_)
  refine g_istore_n dJ6_bitCount_0f7a4_9 (by decide) rfl ?_
  refine g_iload_n dJ6_bitCount_0f7a4_10 rfl ?_
  refine g_ldcw dJ6_bitCount_0f7a4_11 kc_J6_266 ?_
  refine g_iand dJ6_bitCount_0f7a4_14 ?_
  refine g_iload_n dJ6_bitCount_0f7a4_15 rfl ?_
  refine g_iconstv (v := 2) dJ6_bitCount_0f7a4_16 rfl ?_
  refine g_iushr dJ6_bitCount_0f7a4_17 ?_
  refine g_ldcw dJ6_bitCount_0f7a4_18 kc_J6_266 ?_
  refine g_iand dJ6_bitCount_0f7a4_21 ?_
  refine g_iadd dJ6_bitCount_0f7a4_22 ?_
  refine g_topi (fun x2 e2 => ?_)
  refine g_istore_n dJ6_bitCount_0f7a4_23 (by decide) rfl ?_
  refine g_iload_n dJ6_bitCount_0f7a4_24 rfl ?_
  refine g_iload_n dJ6_bitCount_0f7a4_25 rfl ?_
  refine g_iconstv (v := 4) dJ6_bitCount_0f7a4_26 rfl ?_
  refine g_iushr dJ6_bitCount_0f7a4_27 ?_
  refine g_iadd dJ6_bitCount_0f7a4_28 ?_
  refine g_ldcw dJ6_bitCount_0f7a4_29 kc_J6_267 ?_
  refine g_iand dJ6_bitCount_0f7a4_32 ?_
  refine g_topi (fun x3 e3 => ?_)
  refine g_istore_n dJ6_bitCount_0f7a4_33 (by decide) rfl ?_
  refine g_iload_n dJ6_bitCount_0f7a4_34 rfl ?_
  refine g_iload_n dJ6_bitCount_0f7a4_35 rfl ?_
  refine g_bipushv (v := 8) dJ6_bitCount_0f7a4_36 rfl ?_
  refine g_iushr dJ6_bitCount_0f7a4_38 ?_
  refine g_iadd dJ6_bitCount_0f7a4_39 ?_
  refine g_topi (fun x4 e4 => ?_)
  refine g_istore_n dJ6_bitCount_0f7a4_40 (by decide) rfl ?_
  refine g_iload_n dJ6_bitCount_0f7a4_41 rfl ?_
  refine g_iload_n dJ6_bitCount_0f7a4_42 rfl ?_
  refine g_bipushv (v := 16) dJ6_bitCount_0f7a4_43 rfl ?_
  refine g_iushr dJ6_bitCount_0f7a4_45 ?_
  refine g_iadd dJ6_bitCount_0f7a4_46 ?_
  refine g_topi (fun x5 e5 => ?_)
  refine g_istore_n dJ6_bitCount_0f7a4_47 (by decide) rfl ?_
  refine g_iload_n dJ6_bitCount_0f7a4_48 rfl ?_
  refine g_bipushv (v := 63) dJ6_bitCount_0f7a4_49 rfl ?_
  refine g_iand dJ6_bitCount_0f7a4_51 ?_
  exact g_iret dJ6_bitCount_0f7a4_52 (m_ret (by rw [e5, e4, e3, e2, e1]; rfl))
def xTell (F : Nat → Nat → Int32) (h : Nat) (t s m w : Int32) : Nat → Nat → Int32 := (pe (pe (pe (pe (pe (pe (pe (cpB F 18 18 0 5 45) 18 0 (nI h)) 18 1 t) 18 2 s) 18 3 m) 18 4 w) 14 4 (if 10 < (((pe (pe (pe (pe (pe (cpB F 18 18 0 5 45) 18 0 (nI h)) 18 1 t) 18 2 s) 18 3 m) 18 4 w) 14 4) + 1) then 10 else (((pe (pe (pe (pe (pe (cpB F 18 18 0 5 45) 18 0 (nI h)) 18 1 t) 18 2 s) 18 3 m) 18 4 w) 14 4) + 1))) 17 h (((pe (pe (pe (pe (pe (pe (cpB F 18 18 0 5 45) 18 0 (nI h)) 18 1 t) 18 2 s) 18 3 m) 18 4 w) 14 4 (if 10 < (((pe (pe (pe (pe (pe (cpB F 18 18 0 5 45) 18 0 (nI h)) 18 1 t) 18 2 s) 18 3 m) 18 4 w) 14 4) + 1) then 10 else (((pe (pe (pe (pe (pe (cpB F 18 18 0 5 45) 18 0 (nI h)) 18 1 t) 18 2 s) 18 3 m) 18 4 w) 14 4) + 1))) 17 h) + 1))
set_option maxHeartbeats 4000000 in
set_option maxRecDepth 100000 in
theorem c_tellEnd {L : Nat} {F : Nat → Nat → Int32} {g : Nat → Option Nat} (d : Nat) (h : Nat) (hh : h < 3) (t s m w : Int32) : mCall (d + 1) yX2_tellEnd MX2_tellEnd [.ref 14, .int (nI h), .int t, .int s, .int m, .int w] (mHX L F g) (none) (mHX L (xTell F h t s m w) g) := by
  refine mCall_of sX2_tellEnd.1 (Nat.le_of_ble_eq_true rfl) rfl ?_
  show mGo _ _ (0, [some (.ref 14), some (.int (nI h)), some (.int t), some (.int s), some (.int m), some (.int w)], [], _) _
  refine g_aload_n dX2_tellEnd_0 rfl ?_
  refine g_gR (r := 18) dX2_tellEnd_1 fl_X2_21 (fun _ _ => rfl) rfl (by decide) rfl ?_
  refine g_iconstv (v := 0) dX2_tellEnd_4 rfl ?_
  refine g_aload_n dX2_tellEnd_5 rfl ?_
  refine g_gR (r := 18) dX2_tellEnd_6 fl_X2_21 (fun _ _ => rfl) rfl (by decide) rfl ?_
  refine g_iconstv (v := 5) dX2_tellEnd_9 rfl ?_
  refine g_aload_n dX2_tellEnd_10 rfl ?_
  refine g_gR (r := 18) dX2_tellEnd_11 fl_X2_21 (fun _ _ => rfl) rfl (by decide) rfl ?_
  refine g_alen dX2_tellEnd_14 rfl (by decide) (by decide) ?_
  refine g_iconstv (v := 5) dX2_tellEnd_15 rfl ?_
  refine g_isub dX2_tellEnd_16 ?_
  refine g_copyN 0 5 45 dX2_tellEnd_17 ml_X2_28 rfl rfl (by decide) (by decide) rfl rfl rfl (by decide) (by decide) (by decide) (by decide) (Nat.le_of_ble_eq_true rfl) ?_
  refine g_aload_n dX2_tellEnd_20 rfl ?_
  refine g_gR (r := 18) dX2_tellEnd_21 fl_X2_21 (fun _ _ => rfl) rfl (by decide) rfl ?_
  refine g_iconstv (v := 0) dX2_tellEnd_24 rfl ?_
  refine g_iload_n dX2_tellEnd_25 rfl ?_
  refine g_iastN (gx := 0) dX2_tellEnd_26 rfl (by decide) rfl (by omega) (by decide) ?_
  refine g_aload_n dX2_tellEnd_27 rfl ?_
  refine g_gR (r := 18) dX2_tellEnd_28 fl_X2_21 (fun _ _ => rfl) rfl (by decide) rfl ?_
  refine g_iconstv (v := 1) dX2_tellEnd_31 rfl ?_
  refine g_iload_n dX2_tellEnd_32 rfl ?_
  refine g_iastN (gx := 1) dX2_tellEnd_33 rfl (by decide) rfl (by omega) (by decide) ?_
  refine g_aload_n dX2_tellEnd_34 rfl ?_
  refine g_gR (r := 18) dX2_tellEnd_35 fl_X2_21 (fun _ _ => rfl) rfl (by decide) rfl ?_
  refine g_iconstv (v := 2) dX2_tellEnd_38 rfl ?_
  refine g_iload_n dX2_tellEnd_39 rfl ?_
  refine g_iastN (gx := 2) dX2_tellEnd_40 rfl (by decide) rfl (by omega) (by decide) ?_
  refine g_aload_n dX2_tellEnd_41 rfl ?_
  refine g_gR (r := 18) dX2_tellEnd_42 fl_X2_21 (fun _ _ => rfl) rfl (by decide) rfl ?_
  refine g_iconstv (v := 3) dX2_tellEnd_45 rfl ?_
  refine g_iload dX2_tellEnd_46 rfl ?_
  refine g_iastN (gx := 3) dX2_tellEnd_48 rfl (by decide) rfl (by omega) (by decide) ?_
  refine g_aload_n dX2_tellEnd_49 rfl ?_
  refine g_gR (r := 18) dX2_tellEnd_50 fl_X2_21 (fun _ _ => rfl) rfl (by decide) rfl ?_
  refine g_iconstv (v := 4) dX2_tellEnd_53 rfl ?_
  refine g_iload dX2_tellEnd_54 rfl ?_
  refine g_iastN (gx := 4) dX2_tellEnd_56 rfl (by decide) rfl (by omega) (by decide) ?_
  refine g_aload_n dX2_tellEnd_57 rfl ?_
  refine g_aload_n dX2_tellEnd_58 rfl ?_
  refine g_gI dX2_tellEnd_59 fl_X2_24 (fun _ _ => rfl) rfl (by decide) ?_
  refine g_iconstv (v := 1) dX2_tellEnd_62 rfl ?_
  refine g_iadd dX2_tellEnd_63 ?_
  refine g_bipushv (v := 10) dX2_tellEnd_64 rfl ?_
  refine g_min dX2_tellEnd_66 ml_X2_40 wm_min_stat wm_ini wm_min_code (Nat.le_of_ble_eq_true rfl) ?_
  refine g_pI dX2_tellEnd_69 fl_X2_24 (Or.inl rfl) rfl (by decide) rfl ?_
  refine g_aload_n dX2_tellEnd_72 rfl ?_
  refine g_gR (r := 17) dX2_tellEnd_73 fl_X2_18 (fun _ _ => rfl) rfl (by decide) rfl ?_
  refine g_iload_n dX2_tellEnd_76 rfl ?_
  refine g_dup2 dX2_tellEnd_77 rfl rfl ?_
  refine g_ialdN (gx := h) dX2_tellEnd_78 rfl (by decide) rfl (by omega) (by decide) ?_
  refine g_iconstv (v := 1) dX2_tellEnd_79 rfl ?_
  refine g_iadd dX2_tellEnd_80 ?_
  refine g_iastN (gx := h) dX2_tellEnd_81 rfl (by decide) rfl (by omega) (by decide) ?_
  exact g_vret dX2_tellEnd_82 rfl
def xEnter (F : Nat → Nat → Int32) (m : Nat) (s : Int32) : Nat → Nat → Int32 := (pe (pe F 15 m ((F 15 m) + 1)) 16 m (if ((pe F 15 m ((F 15 m) + 1)) 16 m) < s then s else ((pe F 15 m ((F 15 m) + 1)) 16 m)))
set_option maxHeartbeats 4000000 in
set_option maxRecDepth 100000 in
theorem c_enter {L : Nat} {F : Nat → Nat → Int32} {g : Nat → Option Nat} (d : Nat) (m : Nat) (h1 : 1 ≤ m) (h11 : m ≤ 11) (s : Int32) : mCall (d + 1) yX2_enterMeaning MX2_enterMeaning [.ref 14, .int (nI m), .int s] (mHX L F g) (none) (mHX L (xEnter F m s) g) := by
  refine mCall_of sX2_enterMeaning.1 (Nat.le_of_ble_eq_true rfl) rfl ?_
  show mGo _ _ (0, [some (.ref 14), some (.int (nI m)), some (.int s)], [], _) _
  refine g_iload_n dX2_enterMeaning_0 rfl ?_
  refine g_iconstv (v := 1) dX2_enterMeaning_1 rfl ?_
  refine g_icmp_lt (tgt := 11) dX2_enterMeaning_2 (by decide) (fun c2 => absurd c2 (nI_nlt (a := m) (b := 1) (by omega) (by omega))) (fun c2 => ?_)
  refine g_iload_n dX2_enterMeaning_5 rfl ?_
  refine g_bipushv (v := 11) dX2_enterMeaning_6 rfl ?_
  refine g_icmp_le (tgt := 12) dX2_enterMeaning_8 (by decide) (fun c8 => ?_) (fun c8 => absurd (nI_le (a := m) (b := 11) (by omega) (by omega)) c8)
  refine g_aload_n dX2_enterMeaning_12 rfl ?_
  refine g_gR (r := 15) dX2_enterMeaning_13 fl_X2_9 (fun _ _ => rfl) rfl (by decide) rfl ?_
  refine g_iload_n dX2_enterMeaning_16 rfl ?_
  refine g_dup2 dX2_enterMeaning_17 rfl rfl ?_
  refine g_ialdN (gx := m) dX2_enterMeaning_18 rfl (by decide) rfl (by omega) (by decide) ?_
  refine g_iconstv (v := 1) dX2_enterMeaning_19 rfl ?_
  refine g_iadd dX2_enterMeaning_20 ?_
  refine g_iastN (gx := m) dX2_enterMeaning_21 rfl (by decide) rfl (by omega) (by decide) ?_
  refine g_aload_n dX2_enterMeaning_22 rfl ?_
  refine g_gR (r := 16) dX2_enterMeaning_23 fl_X2_15 (fun _ _ => rfl) rfl (by decide) rfl ?_
  refine g_iload_n dX2_enterMeaning_26 rfl ?_
  refine g_aload_n dX2_enterMeaning_27 rfl ?_
  refine g_gR (r := 16) dX2_enterMeaning_28 fl_X2_15 (fun _ _ => rfl) rfl (by decide) rfl ?_
  refine g_iload_n dX2_enterMeaning_31 rfl ?_
  refine g_ialdN (gx := m) dX2_enterMeaning_32 rfl (by decide) rfl (by omega) (by decide) ?_
  refine g_iload_n dX2_enterMeaning_33 rfl ?_
  refine g_max dX2_enterMeaning_34 ml_X2_34 wm_max_stat wm_ini wm_max_code (Nat.le_of_ble_eq_true rfl) ?_
  refine g_iastN (gx := m) dX2_enterMeaning_37 rfl (by decide) rfl (by omega) (by decide) ?_
  exact g_vret dX2_enterMeaning_38 rfl
set_option maxHeartbeats 4000000 in
set_option maxRecDepth 100000 in
theorem c_enter0 {L : Nat} {F : Nat → Nat → Int32} {g : Nat → Option Nat} (d : Nat) (s : Int32) : mCall (d) yX2_enterMeaning MX2_enterMeaning [.ref 14, .int 0, .int s] (mHX L F g) (none) (mHX L F g) := by
  refine mCall_of sX2_enterMeaning.1 (Nat.le_of_ble_eq_true rfl) rfl ?_
  show mGo _ _ (0, [some (.ref 14), some (.int 0), some (.int s)], [], _) _
  refine g_iload_n dX2_enterMeaning_0 rfl ?_
  refine g_iconstv (v := 1) dX2_enterMeaning_1 rfl ?_
  refine g_icmp_lt (tgt := 11) dX2_enterMeaning_2 (by decide) (fun c2 => ?_) (fun c2 => absurd (by decide) c2)
  exact g_vret dX2_enterMeaning_11 rfl
def sMeantF (o : Nat → Int32) (a : Int32) (k : Nat) : Int32 := if o (k + 1) ≤ 0 then a else a ||| ((1 : Int32) <<< (nI (k + 1) &&& 31))
def sMeant (o : Nat → Int32) : Int32 := mfold (sMeantF o) 0 11
def sMostF (o : Nat → Int32) (a : Int32 × Int32) (k : Nat) : Int32 × Int32 := if o (k + 1) ≤ a.2 then a else (nI (k + 1), o (k + 1))
def sMost (o : Nat → Int32) : Int32 := (mfold (sMostF o) (-6, 0) 11).1
set_option maxHeartbeats 4000000 in
set_option maxRecDepth 100000 in
theorem lp_setOfMeant {L : Nat} {F : Nat → Nat → Int32} {g : Nat → Option Nat} (d : Nat) : ∀ (m k : Nat) (a : Int32), k + m = 11 → a = mfold (sMeantF (F 15)) 0 k → mGo MX2_setOfMeant (d) (4, [some (.ref 14), some (.int a), some (.int (nI (k + 1)))], [], mHX L F g) (some (.int (sMeant (F 15))), mHX L F g) := by
  intro m
  induction m with
  | zero =>
    intro k a hk ea
    obtain rfl : k = 11 := by omega
    refine g_iload_n dX2_setOfMeant_4 rfl ?_
    refine g_bipushv (v := 11) dX2_setOfMeant_5 rfl ?_
    refine g_icmp_gt (tgt := 31) dX2_setOfMeant_7 (by decide) (fun c7 => ?_) (fun c7 => absurd (nI_lt (a := 11) (b := 11 + 1) (by omega) (by omega)) c7)
    refine g_iload_n dX2_setOfMeant_31 rfl ?_
    exact g_iret dX2_setOfMeant_32 (m_ret ea.symm)
  | succ m ih =>
    intro k a hk ea
    refine g_iload_n dX2_setOfMeant_4 rfl ?_
    refine g_bipushv (v := 11) dX2_setOfMeant_5 rfl ?_
    refine g_icmp_gt (tgt := 31) dX2_setOfMeant_7 (by decide) (fun c7 => absurd c7 (nI_nlt (a := 11) (b := k + 1) (by omega) (by omega))) (fun c7 => ?_)
    refine g_aload_n dX2_setOfMeant_10 rfl ?_
    refine g_gR (r := 15) dX2_setOfMeant_11 fl_X2_9 (fun _ _ => rfl) rfl (by decide) rfl ?_
    refine g_iload_n dX2_setOfMeant_14 rfl ?_
    refine g_ialdN (gx := (k + 1)) dX2_setOfMeant_15 rfl (by decide) rfl (by omega) (by decide) ?_
    refine g_if_le (tgt := 25) dX2_setOfMeant_16 (by decide) (fun c16 => ?_) (fun c16 => ?_)
    · skip
      refine g_iincN dX2_setOfMeant_25 rfl (by decide) rfl ?_
      refine g_goto (tgt := 4) dX2_setOfMeant_28 (by decide) ?_
      exact ih (k + 1) _ (by omega) (by subst ea; rw [mfold_succ]; simp only [sMeantF, c16, if_true, if_false, reduceIte, eq_self])
    · skip
      refine g_iload_n dX2_setOfMeant_19 rfl ?_
      refine g_iconstv (v := 1) dX2_setOfMeant_20 rfl ?_
      refine g_iload_n dX2_setOfMeant_21 rfl ?_
      refine g_ishl dX2_setOfMeant_22 ?_
      refine g_ior dX2_setOfMeant_23 ?_
      refine g_istore_n dX2_setOfMeant_24 (by decide) rfl ?_
      refine g_iincN dX2_setOfMeant_25 rfl (by decide) rfl ?_
      refine g_goto (tgt := 4) dX2_setOfMeant_28 (by decide) ?_
      exact ih (k + 1) _ (by omega) (by subst ea; rw [mfold_succ]; simp only [sMeantF, c16, if_true, if_false, reduceIte, eq_self])
set_option maxHeartbeats 4000000 in
set_option maxRecDepth 100000 in
theorem c_setOfMeant {L : Nat} {F : Nat → Nat → Int32} {g : Nat → Option Nat} (d : Nat) : mCall (d) yX2_setOfMeant MX2_setOfMeant [.ref 14] (mHX L F g) (some (.int (sMeant (F 15)))) (mHX L F g) := by
  refine mCall_of sX2_setOfMeant.1 (Nat.le_of_ble_eq_true rfl) ⟨_, rfl, rfl⟩ ?_
  show mGo _ _ (0, [some (.ref 14), none, none], [], _) _
  refine g_iconstv (v := 0) dX2_setOfMeant_0 rfl ?_
  refine g_istore_n dX2_setOfMeant_1 (by decide) rfl ?_
  refine g_iconstv (v := 1) dX2_setOfMeant_2 rfl ?_
  refine g_istore_n dX2_setOfMeant_3 (by decide) rfl ?_
  exact lp_setOfMeant d 11 0 _ rfl rfl
set_option maxHeartbeats 4000000 in
set_option maxRecDepth 100000 in
theorem lp_mostMeant {L : Nat} {F : Nat → Nat → Int32} {g : Nat → Option Nat} (d : Nat) : ∀ (m k : Nat) (a : Int32) (b : Int32), k + m = 11 → a = (mfold (sMostF (F 15)) (-6, 0) k).1 → b = (mfold (sMostF (F 15)) (-6, 0) k).2 → mGo MX2_mostMeant (d) (7, [some (.ref 14), some (.int a), some (.int b), some (.int (nI (k + 1)))], [], mHX L F g) (some (.int (sMost (F 15))), mHX L F g) := by
  intro m
  induction m with
  | zero =>
    intro k a b hk ea eb
    obtain rfl : k = 11 := by omega
    refine g_iload_n dX2_mostMeant_7 rfl ?_
    refine g_bipushv (v := 11) dX2_mostMeant_8 rfl ?_
    refine g_icmp_gt (tgt := 38) dX2_mostMeant_10 (by decide) (fun c10 => ?_) (fun c10 => absurd (nI_lt (a := 11) (b := 11 + 1) (by omega) (by omega)) c10)
    refine g_iload_n dX2_mostMeant_38 rfl ?_
    exact g_iret dX2_mostMeant_39 (m_ret ea.symm)
  | succ m ih =>
    intro k a b hk ea eb
    refine g_iload_n dX2_mostMeant_7 rfl ?_
    refine g_bipushv (v := 11) dX2_mostMeant_8 rfl ?_
    refine g_icmp_gt (tgt := 38) dX2_mostMeant_10 (by decide) (fun c10 => absurd c10 (nI_nlt (a := 11) (b := k + 1) (by omega) (by omega))) (fun c10 => ?_)
    refine g_aload_n dX2_mostMeant_13 rfl ?_
    refine g_gR (r := 15) dX2_mostMeant_14 fl_X2_9 (fun _ _ => rfl) rfl (by decide) rfl ?_
    refine g_iload_n dX2_mostMeant_17 rfl ?_
    refine g_ialdN (gx := (k + 1)) dX2_mostMeant_18 rfl (by decide) rfl (by omega) (by decide) ?_
    refine g_iload_n dX2_mostMeant_19 rfl ?_
    refine g_icmp_le (tgt := 32) dX2_mostMeant_20 (by decide) (fun c20 => ?_) (fun c20 => ?_)
    · skip
      refine g_iincN dX2_mostMeant_32 rfl (by decide) rfl ?_
      refine g_goto (tgt := 7) dX2_mostMeant_35 (by decide) ?_
      exact ih (k + 1) _ _ (by omega) (by subst ea; subst eb; rw [mfold_succ]; simp only [sMostF, c20, if_true, if_false, reduceIte, eq_self]) (by subst ea; subst eb; rw [mfold_succ]; simp only [sMostF, c20, if_true, if_false, reduceIte, eq_self])
    · skip
      refine g_iload_n dX2_mostMeant_23 rfl ?_
      refine g_istore_n dX2_mostMeant_24 (by decide) rfl ?_
      refine g_aload_n dX2_mostMeant_25 rfl ?_
      refine g_gR (r := 15) dX2_mostMeant_26 fl_X2_9 (fun _ _ => rfl) rfl (by decide) rfl ?_
      refine g_iload_n dX2_mostMeant_29 rfl ?_
      refine g_ialdN (gx := (k + 1)) dX2_mostMeant_30 rfl (by decide) rfl (by omega) (by decide) ?_
      refine g_istore_n dX2_mostMeant_31 (by decide) rfl ?_
      refine g_iincN dX2_mostMeant_32 rfl (by decide) rfl ?_
      refine g_goto (tgt := 7) dX2_mostMeant_35 (by decide) ?_
      exact ih (k + 1) _ _ (by omega) (by subst ea; subst eb; rw [mfold_succ]; simp only [sMostF, c20, if_true, if_false, reduceIte, eq_self]) (by subst ea; subst eb; rw [mfold_succ]; simp only [sMostF, c20, if_true, if_false, reduceIte, eq_self])
set_option maxHeartbeats 4000000 in
set_option maxRecDepth 100000 in
theorem c_mostMeant {L : Nat} {F : Nat → Nat → Int32} {g : Nat → Option Nat} (d : Nat) : mCall (d) yX2_mostMeant MX2_mostMeant [.ref 14] (mHX L F g) (some (.int (sMost (F 15)))) (mHX L F g) := by
  refine mCall_of sX2_mostMeant.1 (Nat.le_of_ble_eq_true rfl) ⟨_, rfl, rfl⟩ ?_
  show mGo _ _ (0, [some (.ref 14), none, none, none], [], _) _
  refine g_bipushv (v := (-6)) dX2_mostMeant_0 rfl ?_
  refine g_istore_n dX2_mostMeant_2 (by decide) rfl ?_
  refine g_iconstv (v := 0) dX2_mostMeant_3 rfl ?_
  refine g_istore_n dX2_mostMeant_4 (by decide) rfl ?_
  refine g_iconstv (v := 1) dX2_mostMeant_5 rfl ?_
  refine g_istore_n dX2_mostMeant_6 (by decide) rfl ?_
  exact lp_mostMeant d 11 0 _ _ rfl rfl rfl
end
section
def mFS (j : Nat) : Int32 := ([3, 4, 2, 1] : List Int32).getD j 0
def mHS (j : Nat) : Int32 := ([20, 20, 9, 9] : List Int32).getD j 0
def mMB (j : Nat) : Int32 := ([0, 0, 0, 0, 1, 1, 2, 2, 3, 4, 5, 5, 6, 7, 7, 8, 9, 9, 10, 11] : List Int32).getD j 0
def sBeg (S : Nat → Int32) (x : Int32) : Int32 := S 0 + x * S 1
def sShade (S : Nat → Int32) (s : Int32) : Nat := if s < sBeg S 3 then (if s < sBeg S 2 then (if s < sBeg S 1 then 0 else 1) else 2) else 3
def sMean (S : Nat → Int32) (c : Nat) (s : Int32) : Int32 := if S 0 ≤ s then mMB (c * 4 + sShade S s) else 0
theorem sShade_le (S : Nat → Int32) (s : Int32) : sShade S s ≤ 3 := by
  unfold sShade
  repeat' split
  all_goals omega
theorem m_ix (c : Nat) (k : Nat) : nI c * 4 + nI k = nI (c * 4 + k) := by
  rw [show (4 : Int32) = nI 4 from rfl, pk_mul, nI_add]
set_option maxHeartbeats 4000000 in
set_option maxRecDepth 100000 in
theorem c_begShade {L : Nat} {F : Nat → Nat → Int32} {g : Nat → Option Nat} (d : Nat) (x : Int32) : mCall (d) yX4_beginOfShade MX4_beginOfShade [.ref 5, .int x] (mHX L F g) (some (.int (sBeg (F 6) x))) (mHX L F g) := by
  refine mCall_of sX4_beginOfShade.1 (Nat.le_of_ble_eq_true rfl) ⟨_, rfl, rfl⟩ ?_
  show mGo _ _ (0, [some (.ref 5), some (.int x)], [], _) _
  refine g_aload_n dX4_beginOfShade_0 rfl ?_
  refine g_gR (r := 6) dX4_beginOfShade_1 fl_X4_24 (fun _ _ => rfl) rfl (by decide) rfl ?_
  refine g_iconstv (v := 0) dX4_beginOfShade_4 rfl ?_
  refine g_ialdN (gx := 0) dX4_beginOfShade_5 rfl (by decide) rfl (by omega) (by decide) ?_
  refine g_iload_n dX4_beginOfShade_6 rfl ?_
  refine g_aload_n dX4_beginOfShade_7 rfl ?_
  refine g_gR (r := 6) dX4_beginOfShade_8 fl_X4_24 (fun _ _ => rfl) rfl (by decide) rfl ?_
  refine g_iconstv (v := 1) dX4_beginOfShade_11 rfl ?_
  refine g_ialdN (gx := 1) dX4_beginOfShade_12 rfl (by decide) rfl (by omega) (by decide) ?_
  refine g_imul dX4_beginOfShade_13 ?_
  refine g_iadd dX4_beginOfShade_14 ?_
  exact g_iret dX4_beginOfShade_15 rfl
set_option maxHeartbeats 4000000 in
set_option maxRecDepth 100000 in
theorem lp_mf4 {L : Nat} {F : Nat → Nat → Int32} {g : Nat → Option Nat} (d : Nat) (c : Nat) (hc : c ≤ 4) (h3 : F 3 = mMB) (s : Int32) (k : Nat) (hk : k ≤ 3) : mGo MX4_meaningFor (d + 1) (17, [some (.ref 5), some (.int (nI c)), some (.int s), some (.int (nI k)), some (.int 4)], [], mHX L F g) (some (.int (mMB (c * 4 + k))), mHX L F g) := by
  refine g_iload dX4_meaningFor_17 rfl ?_
  refine g_iconstv (v := 4) dX4_meaningFor_19 rfl ?_
  refine g_icmp_ge (tgt := 42) dX4_meaningFor_20 (by decide) (fun c20 => ?_) (fun c20 => absurd (by decide) c20)
  refine g_gets (j := 2) dX4_meaningFor_42 sl_X4_136 (by decide) ?_
  refine g_iload_n dX4_meaningFor_45 rfl ?_
  refine g_iconstv (v := 4) dX4_meaningFor_46 rfl ?_
  refine g_imul dX4_meaningFor_47 ?_
  refine g_iload_n dX4_meaningFor_48 rfl ?_
  refine g_iadd dX4_meaningFor_49 ?_
  refine g_saldN (gx := (c * 4 + k)) dX4_meaningFor_50 rfl (by decide) (m_ix c k) (by omega) (by decide) ?_
  exact g_iret dX4_meaningFor_51 (m_ret (by show mMB _ = F 3 _; rw [h3]))
set_option maxHeartbeats 4000000 in
set_option maxRecDepth 100000 in
theorem lp_mf3 {L : Nat} {F : Nat → Nat → Int32} {g : Nat → Option Nat} (d : Nat) (c : Nat) (hc : c ≤ 4) (h3 : F 3 = mMB) (s : Int32) (k : Nat) (hk : k ≤ 3) : mGo MX4_meaningFor (d + 1) (17, [some (.ref 5), some (.int (nI c)), some (.int s), some (.int (nI k)), some (.int 3)], [], mHX L F g) (some (.int (mMB (c * 4 + (if s < sBeg (F 6) 3 then k else 3)))), mHX L F g) := by
  refine g_iload dX4_meaningFor_17 rfl ?_
  refine g_iconstv (v := 4) dX4_meaningFor_19 rfl ?_
  refine g_icmp_ge (tgt := 42) dX4_meaningFor_20 (by decide) (fun c20 => absurd c20 (by decide)) (fun c20 => ?_)
  refine g_iload_n dX4_meaningFor_23 rfl ?_
  refine g_aload_n dX4_meaningFor_24 rfl ?_
  refine g_iload dX4_meaningFor_25 rfl ?_
  refine g_V1i dX4_meaningFor_27 ml_X4_133 sX4_beginOfShade rfl (by decide) (Nat.le_of_ble_eq_true rfl) (c_begShade d 3) ?_
  refine g_icmp_lt (tgt := 36) dX4_meaningFor_30 (by decide) (fun c30 => ?_) (fun c30 => ?_)
  · skip
    refine g_iincv (v := 4) dX4_meaningFor_36 rfl rfl (by decide) rfl ?_
    refine g_goto (tgt := 17) dX4_meaningFor_39 (by decide) ?_
    have e9 := lp_mf4 (g := g) (L := L) d c hc h3 s k hk
    simp only [c30, if_true, if_false, reduceIte]
    exact e9
  · skip
    refine g_iload dX4_meaningFor_33 rfl ?_
    refine g_istore_n dX4_meaningFor_35 (by decide) rfl ?_
    refine g_iincv (v := 4) dX4_meaningFor_36 rfl rfl (by decide) rfl ?_
    refine g_goto (tgt := 17) dX4_meaningFor_39 (by decide) ?_
    have e9 := lp_mf4 (g := g) (L := L) d c hc h3 s 3 (by decide)
    simp only [c30, if_true, if_false, reduceIte]
    exact e9
set_option maxHeartbeats 4000000 in
set_option maxRecDepth 100000 in
theorem lp_mf2 {L : Nat} {F : Nat → Nat → Int32} {g : Nat → Option Nat} (d : Nat) (c : Nat) (hc : c ≤ 4) (h3 : F 3 = mMB) (s : Int32) (k : Nat) (hk : k ≤ 3) : mGo MX4_meaningFor (d + 1) (17, [some (.ref 5), some (.int (nI c)), some (.int s), some (.int (nI k)), some (.int 2)], [], mHX L F g) (some (.int (mMB (c * 4 + (if s < sBeg (F 6) 3 then (if s < sBeg (F 6) 2 then k else 2) else 3)))), mHX L F g) := by
  refine g_iload dX4_meaningFor_17 rfl ?_
  refine g_iconstv (v := 4) dX4_meaningFor_19 rfl ?_
  refine g_icmp_ge (tgt := 42) dX4_meaningFor_20 (by decide) (fun c20 => absurd c20 (by decide)) (fun c20 => ?_)
  refine g_iload_n dX4_meaningFor_23 rfl ?_
  refine g_aload_n dX4_meaningFor_24 rfl ?_
  refine g_iload dX4_meaningFor_25 rfl ?_
  refine g_V1i dX4_meaningFor_27 ml_X4_133 sX4_beginOfShade rfl (by decide) (Nat.le_of_ble_eq_true rfl) (c_begShade d 2) ?_
  refine g_icmp_lt (tgt := 36) dX4_meaningFor_30 (by decide) (fun c30 => ?_) (fun c30 => ?_)
  · skip
    refine g_iincv (v := 3) dX4_meaningFor_36 rfl rfl (by decide) rfl ?_
    refine g_goto (tgt := 17) dX4_meaningFor_39 (by decide) ?_
    have e9 := lp_mf3 (g := g) (L := L) d c hc h3 s k hk
    simp only [c30, if_true, if_false, reduceIte]
    exact e9
  · skip
    refine g_iload dX4_meaningFor_33 rfl ?_
    refine g_istore_n dX4_meaningFor_35 (by decide) rfl ?_
    refine g_iincv (v := 3) dX4_meaningFor_36 rfl rfl (by decide) rfl ?_
    refine g_goto (tgt := 17) dX4_meaningFor_39 (by decide) ?_
    have e9 := lp_mf3 (g := g) (L := L) d c hc h3 s 2 (by decide)
    simp only [c30, if_true, if_false, reduceIte]
    exact e9
set_option maxHeartbeats 4000000 in
set_option maxRecDepth 100000 in
theorem lp_mf1 {L : Nat} {F : Nat → Nat → Int32} {g : Nat → Option Nat} (d : Nat) (c : Nat) (hc : c ≤ 4) (h3 : F 3 = mMB) (s : Int32) (k : Nat) (hk : k ≤ 3) : mGo MX4_meaningFor (d + 1) (17, [some (.ref 5), some (.int (nI c)), some (.int s), some (.int (nI k)), some (.int 1)], [], mHX L F g) (some (.int (mMB (c * 4 + (if s < sBeg (F 6) 3 then (if s < sBeg (F 6) 2 then (if s < sBeg (F 6) 1 then k else 1) else 2) else 3)))), mHX L F g) := by
  refine g_iload dX4_meaningFor_17 rfl ?_
  refine g_iconstv (v := 4) dX4_meaningFor_19 rfl ?_
  refine g_icmp_ge (tgt := 42) dX4_meaningFor_20 (by decide) (fun c20 => absurd c20 (by decide)) (fun c20 => ?_)
  refine g_iload_n dX4_meaningFor_23 rfl ?_
  refine g_aload_n dX4_meaningFor_24 rfl ?_
  refine g_iload dX4_meaningFor_25 rfl ?_
  refine g_V1i dX4_meaningFor_27 ml_X4_133 sX4_beginOfShade rfl (by decide) (Nat.le_of_ble_eq_true rfl) (c_begShade d 1) ?_
  refine g_icmp_lt (tgt := 36) dX4_meaningFor_30 (by decide) (fun c30 => ?_) (fun c30 => ?_)
  · skip
    refine g_iincv (v := 2) dX4_meaningFor_36 rfl rfl (by decide) rfl ?_
    refine g_goto (tgt := 17) dX4_meaningFor_39 (by decide) ?_
    have e9 := lp_mf2 (g := g) (L := L) d c hc h3 s k hk
    simp only [c30, if_true, if_false, reduceIte]
    exact e9
  · skip
    refine g_iload dX4_meaningFor_33 rfl ?_
    refine g_istore_n dX4_meaningFor_35 (by decide) rfl ?_
    refine g_iincv (v := 2) dX4_meaningFor_36 rfl rfl (by decide) rfl ?_
    refine g_goto (tgt := 17) dX4_meaningFor_39 (by decide) ?_
    have e9 := lp_mf2 (g := g) (L := L) d c hc h3 s 1 (by decide)
    simp only [c30, if_true, if_false, reduceIte]
    exact e9
set_option maxHeartbeats 4000000 in
set_option maxRecDepth 100000 in
theorem c_mf_lo {L : Nat} {F : Nat → Nat → Int32} {g : Nat → Option Nat} (d : Nat) (c : Nat) (hc : c ≤ 4) (h3 : F 3 = mMB) (s : Int32) (hs : ¬ F 6 0 ≤ s) : mCall (d + 1) yX4_meaningFor MX4_meaningFor [.ref 5, .int (nI c), .int s] (mHX L F g) (some (.int (sMean (F 6) c s))) (mHX L F g) := by
  refine mCall_of sX4_meaningFor.1 (Nat.le_of_ble_eq_true rfl) ⟨_, rfl, rfl⟩ ?_
  show mGo _ _ (0, [some (.ref 5), some (.int (nI c)), some (.int s), none, none], [], _) _
  refine g_iload_n dX4_meaningFor_0 rfl ?_
  refine g_aload_n dX4_meaningFor_1 rfl ?_
  refine g_gR (r := 6) dX4_meaningFor_2 fl_X4_24 (fun _ _ => rfl) rfl (by decide) rfl ?_
  refine g_iconstv (v := 0) dX4_meaningFor_5 rfl ?_
  refine g_ialdN (gx := 0) dX4_meaningFor_6 rfl (by decide) rfl (by omega) (by decide) ?_
  refine g_icmp_ge (tgt := 12) dX4_meaningFor_7 (by decide) (fun c7 => absurd c7 hs) (fun c7 => ?_)
  refine g_iconstv (v := 0) dX4_meaningFor_10 rfl ?_
  exact g_iret dX4_meaningFor_11 (m_ret (by simp only [sMean, hs, if_true, if_false, reduceIte, eq_self]))
set_option maxHeartbeats 4000000 in
set_option maxRecDepth 100000 in
theorem c_mf_hi {L : Nat} {F : Nat → Nat → Int32} {g : Nat → Option Nat} (d : Nat) (c : Nat) (hc : c ≤ 4) (h3 : F 3 = mMB) (s : Int32) (hs : F 6 0 ≤ s) : mCall (d + 1) yX4_meaningFor MX4_meaningFor [.ref 5, .int (nI c), .int s] (mHX L F g) (some (.int (sMean (F 6) c s))) (mHX L F g) := by
  refine mCall_of sX4_meaningFor.1 (Nat.le_of_ble_eq_true rfl) ⟨_, rfl, rfl⟩ ?_
  show mGo _ _ (0, [some (.ref 5), some (.int (nI c)), some (.int s), none, none], [], _) _
  have e0 : sMean (F 6) c s = mMB (c * 4 + sShade (F 6) s) := if_pos hs
  rw [e0]
  refine g_iload_n dX4_meaningFor_0 rfl ?_
  refine g_aload_n dX4_meaningFor_1 rfl ?_
  refine g_gR (r := 6) dX4_meaningFor_2 fl_X4_24 (fun _ _ => rfl) rfl (by decide) rfl ?_
  refine g_iconstv (v := 0) dX4_meaningFor_5 rfl ?_
  refine g_ialdN (gx := 0) dX4_meaningFor_6 rfl (by decide) rfl (by omega) (by decide) ?_
  refine g_icmp_ge (tgt := 12) dX4_meaningFor_7 (by decide) (fun c7 => ?_) (fun c7 => absurd hs c7)
  refine g_iconstv (v := 0) dX4_meaningFor_12 rfl ?_
  refine g_istore_n dX4_meaningFor_13 (by decide) rfl ?_
  refine g_iconstv (v := 1) dX4_meaningFor_14 rfl ?_
  refine g_istore dX4_meaningFor_15 (by decide) rfl ?_
  exact lp_mf1 d c hc h3 s 0 (by decide)
theorem c_meaningFor {L : Nat} {F : Nat → Nat → Int32} {g : Nat → Option Nat} (d : Nat) (c : Nat) (hc : c ≤ 4) (h3 : F 3 = mMB) (s : Int32) : mCall (d + 1) yX4_meaningFor MX4_meaningFor [.ref 5, .int (nI c), .int s] (mHX L F g) (some (.int (sMean (F 6) c s))) (mHX L F g) := by
  by_cases hs : F 6 0 ≤ s
  · exact c_mf_hi d c hc h3 s hs
  · exact c_mf_lo d c hc h3 s hs
set_option maxHeartbeats 4000000 in
set_option maxRecDepth 100000 in
theorem c_meaningNow {L : Nat} {F : Nat → Nat → Int32} {g : Nat → Option Nat} (d : Nat) (n : Nat) (hn : F 7 0 = nI n) (h10 : n ≤ 10) (h3 : F 3 = mMB) (t : Nat) (ht : t < 3) (ab : Int32) (c : Nat) (hc : c ≤ 4) (ec : sComp (F 8) (F 9) (nI t) ab n = nI c) : mCall (d + 2) yX4_meaningNow MX4_meaningNow [.ref 5, .int (nI t), .int ab] (mHX L F g) (some (.int (sMean (F 6) c (F 19 t)))) (mHX L F g) := by
  refine mCall_of sX4_meaningNow.1 (Nat.le_of_ble_eq_true rfl) ⟨_, rfl, rfl⟩ ?_
  show mGo _ _ (0, [some (.ref 5), some (.int (nI t)), some (.int ab)], [], _) _
  refine g_aload_n dX4_meaningNow_0 rfl ?_
  refine g_aload_n dX4_meaningNow_1 rfl ?_
  refine g_gR (r := 7) dX4_meaningNow_2 fl_X4_30 (fun _ _ => rfl) rfl (by decide) rfl ?_
  refine g_iload_n dX4_meaningNow_5 rfl ?_
  refine g_iload_n dX4_meaningNow_6 rfl ?_
  refine g_V2i dX4_meaningNow_7 ml_X4_90 sX0_companyOf rfl (by decide) (Nat.le_of_ble_eq_true rfl) (c_companyOf (d + 1) n hn h10 (nI t) ab) ?_
  rw [ec]
  refine g_aload_n dX4_meaningNow_10 rfl ?_
  refine g_gR (r := 19) dX4_meaningNow_11 fl_X4_41 (fun _ _ => rfl) rfl (by decide) rfl ?_
  refine g_iload_n dX4_meaningNow_14 rfl ?_
  refine g_ialdN (gx := t) dX4_meaningNow_15 rfl (by decide) rfl (by omega) (by decide) ?_
  refine g_V2i dX4_meaningNow_16 ml_X4_130 sX4_meaningFor rfl (by decide) (Nat.le_of_ble_eq_true rfl) (c_meaningFor d c hc h3 (F 19 t)) ?_
  exact g_iret dX4_meaningNow_19 rfl
set_option maxHeartbeats 4000000 in
set_option maxRecDepth 100000 in
theorem c_drop_0 {L : Nat} {F : Nat → Nat → Int32} {g : Nat → Option Nat} (d : Nat) (n : Nat) (hn : F 7 0 = nI n) (h10 : n ≤ 10) (t : Nat) (ht : t < 3) (h0 : sSet (F 8) (nI t) n = 0) : mCall (d + 1) yX4_dropPauseOfNobody MX4_dropPauseOfNobody [.ref 5, .int (nI t)] (mHX L F g) (none) (mHX L (pe F 19 t (-6)) g) := by
  refine mCall_of sX4_dropPauseOfNobody.1 (Nat.le_of_ble_eq_true rfl) rfl ?_
  show mGo _ _ (0, [some (.ref 5), some (.int (nI t))], [], _) _
  refine g_aload_n dX4_dropPauseOfNobody_0 rfl ?_
  refine g_gR (r := 7) dX4_dropPauseOfNobody_1 fl_X4_30 (fun _ _ => rfl) rfl (by decide) rfl ?_
  refine g_iload_n dX4_dropPauseOfNobody_4 rfl ?_
  refine g_V1i dX4_dropPauseOfNobody_5 ml_X4_81 sX0_setAt rfl (by decide) (Nat.le_of_ble_eq_true rfl) (c_setAt d n hn h10 (nI t)) ?_
  refine g_if_ne (tgt := 19) dX4_dropPauseOfNobody_8 (by decide) (fun c8 => absurd h0 c8) (fun c8 => ?_)
  refine g_aload_n dX4_dropPauseOfNobody_11 rfl ?_
  refine g_gR (r := 19) dX4_dropPauseOfNobody_12 fl_X4_41 (fun _ _ => rfl) rfl (by decide) rfl ?_
  refine g_iload_n dX4_dropPauseOfNobody_15 rfl ?_
  refine g_bipushv (v := (-6)) dX4_dropPauseOfNobody_16 rfl ?_
  refine g_iastN (gx := t) dX4_dropPauseOfNobody_18 rfl (by decide) rfl (by omega) (by decide) ?_
  exact g_vret dX4_dropPauseOfNobody_19 rfl
set_option maxHeartbeats 4000000 in
set_option maxRecDepth 100000 in
theorem c_drop_n {L : Nat} {F : Nat → Nat → Int32} {g : Nat → Option Nat} (d : Nat) (n : Nat) (hn : F 7 0 = nI n) (h10 : n ≤ 10) (t : Nat) (ht : t < 3) (h0 : ¬ sSet (F 8) (nI t) n = 0) : mCall (d + 1) yX4_dropPauseOfNobody MX4_dropPauseOfNobody [.ref 5, .int (nI t)] (mHX L F g) (none) (mHX L F g) := by
  refine mCall_of sX4_dropPauseOfNobody.1 (Nat.le_of_ble_eq_true rfl) rfl ?_
  show mGo _ _ (0, [some (.ref 5), some (.int (nI t))], [], _) _
  refine g_aload_n dX4_dropPauseOfNobody_0 rfl ?_
  refine g_gR (r := 7) dX4_dropPauseOfNobody_1 fl_X4_30 (fun _ _ => rfl) rfl (by decide) rfl ?_
  refine g_iload_n dX4_dropPauseOfNobody_4 rfl ?_
  refine g_V1i dX4_dropPauseOfNobody_5 ml_X4_81 sX0_setAt rfl (by decide) (Nat.le_of_ble_eq_true rfl) (c_setAt d n hn h10 (nI t)) ?_
  refine g_if_ne (tgt := 19) dX4_dropPauseOfNobody_8 (by decide) (fun c8 => ?_) (fun c8 => absurd c8 h0)
  exact g_vret dX4_dropPauseOfNobody_19 rfl
def xEnd (F : Nat → Nat → Int32) (h t : Nat) (m w : Int32) : Nat → Nat → Int32 := (pe (pe (xTell F h (nI t) (F 19 t) m w) 20 t (((xTell F h (nI t) (F 19 t) m w) 20 t) + 1)) 19 t (-6))
set_option maxHeartbeats 4000000 in
set_option maxRecDepth 100000 in
theorem c_endPause {L : Nat} {F : Nat → Nat → Int32} {g : Nat → Option Nat} (d : Nat) (h : Nat) (hh : h < 3) (t : Nat) (ht : t < 3) (m w : Int32) : mCall (d + 2) yX4_endPause MX4_endPause [.ref 5, .int (nI h), .int (nI t), .int m, .int w] (mHX L F g) (none) (mHX L (xEnd F h t m w) g) := by
  refine mCall_of sX4_endPause.1 (Nat.le_of_ble_eq_true rfl) rfl ?_
  show mGo _ _ (0, [some (.ref 5), some (.int (nI h)), some (.int (nI t)), some (.int m), some (.int w)], [], _) _
  refine g_aload_n dX4_endPause_0 rfl ?_
  refine g_gR (r := 14) dX4_endPause_1 fl_X4_37 (fun _ _ => rfl) rfl (by decide) rfl ?_
  refine g_iload_n dX4_endPause_4 rfl ?_
  refine g_iload_n dX4_endPause_5 rfl ?_
  refine g_aload_n dX4_endPause_6 rfl ?_
  refine g_gR (r := 19) dX4_endPause_7 fl_X4_41 (fun _ _ => rfl) rfl (by decide) rfl ?_
  refine g_iload_n dX4_endPause_10 rfl ?_
  refine g_ialdN (gx := t) dX4_endPause_11 rfl (by decide) rfl (by omega) (by decide) ?_
  refine g_iload_n dX4_endPause_12 rfl ?_
  refine g_iload dX4_endPause_13 rfl ?_
  refine g_V5v dX4_endPause_15 ml_X4_126 sX2_tellEnd rfl (by decide) (Nat.le_of_ble_eq_true rfl) (c_tellEnd d h hh (nI t) (F 19 t) m w) ?_
  refine g_aload_n dX4_endPause_18 rfl ?_
  refine g_gR (r := 20) dX4_endPause_19 fl_X4_44 (fun _ _ => rfl) rfl (by decide) rfl ?_
  refine g_iload_n dX4_endPause_22 rfl ?_
  refine g_dup2 dX4_endPause_23 rfl rfl ?_
  refine g_ialdN (gx := t) dX4_endPause_24 rfl (by decide) rfl (by omega) (by decide) ?_
  refine g_iconstv (v := 1) dX4_endPause_25 rfl ?_
  refine g_iadd dX4_endPause_26 ?_
  refine g_iastN (gx := t) dX4_endPause_27 rfl (by decide) rfl (by omega) (by decide) ?_
  refine g_aload_n dX4_endPause_28 rfl ?_
  refine g_gR (r := 19) dX4_endPause_29 fl_X4_41 (fun _ _ => rfl) rfl (by decide) rfl ?_
  refine g_iload_n dX4_endPause_32 rfl ?_
  refine g_bipushv (v := (-6)) dX4_endPause_33 rfl ?_
  refine g_iastN (gx := t) dX4_endPause_35 rfl (by decide) rfl (by omega) (by decide) ?_
  exact g_vret dX4_endPause_36 rfl
end
section
theorem m_ne6 {t : Nat} (h : t < 2 ^ 31) : ¬ nI t = (-6) := by
  intro q
  have h1 := congrArg Int32.toInt q
  rw [i_n h, show ((-6) : Int32).toInt = -6 from by decide] at h1
  omega
set_option maxHeartbeats 4000000 in
set_option maxRecDepth 100000 in
theorem c_set_no {L : Nat} {F : Nat → Nat → Int32} {g : Nat → Option Nat} (d : Nat) (x v : Int32) (hb : ¬ (0 ≤ x ∧ x < 4)) : mCall (d) yX4_changeSetting MX4_changeSetting [.ref 5, .int x, .int v] (mHX L F g) (some (.int (-2))) (mHX L F g) := by
  refine mCall_of sX4_changeSetting.1 (Nat.le_of_ble_eq_true rfl) ⟨_, rfl, rfl⟩ ?_
  show mGo _ _ (0, [some (.ref 5), some (.int x), some (.int v), none], [], _) _
  refine g_iload_n dX4_changeSetting_0 rfl ?_
  refine g_if_lt (tgt := 13) dX4_changeSetting_1 (by decide) (fun c1 => ?_) (fun c1 => ?_)
  · skip
    refine g_bipushv (v := (-2)) dX4_changeSetting_13 rfl ?_
    exact g_iret dX4_changeSetting_15 rfl
  · skip
    refine g_iload_n dX4_changeSetting_4 rfl ?_
    refine g_aload_n dX4_changeSetting_5 rfl ?_
    refine g_gR (r := 6) dX4_changeSetting_6 fl_X4_24 (fun _ _ => rfl) rfl (by decide) rfl ?_
    refine g_alen dX4_changeSetting_9 rfl (by decide) (by decide) ?_
    refine g_icmp_lt (tgt := 16) dX4_changeSetting_10 (by decide) (fun c10 => absurd c10 (fun q => hb ⟨Int32.not_lt.mp c1, q⟩)) (fun c10 => ?_)
    refine g_bipushv (v := (-2)) dX4_changeSetting_13 rfl ?_
    exact g_iret dX4_changeSetting_15 rfl
set_option maxHeartbeats 4000000 in
set_option maxRecDepth 100000 in
theorem c_set_bad {L : Nat} {F : Nat → Nat → Int32} {g : Nat → Option Nat} (d : Nat) (j : Nat) (hj : j < 4) (v : Int32) (h2 : F 2 = mHS) (hb : ¬ (1 ≤ v ∧ v ≤ mHS j)) : mCall (d) yX4_changeSetting MX4_changeSetting [.ref 5, .int (nI j), .int v] (mHX L F g) (some (.int (-2))) (mHX L F g) := by
  refine mCall_of sX4_changeSetting.1 (Nat.le_of_ble_eq_true rfl) ⟨_, rfl, rfl⟩ ?_
  show mGo _ _ (0, [some (.ref 5), some (.int (nI j)), some (.int v), none], [], _) _
  refine g_iload_n dX4_changeSetting_0 rfl ?_
  refine g_if_lt (tgt := 13) dX4_changeSetting_1 (by decide) (fun c1 => absurd c1 (nI_pos (by omega))) (fun c1 => ?_)
  refine g_iload_n dX4_changeSetting_4 rfl ?_
  refine g_aload_n dX4_changeSetting_5 rfl ?_
  refine g_gR (r := 6) dX4_changeSetting_6 fl_X4_24 (fun _ _ => rfl) rfl (by decide) rfl ?_
  refine g_alen dX4_changeSetting_9 rfl (by decide) (by decide) ?_
  refine g_icmp_lt (tgt := 16) dX4_changeSetting_10 (by decide) (fun c10 => ?_) (fun c10 => absurd (nI_lt (a := j) (b := 4) hj (by decide)) c10)
  refine g_iload_n dX4_changeSetting_16 rfl ?_
  refine g_iconstv (v := 1) dX4_changeSetting_17 rfl ?_
  refine g_icmp_lt (tgt := 30) dX4_changeSetting_18 (by decide) (fun c18 => ?_) (fun c18 => ?_)
  · skip
    refine g_bipushv (v := (-2)) dX4_changeSetting_30 rfl ?_
    exact g_iret dX4_changeSetting_32 rfl
  · skip
    refine g_iload_n dX4_changeSetting_21 rfl ?_
    refine g_gets (j := 1) dX4_changeSetting_22 sl_X4_60 (by decide) ?_
    refine g_iload_n dX4_changeSetting_25 rfl ?_
    refine g_saldN (gx := j) dX4_changeSetting_26 rfl (by decide) rfl (by omega) (by decide) ?_
    refine g_icmp_le (tgt := 33) dX4_changeSetting_27 (by decide) (fun c27 => absurd c27 (fun q => hb ⟨Int32.not_lt.mp c18, by rw [← h2]; exact q⟩)) (fun c27 => ?_)
    refine g_bipushv (v := (-2)) dX4_changeSetting_30 rfl ?_
    exact g_iret dX4_changeSetting_32 rfl
set_option maxHeartbeats 4000000 in
set_option maxRecDepth 100000 in
theorem c_set_ok {L : Nat} {F : Nat → Nat → Int32} {g : Nat → Option Nat} (d : Nat) (j : Nat) (hj : j < 4) (v : Int32) (h2 : F 2 = mHS) (h1 : 1 ≤ v) (h3 : v ≤ mHS j) : mCall (d) yX4_changeSetting MX4_changeSetting [.ref 5, .int (nI j), .int v] (mHX L F g) (some (.int (F 6 j))) (mHX L (pe F 6 j v) g) := by
  refine mCall_of sX4_changeSetting.1 (Nat.le_of_ble_eq_true rfl) ⟨_, rfl, rfl⟩ ?_
  show mGo _ _ (0, [some (.ref 5), some (.int (nI j)), some (.int v), none], [], _) _
  refine g_iload_n dX4_changeSetting_0 rfl ?_
  refine g_if_lt (tgt := 13) dX4_changeSetting_1 (by decide) (fun c1 => absurd c1 (nI_pos (by omega))) (fun c1 => ?_)
  refine g_iload_n dX4_changeSetting_4 rfl ?_
  refine g_aload_n dX4_changeSetting_5 rfl ?_
  refine g_gR (r := 6) dX4_changeSetting_6 fl_X4_24 (fun _ _ => rfl) rfl (by decide) rfl ?_
  refine g_alen dX4_changeSetting_9 rfl (by decide) (by decide) ?_
  refine g_icmp_lt (tgt := 16) dX4_changeSetting_10 (by decide) (fun c10 => ?_) (fun c10 => absurd (nI_lt (a := j) (b := 4) hj (by decide)) c10)
  refine g_iload_n dX4_changeSetting_16 rfl ?_
  refine g_iconstv (v := 1) dX4_changeSetting_17 rfl ?_
  refine g_icmp_lt (tgt := 30) dX4_changeSetting_18 (by decide) (fun c18 => absurd c18 (Int32.not_lt.mpr h1)) (fun c18 => ?_)
  refine g_iload_n dX4_changeSetting_21 rfl ?_
  refine g_gets (j := 1) dX4_changeSetting_22 sl_X4_60 (by decide) ?_
  refine g_iload_n dX4_changeSetting_25 rfl ?_
  refine g_saldN (gx := j) dX4_changeSetting_26 rfl (by decide) rfl (by omega) (by decide) ?_
  refine g_icmp_le (tgt := 33) dX4_changeSetting_27 (by decide) (fun c27 => ?_) (fun c27 => absurd (by rw [h2]; exact h3) c27)
  refine g_aload_n dX4_changeSetting_33 rfl ?_
  refine g_gR (r := 6) dX4_changeSetting_34 fl_X4_24 (fun _ _ => rfl) rfl (by decide) rfl ?_
  refine g_iload_n dX4_changeSetting_37 rfl ?_
  refine g_ialdN (gx := j) dX4_changeSetting_38 rfl (by decide) rfl (by omega) (by decide) ?_
  refine g_istore_n dX4_changeSetting_39 (by decide) rfl ?_
  refine g_aload_n dX4_changeSetting_40 rfl ?_
  refine g_gR (r := 6) dX4_changeSetting_41 fl_X4_24 (fun _ _ => rfl) rfl (by decide) rfl ?_
  refine g_iload_n dX4_changeSetting_44 rfl ?_
  refine g_iload_n dX4_changeSetting_45 rfl ?_
  refine g_iastN (gx := j) dX4_changeSetting_46 rfl (by decide) rfl (by omega) (by decide) ?_
  refine g_iload_n dX4_changeSetting_47 rfl ?_
  exact g_iret dX4_changeSetting_48 rfl
set_option maxHeartbeats 4000000 in
set_option maxRecDepth 100000 in
theorem c_wel_no {L : Nat} {F : Nat → Nat → Int32} {g : Nat → Option Nat} (d : Nat) (x v : Int32) (hb : ¬ (0 ≤ x ∧ x < 3)) : mCall (d + 1) yX4_welcome MX4_welcome [.ref 5, .int x, .int v] (mHX L F g) (some (.int (-1))) (mHX L F g) := by
  refine mCall_of sX4_welcome.1 (Nat.le_of_ble_eq_true rfl) ⟨_, rfl, rfl⟩ ?_
  show mGo _ _ (0, [some (.ref 5), some (.int x), some (.int v)], [], _) _
  refine g_iload_n dX4_welcome_0 rfl ?_
  refine g_SN1i dX4_welcome_1 ml_X4_63 sX6_isTable (Nat.le_of_ble_eq_true rfl) (c_isTable d x) ?_
  refine g_if_ne (tgt := 9) dX4_welcome_4 (by decide) (fun c4 => absurd (mbi_f hb) c4) (fun c4 => ?_)
  refine g_iconstv (v := (-1)) dX4_welcome_7 rfl ?_
  exact g_iret dX4_welcome_8 rfl
set_option maxHeartbeats 4000000 in
set_option maxRecDepth 100000 in
theorem c_wel_bad {L : Nat} {F : Nat → Nat → Int32} {g : Nat → Option Nat} (d : Nat) (x v : Int32) (ht : 0 ≤ x ∧ x < 3) (hb : ¬ (1 ≤ v ∧ v ≤ 9)) : mCall (d + 1) yX4_welcome MX4_welcome [.ref 5, .int x, .int v] (mHX L F g) (some (.int (-2))) (mHX L F g) := by
  refine mCall_of sX4_welcome.1 (Nat.le_of_ble_eq_true rfl) ⟨_, rfl, rfl⟩ ?_
  show mGo _ _ (0, [some (.ref 5), some (.int x), some (.int v)], [], _) _
  refine g_iload_n dX4_welcome_0 rfl ?_
  refine g_SN1i dX4_welcome_1 ml_X4_63 sX6_isTable (Nat.le_of_ble_eq_true rfl) (c_isTable d x) ?_
  refine g_if_ne (tgt := 9) dX4_welcome_4 (by decide) (fun c4 => ?_) (fun c4 => absurd c4 (mbi_n0.mpr ht))
  refine g_iload_n dX4_welcome_9 rfl ?_
  refine g_iconstv (v := 1) dX4_welcome_10 rfl ?_
  refine g_icmp_lt (tgt := 20) dX4_welcome_11 (by decide) (fun c11 => ?_) (fun c11 => ?_)
  · skip
    refine g_bipushv (v := (-2)) dX4_welcome_20 rfl ?_
    exact g_iret dX4_welcome_22 rfl
  · skip
    refine g_iload_n dX4_welcome_14 rfl ?_
    refine g_bipushv (v := 9) dX4_welcome_15 rfl ?_
    refine g_icmp_le (tgt := 23) dX4_welcome_17 (by decide) (fun c17 => absurd c17 (fun q => hb ⟨Int32.not_lt.mp c11, q⟩)) (fun c17 => ?_)
    refine g_bipushv (v := (-2)) dX4_welcome_20 rfl ?_
    exact g_iret dX4_welcome_22 rfl
set_option maxHeartbeats 4000000 in
set_option maxRecDepth 100000 in
theorem c_wel_full {L : Nat} {F : Nat → Nat → Int32} {g : Nat → Option Nat} (d : Nat) (x v : Int32) (ht : 0 ≤ x ∧ x < 3) (hv : 1 ≤ v ∧ v ≤ 9) (h : F 7 0 = nI 10) : mCall (d + 1) yX4_welcome MX4_welcome [.ref 5, .int x, .int v] (mHX L F g) (some (.int (-4))) (mHX L F g) := by
  refine mCall_of sX4_welcome.1 (Nat.le_of_ble_eq_true rfl) ⟨_, rfl, rfl⟩ ?_
  show mGo _ _ (0, [some (.ref 5), some (.int x), some (.int v)], [], _) _
  refine g_iload_n dX4_welcome_0 rfl ?_
  refine g_SN1i dX4_welcome_1 ml_X4_63 sX6_isTable (Nat.le_of_ble_eq_true rfl) (c_isTable d x) ?_
  refine g_if_ne (tgt := 9) dX4_welcome_4 (by decide) (fun c4 => ?_) (fun c4 => absurd c4 (mbi_n0.mpr ht))
  refine g_iload_n dX4_welcome_9 rfl ?_
  refine g_iconstv (v := 1) dX4_welcome_10 rfl ?_
  refine g_icmp_lt (tgt := 20) dX4_welcome_11 (by decide) (fun c11 => absurd c11 (Int32.not_lt.mpr hv.1)) (fun c11 => ?_)
  refine g_iload_n dX4_welcome_14 rfl ?_
  refine g_bipushv (v := 9) dX4_welcome_15 rfl ?_
  refine g_icmp_le (tgt := 23) dX4_welcome_17 (by decide) (fun c17 => ?_) (fun c17 => absurd hv.2 c17)
  refine g_aload_n dX4_welcome_23 rfl ?_
  refine g_gR (r := 7) dX4_welcome_24 fl_X4_30 (fun _ _ => rfl) rfl (by decide) rfl ?_
  refine g_iload_n dX4_welcome_27 rfl ?_
  refine g_iload_n dX4_welcome_28 rfl ?_
  refine g_aload_n dX4_welcome_29 rfl ?_
  refine g_gR (r := 6) dX4_welcome_30 fl_X4_24 (fun _ _ => rfl) rfl (by decide) rfl ?_
  refine g_iconstv (v := 2) dX4_welcome_33 rfl ?_
  refine g_ialdN (gx := 2) dX4_welcome_34 rfl (by decide) rfl (by omega) (by decide) ?_
  refine g_V3i dX4_welcome_35 ml_X4_67 sX0_add rfl (by decide) (Nat.le_of_ble_eq_true rfl) (c_add_full d x v (F 6 2) h) ?_
  exact g_iret dX4_welcome_38 rfl
def xAdd (F : Nat → Nat → Int32) (n : Nat) (a1 a2 : Int32) : Nat → Nat → Int32 := pe (pe (pe (pe F 8 n a1) 9 n a2) 11 n (F 6 2)) 7 0 (F 7 0 + 1)
set_option maxHeartbeats 4000000 in
set_option maxRecDepth 100000 in
theorem c_wel_ok {L : Nat} {F : Nat → Nat → Int32} {g : Nat → Option Nat} (d : Nat) (x v : Int32) (ht : 0 ≤ x ∧ x < 3) (hv : 1 ≤ v ∧ v ≤ 9) (n : Nat) (hn : F 7 0 = nI n) (h10 : n < 10) : mCall (d + 1) yX4_welcome MX4_welcome [.ref 5, .int x, .int v] (mHX L F g) (some (.int (nI n))) (mHX L (xAdd F n x v) g) := by
  refine mCall_of sX4_welcome.1 (Nat.le_of_ble_eq_true rfl) ⟨_, rfl, rfl⟩ ?_
  show mGo _ _ (0, [some (.ref 5), some (.int x), some (.int v)], [], _) _
  refine g_iload_n dX4_welcome_0 rfl ?_
  refine g_SN1i dX4_welcome_1 ml_X4_63 sX6_isTable (Nat.le_of_ble_eq_true rfl) (c_isTable d x) ?_
  refine g_if_ne (tgt := 9) dX4_welcome_4 (by decide) (fun c4 => ?_) (fun c4 => absurd c4 (mbi_n0.mpr ht))
  refine g_iload_n dX4_welcome_9 rfl ?_
  refine g_iconstv (v := 1) dX4_welcome_10 rfl ?_
  refine g_icmp_lt (tgt := 20) dX4_welcome_11 (by decide) (fun c11 => absurd c11 (Int32.not_lt.mpr hv.1)) (fun c11 => ?_)
  refine g_iload_n dX4_welcome_14 rfl ?_
  refine g_bipushv (v := 9) dX4_welcome_15 rfl ?_
  refine g_icmp_le (tgt := 23) dX4_welcome_17 (by decide) (fun c17 => ?_) (fun c17 => absurd hv.2 c17)
  refine g_aload_n dX4_welcome_23 rfl ?_
  refine g_gR (r := 7) dX4_welcome_24 fl_X4_30 (fun _ _ => rfl) rfl (by decide) rfl ?_
  refine g_iload_n dX4_welcome_27 rfl ?_
  refine g_iload_n dX4_welcome_28 rfl ?_
  refine g_aload_n dX4_welcome_29 rfl ?_
  refine g_gR (r := 6) dX4_welcome_30 fl_X4_24 (fun _ _ => rfl) rfl (by decide) rfl ?_
  refine g_iconstv (v := 2) dX4_welcome_33 rfl ?_
  refine g_ialdN (gx := 2) dX4_welcome_34 rfl (by decide) rfl (by omega) (by decide) ?_
  refine g_V3i dX4_welcome_35 ml_X4_67 sX0_add rfl (by decide) (Nat.le_of_ble_eq_true rfl) (c_add d x v (F 6 2) n hn h10) ?_
  exact g_iret dX4_welcome_38 rfl
set_option maxHeartbeats 4000000 in
set_option maxRecDepth 100000 in
theorem c_off_no {L : Nat} {F : Nat → Nat → Int32} {g : Nat → Option Nat} (d : Nat) (x : Int32) (hb : ¬ (0 ≤ x ∧ x < F 7 0)) : mCall (d + 1) yX4_seeOff MX4_seeOff [.ref 5, .int x] (mHX L F g) (some (.int (-1))) (mHX L F g) := by
  refine mCall_of sX4_seeOff.1 (Nat.le_of_ble_eq_true rfl) ⟨_, rfl, rfl⟩ ?_
  show mGo _ _ (0, [some (.ref 5), some (.int x), none], [], _) _
  refine g_aload_n dX4_seeOff_0 rfl ?_
  refine g_gR (r := 7) dX4_seeOff_1 fl_X4_30 (fun _ _ => rfl) rfl (by decide) rfl ?_
  refine g_iload_n dX4_seeOff_4 rfl ?_
  refine g_V1i dX4_seeOff_5 ml_X4_71 sX0_isKnown rfl (by decide) (Nat.le_of_ble_eq_true rfl) (c_isKnown d x) ?_
  refine g_if_ne (tgt := 13) dX4_seeOff_8 (by decide) (fun c8 => absurd (mbi_f hb) c8) (fun c8 => ?_)
  refine g_iconstv (v := (-1)) dX4_seeOff_11 rfl ?_
  exact g_iret dX4_seeOff_12 rfl
set_option maxHeartbeats 4000000 in
set_option maxRecDepth 100000 in
theorem c_off_gone {L : Nat} {F : Nat → Nat → Int32} {g : Nat → Option Nat} (d : Nat) (n : Nat) (hn : F 7 0 = nI n) (h10 : n ≤ 10) (k : Nat) (hk : k < n) (hs : F 8 k = (-6)) : mCall (d + 1) yX4_seeOff MX4_seeOff [.ref 5, .int (nI k)] (mHX L F g) (some (.int (-5))) (mHX L F g) := by
  refine mCall_of sX4_seeOff.1 (Nat.le_of_ble_eq_true rfl) ⟨_, rfl, rfl⟩ ?_
  show mGo _ _ (0, [some (.ref 5), some (.int (nI k)), none], [], _) _
  have hk0 : 0 ≤ nI k ∧ nI k < F 7 0 := ⟨nI_pos' (by omega), by rw [hn]; exact nI_lt hk (by omega)⟩
  refine g_aload_n dX4_seeOff_0 rfl ?_
  refine g_gR (r := 7) dX4_seeOff_1 fl_X4_30 (fun _ _ => rfl) rfl (by decide) rfl ?_
  refine g_iload_n dX4_seeOff_4 rfl ?_
  refine g_V1i dX4_seeOff_5 ml_X4_71 sX0_isKnown rfl (by decide) (Nat.le_of_ble_eq_true rfl) (c_isKnown d (nI k)) ?_
  refine g_if_ne (tgt := 13) dX4_seeOff_8 (by decide) (fun c8 => ?_) (fun c8 => absurd c8 (mbi_n0.mpr hk0))
  refine g_aload_n dX4_seeOff_13 rfl ?_
  refine g_gR (r := 7) dX4_seeOff_14 fl_X4_30 (fun _ _ => rfl) rfl (by decide) rfl ?_
  refine g_gR (r := 8) dX4_seeOff_17 fl_X4_74 (fun _ _ => rfl) rfl (by decide) rfl ?_
  refine g_iload_n dX4_seeOff_20 rfl ?_
  refine g_ialdN (gx := k) dX4_seeOff_21 rfl (by decide) rfl (by omega) (by decide) ?_
  refine g_istore_n dX4_seeOff_22 (by decide) rfl ?_
  refine g_iload_n dX4_seeOff_23 rfl ?_
  refine g_bipushv (v := (-6)) dX4_seeOff_24 rfl ?_
  refine g_icmp_ne (tgt := 32) dX4_seeOff_26 (by decide) (fun c26 => absurd hs c26) (fun c26 => ?_)
  refine g_bipushv (v := (-5)) dX4_seeOff_29 rfl ?_
  exact g_iret dX4_seeOff_31 rfl
set_option maxHeartbeats 4000000 in
set_option maxRecDepth 100000 in
theorem c_off_0 {L : Nat} {F : Nat → Nat → Int32} {g : Nat → Option Nat} (d : Nat) (n : Nat) (hn : F 7 0 = nI n) (h10 : n ≤ 10) (k : Nat) (hk : k < n) (t : Nat) (ht : t < 3) (hs : F 8 k = nI t) (h0 : sSet (va_up (F 8) k (-6)) (nI t) n = 0) : mCall (d + 2) yX4_seeOff MX4_seeOff [.ref 5, .int (nI k)] (mHX L F g) (some (.int (sPop (sSet (va_up (F 8) k (-6)) (nI t) n)))) (mHX L (pe (pe F 8 k (-6)) 19 t (-6)) g) := by
  refine mCall_of sX4_seeOff.1 (Nat.le_of_ble_eq_true rfl) ⟨_, rfl, rfl⟩ ?_
  show mGo _ _ (0, [some (.ref 5), some (.int (nI k)), none], [], _) _
  have hk0 : 0 ≤ nI k ∧ nI k < F 7 0 := ⟨nI_pos' (by omega), by rw [hn]; exact nI_lt hk (by omega)⟩
  refine g_aload_n dX4_seeOff_0 rfl ?_
  refine g_gR (r := 7) dX4_seeOff_1 fl_X4_30 (fun _ _ => rfl) rfl (by decide) rfl ?_
  refine g_iload_n dX4_seeOff_4 rfl ?_
  refine g_V1i dX4_seeOff_5 ml_X4_71 sX0_isKnown rfl (by decide) (Nat.le_of_ble_eq_true rfl) (c_isKnown (d + 1) (nI k)) ?_
  refine g_if_ne (tgt := 13) dX4_seeOff_8 (by decide) (fun c8 => ?_) (fun c8 => absurd c8 (mbi_n0.mpr hk0))
  refine g_aload_n dX4_seeOff_13 rfl ?_
  refine g_gR (r := 7) dX4_seeOff_14 fl_X4_30 (fun _ _ => rfl) rfl (by decide) rfl ?_
  refine g_gR (r := 8) dX4_seeOff_17 fl_X4_74 (fun _ _ => rfl) rfl (by decide) rfl ?_
  refine g_iload_n dX4_seeOff_20 rfl ?_
  refine g_ialdN (gx := k) dX4_seeOff_21 rfl (by decide) rfl (by omega) (by decide) ?_
  rw [hs]
  refine g_istore_n dX4_seeOff_22 (by decide) rfl ?_
  refine g_iload_n dX4_seeOff_23 rfl ?_
  refine g_bipushv (v := (-6)) dX4_seeOff_24 rfl ?_
  refine g_icmp_ne (tgt := 32) dX4_seeOff_26 (by decide) (fun c26 => ?_) (fun c26 => absurd c26 (m_ne6 (by omega)))
  refine g_aload_n dX4_seeOff_32 rfl ?_
  refine g_gR (r := 7) dX4_seeOff_33 fl_X4_30 (fun _ _ => rfl) rfl (by decide) rfl ?_
  refine g_gR (r := 8) dX4_seeOff_36 fl_X4_74 (fun _ _ => rfl) rfl (by decide) rfl ?_
  refine g_iload_n dX4_seeOff_39 rfl ?_
  refine g_bipushv (v := (-6)) dX4_seeOff_40 rfl ?_
  refine g_iastN (gx := k) dX4_seeOff_42 rfl (by decide) rfl (by omega) (by decide) ?_
  refine g_aload_n dX4_seeOff_43 rfl ?_
  refine g_iload_n dX4_seeOff_44 rfl ?_
  refine g_V1v dX4_seeOff_45 ml_X4_77 sX4_dropPauseOfNobody rfl (by decide) (Nat.le_of_ble_eq_true rfl) (c_drop_0 (F := (pe F 8 k (-6))) d n hn h10 t ht h0) ?_
  refine g_aload_n dX4_seeOff_48 rfl ?_
  refine g_gR (r := 7) dX4_seeOff_49 fl_X4_30 (fun _ _ => rfl) rfl (by decide) rfl ?_
  refine g_iload_n dX4_seeOff_52 rfl ?_
  refine g_V1i dX4_seeOff_53 ml_X4_81 sX0_setAt rfl (by decide) (Nat.le_of_ble_eq_true rfl) (c_setAt (F := (pe (pe F 8 k (-6)) 19 t (-6))) (d + 1) n hn h10 (nI t)) ?_
  refine g_S1i dX4_seeOff_56 ml_X4_85 sJ6_bitCount_0f7a4 (Nat.le_of_ble_eq_true rfl) (c_bitCount (d + 1) _) ?_
  exact g_iret dX4_seeOff_59 rfl
set_option maxHeartbeats 4000000 in
set_option maxRecDepth 100000 in
theorem c_off_n {L : Nat} {F : Nat → Nat → Int32} {g : Nat → Option Nat} (d : Nat) (n : Nat) (hn : F 7 0 = nI n) (h10 : n ≤ 10) (k : Nat) (hk : k < n) (t : Nat) (ht : t < 3) (hs : F 8 k = nI t) (h0 : ¬ sSet (va_up (F 8) k (-6)) (nI t) n = 0) : mCall (d + 2) yX4_seeOff MX4_seeOff [.ref 5, .int (nI k)] (mHX L F g) (some (.int (sPop (sSet (va_up (F 8) k (-6)) (nI t) n)))) (mHX L (pe F 8 k (-6)) g) := by
  refine mCall_of sX4_seeOff.1 (Nat.le_of_ble_eq_true rfl) ⟨_, rfl, rfl⟩ ?_
  show mGo _ _ (0, [some (.ref 5), some (.int (nI k)), none], [], _) _
  have hk0 : 0 ≤ nI k ∧ nI k < F 7 0 := ⟨nI_pos' (by omega), by rw [hn]; exact nI_lt hk (by omega)⟩
  refine g_aload_n dX4_seeOff_0 rfl ?_
  refine g_gR (r := 7) dX4_seeOff_1 fl_X4_30 (fun _ _ => rfl) rfl (by decide) rfl ?_
  refine g_iload_n dX4_seeOff_4 rfl ?_
  refine g_V1i dX4_seeOff_5 ml_X4_71 sX0_isKnown rfl (by decide) (Nat.le_of_ble_eq_true rfl) (c_isKnown (d + 1) (nI k)) ?_
  refine g_if_ne (tgt := 13) dX4_seeOff_8 (by decide) (fun c8 => ?_) (fun c8 => absurd c8 (mbi_n0.mpr hk0))
  refine g_aload_n dX4_seeOff_13 rfl ?_
  refine g_gR (r := 7) dX4_seeOff_14 fl_X4_30 (fun _ _ => rfl) rfl (by decide) rfl ?_
  refine g_gR (r := 8) dX4_seeOff_17 fl_X4_74 (fun _ _ => rfl) rfl (by decide) rfl ?_
  refine g_iload_n dX4_seeOff_20 rfl ?_
  refine g_ialdN (gx := k) dX4_seeOff_21 rfl (by decide) rfl (by omega) (by decide) ?_
  rw [hs]
  refine g_istore_n dX4_seeOff_22 (by decide) rfl ?_
  refine g_iload_n dX4_seeOff_23 rfl ?_
  refine g_bipushv (v := (-6)) dX4_seeOff_24 rfl ?_
  refine g_icmp_ne (tgt := 32) dX4_seeOff_26 (by decide) (fun c26 => ?_) (fun c26 => absurd c26 (m_ne6 (by omega)))
  refine g_aload_n dX4_seeOff_32 rfl ?_
  refine g_gR (r := 7) dX4_seeOff_33 fl_X4_30 (fun _ _ => rfl) rfl (by decide) rfl ?_
  refine g_gR (r := 8) dX4_seeOff_36 fl_X4_74 (fun _ _ => rfl) rfl (by decide) rfl ?_
  refine g_iload_n dX4_seeOff_39 rfl ?_
  refine g_bipushv (v := (-6)) dX4_seeOff_40 rfl ?_
  refine g_iastN (gx := k) dX4_seeOff_42 rfl (by decide) rfl (by omega) (by decide) ?_
  refine g_aload_n dX4_seeOff_43 rfl ?_
  refine g_iload_n dX4_seeOff_44 rfl ?_
  refine g_V1v dX4_seeOff_45 ml_X4_77 sX4_dropPauseOfNobody rfl (by decide) (Nat.le_of_ble_eq_true rfl) (c_drop_n (F := (pe F 8 k (-6))) d n hn h10 t ht h0) ?_
  refine g_aload_n dX4_seeOff_48 rfl ?_
  refine g_gR (r := 7) dX4_seeOff_49 fl_X4_30 (fun _ _ => rfl) rfl (by decide) rfl ?_
  refine g_iload_n dX4_seeOff_52 rfl ?_
  refine g_V1i dX4_seeOff_53 ml_X4_81 sX0_setAt rfl (by decide) (Nat.le_of_ble_eq_true rfl) (c_setAt (F := (pe F 8 k (-6))) (d + 1) n hn h10 (nI t)) ?_
  refine g_S1i dX4_seeOff_56 ml_X4_85 sJ6_bitCount_0f7a4 (Nat.le_of_ble_eq_true rfl) (c_bitCount (d + 1) _) ?_
  exact g_iret dX4_seeOff_59 rfl
set_option maxHeartbeats 4000000 in
set_option maxRecDepth 100000 in
theorem c_mov_no {L : Nat} {F : Nat → Nat → Int32} {g : Nat → Option Nat} (d : Nat) (x y : Int32) (hb : ¬ (0 ≤ x ∧ x < F 7 0)) : mCall (d + 1) yX4_reseat MX4_reseat [.ref 5, .int x, .int y] (mHX L F g) (some (.int (-1))) (mHX L F g) := by
  refine mCall_of sX4_reseat.1 (Nat.le_of_ble_eq_true rfl) ⟨_, rfl, rfl⟩ ?_
  show mGo _ _ (0, [some (.ref 5), some (.int x), some (.int y), none], [], _) _
  refine g_aload_n dX4_reseat_0 rfl ?_
  refine g_gR (r := 7) dX4_reseat_1 fl_X4_30 (fun _ _ => rfl) rfl (by decide) rfl ?_
  refine g_iload_n dX4_reseat_4 rfl ?_
  refine g_V1i dX4_reseat_5 ml_X4_71 sX0_isKnown rfl (by decide) (Nat.le_of_ble_eq_true rfl) (c_isKnown d x) ?_
  refine g_if_eq (tgt := 18) dX4_reseat_8 (by decide) (fun c8 => ?_) (fun c8 => absurd (mbi_f hb) c8)
  refine g_iconstv (v := (-1)) dX4_reseat_18 rfl ?_
  exact g_iret dX4_reseat_19 rfl
set_option maxHeartbeats 4000000 in
set_option maxRecDepth 100000 in
theorem c_mov_notab {L : Nat} {F : Nat → Nat → Int32} {g : Nat → Option Nat} (d : Nat) (x y : Int32) (hk : 0 ≤ x ∧ x < F 7 0) (hb : ¬ (0 ≤ y ∧ y < 3)) : mCall (d + 1) yX4_reseat MX4_reseat [.ref 5, .int x, .int y] (mHX L F g) (some (.int (-1))) (mHX L F g) := by
  refine mCall_of sX4_reseat.1 (Nat.le_of_ble_eq_true rfl) ⟨_, rfl, rfl⟩ ?_
  show mGo _ _ (0, [some (.ref 5), some (.int x), some (.int y), none], [], _) _
  refine g_aload_n dX4_reseat_0 rfl ?_
  refine g_gR (r := 7) dX4_reseat_1 fl_X4_30 (fun _ _ => rfl) rfl (by decide) rfl ?_
  refine g_iload_n dX4_reseat_4 rfl ?_
  refine g_V1i dX4_reseat_5 ml_X4_71 sX0_isKnown rfl (by decide) (Nat.le_of_ble_eq_true rfl) (c_isKnown d x) ?_
  refine g_if_eq (tgt := 18) dX4_reseat_8 (by decide) (fun c8 => absurd c8 (mbi_n0.mpr hk)) (fun c8 => ?_)
  refine g_iload_n dX4_reseat_11 rfl ?_
  refine g_SN1i dX4_reseat_12 ml_X4_63 sX6_isTable (Nat.le_of_ble_eq_true rfl) (c_isTable d y) ?_
  refine g_if_ne (tgt := 20) dX4_reseat_15 (by decide) (fun c15 => absurd (mbi_f hb) c15) (fun c15 => ?_)
  refine g_iconstv (v := (-1)) dX4_reseat_18 rfl ?_
  exact g_iret dX4_reseat_19 rfl
set_option maxHeartbeats 4000000 in
set_option maxRecDepth 100000 in
theorem c_mov_gone {L : Nat} {F : Nat → Nat → Int32} {g : Nat → Option Nat} (d : Nat) (n : Nat) (hn : F 7 0 = nI n) (h10 : n ≤ 10) (k : Nat) (hk : k < n) (u : Nat) (hu : u < 3) (hs : F 8 k = (-6)) : mCall (d + 1) yX4_reseat MX4_reseat [.ref 5, .int (nI k), .int (nI u)] (mHX L F g) (some (.int (-5))) (mHX L F g) := by
  refine mCall_of sX4_reseat.1 (Nat.le_of_ble_eq_true rfl) ⟨_, rfl, rfl⟩ ?_
  show mGo _ _ (0, [some (.ref 5), some (.int (nI k)), some (.int (nI u)), none], [], _) _
  have hk0 : 0 ≤ nI k ∧ nI k < F 7 0 := ⟨nI_pos' (by omega), by rw [hn]; exact nI_lt hk (by omega)⟩
  have hu0 : 0 ≤ nI u ∧ nI u < 3 := ⟨nI_pos' (by omega), nI_lt (b := 3) hu (by decide)⟩
  refine g_aload_n dX4_reseat_0 rfl ?_
  refine g_gR (r := 7) dX4_reseat_1 fl_X4_30 (fun _ _ => rfl) rfl (by decide) rfl ?_
  refine g_iload_n dX4_reseat_4 rfl ?_
  refine g_V1i dX4_reseat_5 ml_X4_71 sX0_isKnown rfl (by decide) (Nat.le_of_ble_eq_true rfl) (c_isKnown d (nI k)) ?_
  refine g_if_eq (tgt := 18) dX4_reseat_8 (by decide) (fun c8 => absurd c8 (mbi_n0.mpr hk0)) (fun c8 => ?_)
  refine g_iload_n dX4_reseat_11 rfl ?_
  refine g_SN1i dX4_reseat_12 ml_X4_63 sX6_isTable (Nat.le_of_ble_eq_true rfl) (c_isTable d (nI u)) ?_
  refine g_if_ne (tgt := 20) dX4_reseat_15 (by decide) (fun c15 => ?_) (fun c15 => absurd c15 (mbi_n0.mpr hu0))
  refine g_aload_n dX4_reseat_20 rfl ?_
  refine g_gR (r := 7) dX4_reseat_21 fl_X4_30 (fun _ _ => rfl) rfl (by decide) rfl ?_
  refine g_gR (r := 8) dX4_reseat_24 fl_X4_74 (fun _ _ => rfl) rfl (by decide) rfl ?_
  refine g_iload_n dX4_reseat_27 rfl ?_
  refine g_ialdN (gx := k) dX4_reseat_28 rfl (by decide) rfl (by omega) (by decide) ?_
  refine g_istore_n dX4_reseat_29 (by decide) rfl ?_
  refine g_iload_n dX4_reseat_30 rfl ?_
  refine g_bipushv (v := (-6)) dX4_reseat_31 rfl ?_
  refine g_icmp_eq (tgt := 41) dX4_reseat_33 (by decide) (fun c33 => ?_) (fun c33 => absurd hs c33)
  refine g_bipushv (v := (-5)) dX4_reseat_41 rfl ?_
  exact g_iret dX4_reseat_43 rfl
set_option maxHeartbeats 4000000 in
set_option maxRecDepth 100000 in
theorem c_mov_same {L : Nat} {F : Nat → Nat → Int32} {g : Nat → Option Nat} (d : Nat) (n : Nat) (hn : F 7 0 = nI n) (h10 : n ≤ 10) (k : Nat) (hk : k < n) (u : Nat) (hu : u < 3) (hs : F 8 k = nI u) : mCall (d + 1) yX4_reseat MX4_reseat [.ref 5, .int (nI k), .int (nI u)] (mHX L F g) (some (.int (-5))) (mHX L F g) := by
  refine mCall_of sX4_reseat.1 (Nat.le_of_ble_eq_true rfl) ⟨_, rfl, rfl⟩ ?_
  show mGo _ _ (0, [some (.ref 5), some (.int (nI k)), some (.int (nI u)), none], [], _) _
  have hk0 : 0 ≤ nI k ∧ nI k < F 7 0 := ⟨nI_pos' (by omega), by rw [hn]; exact nI_lt hk (by omega)⟩
  have hu0 : 0 ≤ nI u ∧ nI u < 3 := ⟨nI_pos' (by omega), nI_lt (b := 3) hu (by decide)⟩
  refine g_aload_n dX4_reseat_0 rfl ?_
  refine g_gR (r := 7) dX4_reseat_1 fl_X4_30 (fun _ _ => rfl) rfl (by decide) rfl ?_
  refine g_iload_n dX4_reseat_4 rfl ?_
  refine g_V1i dX4_reseat_5 ml_X4_71 sX0_isKnown rfl (by decide) (Nat.le_of_ble_eq_true rfl) (c_isKnown d (nI k)) ?_
  refine g_if_eq (tgt := 18) dX4_reseat_8 (by decide) (fun c8 => absurd c8 (mbi_n0.mpr hk0)) (fun c8 => ?_)
  refine g_iload_n dX4_reseat_11 rfl ?_
  refine g_SN1i dX4_reseat_12 ml_X4_63 sX6_isTable (Nat.le_of_ble_eq_true rfl) (c_isTable d (nI u)) ?_
  refine g_if_ne (tgt := 20) dX4_reseat_15 (by decide) (fun c15 => ?_) (fun c15 => absurd c15 (mbi_n0.mpr hu0))
  refine g_aload_n dX4_reseat_20 rfl ?_
  refine g_gR (r := 7) dX4_reseat_21 fl_X4_30 (fun _ _ => rfl) rfl (by decide) rfl ?_
  refine g_gR (r := 8) dX4_reseat_24 fl_X4_74 (fun _ _ => rfl) rfl (by decide) rfl ?_
  refine g_iload_n dX4_reseat_27 rfl ?_
  refine g_ialdN (gx := k) dX4_reseat_28 rfl (by decide) rfl (by omega) (by decide) ?_
  rw [hs]
  refine g_istore_n dX4_reseat_29 (by decide) rfl ?_
  refine g_iload_n dX4_reseat_30 rfl ?_
  refine g_bipushv (v := (-6)) dX4_reseat_31 rfl ?_
  refine g_icmp_eq (tgt := 41) dX4_reseat_33 (by decide) (fun c33 => absurd c33 (m_ne6 (by omega))) (fun c33 => ?_)
  refine g_iload_n dX4_reseat_36 rfl ?_
  refine g_iload_n dX4_reseat_37 rfl ?_
  refine g_icmp_ne (tgt := 44) dX4_reseat_38 (by decide) (fun c38 => absurd rfl c38) (fun c38 => ?_)
  refine g_bipushv (v := (-5)) dX4_reseat_41 rfl ?_
  exact g_iret dX4_reseat_43 rfl
set_option maxHeartbeats 4000000 in
set_option maxRecDepth 100000 in
theorem c_mov_0 {L : Nat} {F : Nat → Nat → Int32} {g : Nat → Option Nat} (d : Nat) (n : Nat) (hn : F 7 0 = nI n) (h10 : n ≤ 10) (k : Nat) (hk : k < n) (t u : Nat) (ht : t < 3) (hu : u < 3) (htu : t ≠ u) (hs : F 8 k = nI t) (h0 : sSet (va_up (F 8) k (nI u)) (nI t) n = 0) : mCall (d + 2) yX4_reseat MX4_reseat [.ref 5, .int (nI k), .int (nI u)] (mHX L F g) (some (.int (nI t))) (mHX L (pe (pe F 8 k (nI u)) 19 t (-6)) g) := by
  refine mCall_of sX4_reseat.1 (Nat.le_of_ble_eq_true rfl) ⟨_, rfl, rfl⟩ ?_
  show mGo _ _ (0, [some (.ref 5), some (.int (nI k)), some (.int (nI u)), none], [], _) _
  have hk0 : 0 ≤ nI k ∧ nI k < F 7 0 := ⟨nI_pos' (by omega), by rw [hn]; exact nI_lt hk (by omega)⟩
  have hu0 : 0 ≤ nI u ∧ nI u < 3 := ⟨nI_pos' (by omega), nI_lt (b := 3) hu (by decide)⟩
  refine g_aload_n dX4_reseat_0 rfl ?_
  refine g_gR (r := 7) dX4_reseat_1 fl_X4_30 (fun _ _ => rfl) rfl (by decide) rfl ?_
  refine g_iload_n dX4_reseat_4 rfl ?_
  refine g_V1i dX4_reseat_5 ml_X4_71 sX0_isKnown rfl (by decide) (Nat.le_of_ble_eq_true rfl) (c_isKnown (d + 1) (nI k)) ?_
  refine g_if_eq (tgt := 18) dX4_reseat_8 (by decide) (fun c8 => absurd c8 (mbi_n0.mpr hk0)) (fun c8 => ?_)
  refine g_iload_n dX4_reseat_11 rfl ?_
  refine g_SN1i dX4_reseat_12 ml_X4_63 sX6_isTable (Nat.le_of_ble_eq_true rfl) (c_isTable (d + 1) (nI u)) ?_
  refine g_if_ne (tgt := 20) dX4_reseat_15 (by decide) (fun c15 => ?_) (fun c15 => absurd c15 (mbi_n0.mpr hu0))
  refine g_aload_n dX4_reseat_20 rfl ?_
  refine g_gR (r := 7) dX4_reseat_21 fl_X4_30 (fun _ _ => rfl) rfl (by decide) rfl ?_
  refine g_gR (r := 8) dX4_reseat_24 fl_X4_74 (fun _ _ => rfl) rfl (by decide) rfl ?_
  refine g_iload_n dX4_reseat_27 rfl ?_
  refine g_ialdN (gx := k) dX4_reseat_28 rfl (by decide) rfl (by omega) (by decide) ?_
  rw [hs]
  refine g_istore_n dX4_reseat_29 (by decide) rfl ?_
  refine g_iload_n dX4_reseat_30 rfl ?_
  refine g_bipushv (v := (-6)) dX4_reseat_31 rfl ?_
  refine g_icmp_eq (tgt := 41) dX4_reseat_33 (by decide) (fun c33 => absurd c33 (m_ne6 (by omega))) (fun c33 => ?_)
  refine g_iload_n dX4_reseat_36 rfl ?_
  refine g_iload_n dX4_reseat_37 rfl ?_
  refine g_icmp_ne (tgt := 44) dX4_reseat_38 (by decide) (fun c38 => ?_) (fun c38 => absurd c38 (fun q => htu ((nI_eq (by omega) (by omega)).mp q)))
  refine g_aload_n dX4_reseat_44 rfl ?_
  refine g_gR (r := 7) dX4_reseat_45 fl_X4_30 (fun _ _ => rfl) rfl (by decide) rfl ?_
  refine g_gR (r := 8) dX4_reseat_48 fl_X4_74 (fun _ _ => rfl) rfl (by decide) rfl ?_
  refine g_iload_n dX4_reseat_51 rfl ?_
  refine g_iload_n dX4_reseat_52 rfl ?_
  refine g_iastN (gx := k) dX4_reseat_53 rfl (by decide) rfl (by omega) (by decide) ?_
  refine g_aload_n dX4_reseat_54 rfl ?_
  refine g_iload_n dX4_reseat_55 rfl ?_
  refine g_V1v dX4_reseat_56 ml_X4_77 sX4_dropPauseOfNobody rfl (by decide) (Nat.le_of_ble_eq_true rfl) (c_drop_0 (F := (pe F 8 k (nI u))) d n hn h10 t ht h0) ?_
  refine g_iload_n dX4_reseat_59 rfl ?_
  exact g_iret dX4_reseat_60 rfl
set_option maxHeartbeats 4000000 in
set_option maxRecDepth 100000 in
theorem c_mov_n {L : Nat} {F : Nat → Nat → Int32} {g : Nat → Option Nat} (d : Nat) (n : Nat) (hn : F 7 0 = nI n) (h10 : n ≤ 10) (k : Nat) (hk : k < n) (t u : Nat) (ht : t < 3) (hu : u < 3) (htu : t ≠ u) (hs : F 8 k = nI t) (h0 : ¬ sSet (va_up (F 8) k (nI u)) (nI t) n = 0) : mCall (d + 2) yX4_reseat MX4_reseat [.ref 5, .int (nI k), .int (nI u)] (mHX L F g) (some (.int (nI t))) (mHX L (pe F 8 k (nI u)) g) := by
  refine mCall_of sX4_reseat.1 (Nat.le_of_ble_eq_true rfl) ⟨_, rfl, rfl⟩ ?_
  show mGo _ _ (0, [some (.ref 5), some (.int (nI k)), some (.int (nI u)), none], [], _) _
  have hk0 : 0 ≤ nI k ∧ nI k < F 7 0 := ⟨nI_pos' (by omega), by rw [hn]; exact nI_lt hk (by omega)⟩
  have hu0 : 0 ≤ nI u ∧ nI u < 3 := ⟨nI_pos' (by omega), nI_lt (b := 3) hu (by decide)⟩
  refine g_aload_n dX4_reseat_0 rfl ?_
  refine g_gR (r := 7) dX4_reseat_1 fl_X4_30 (fun _ _ => rfl) rfl (by decide) rfl ?_
  refine g_iload_n dX4_reseat_4 rfl ?_
  refine g_V1i dX4_reseat_5 ml_X4_71 sX0_isKnown rfl (by decide) (Nat.le_of_ble_eq_true rfl) (c_isKnown (d + 1) (nI k)) ?_
  refine g_if_eq (tgt := 18) dX4_reseat_8 (by decide) (fun c8 => absurd c8 (mbi_n0.mpr hk0)) (fun c8 => ?_)
  refine g_iload_n dX4_reseat_11 rfl ?_
  refine g_SN1i dX4_reseat_12 ml_X4_63 sX6_isTable (Nat.le_of_ble_eq_true rfl) (c_isTable (d + 1) (nI u)) ?_
  refine g_if_ne (tgt := 20) dX4_reseat_15 (by decide) (fun c15 => ?_) (fun c15 => absurd c15 (mbi_n0.mpr hu0))
  refine g_aload_n dX4_reseat_20 rfl ?_
  refine g_gR (r := 7) dX4_reseat_21 fl_X4_30 (fun _ _ => rfl) rfl (by decide) rfl ?_
  refine g_gR (r := 8) dX4_reseat_24 fl_X4_74 (fun _ _ => rfl) rfl (by decide) rfl ?_
  refine g_iload_n dX4_reseat_27 rfl ?_
  refine g_ialdN (gx := k) dX4_reseat_28 rfl (by decide) rfl (by omega) (by decide) ?_
  rw [hs]
  refine g_istore_n dX4_reseat_29 (by decide) rfl ?_
  refine g_iload_n dX4_reseat_30 rfl ?_
  refine g_bipushv (v := (-6)) dX4_reseat_31 rfl ?_
  refine g_icmp_eq (tgt := 41) dX4_reseat_33 (by decide) (fun c33 => absurd c33 (m_ne6 (by omega))) (fun c33 => ?_)
  refine g_iload_n dX4_reseat_36 rfl ?_
  refine g_iload_n dX4_reseat_37 rfl ?_
  refine g_icmp_ne (tgt := 44) dX4_reseat_38 (by decide) (fun c38 => ?_) (fun c38 => absurd c38 (fun q => htu ((nI_eq (by omega) (by omega)).mp q)))
  refine g_aload_n dX4_reseat_44 rfl ?_
  refine g_gR (r := 7) dX4_reseat_45 fl_X4_30 (fun _ _ => rfl) rfl (by decide) rfl ?_
  refine g_gR (r := 8) dX4_reseat_48 fl_X4_74 (fun _ _ => rfl) rfl (by decide) rfl ?_
  refine g_iload_n dX4_reseat_51 rfl ?_
  refine g_iload_n dX4_reseat_52 rfl ?_
  refine g_iastN (gx := k) dX4_reseat_53 rfl (by decide) rfl (by omega) (by decide) ?_
  refine g_aload_n dX4_reseat_54 rfl ?_
  refine g_iload_n dX4_reseat_55 rfl ?_
  refine g_V1v dX4_reseat_56 ml_X4_77 sX4_dropPauseOfNobody rfl (by decide) (Nat.le_of_ble_eq_true rfl) (c_drop_n (F := (pe F 8 k (nI u))) d n hn h10 t ht h0) ?_
  refine g_iload_n dX4_reseat_59 rfl ?_
  exact g_iret dX4_reseat_60 rfl
set_option maxHeartbeats 4000000 in
set_option maxRecDepth 100000 in
theorem c_beg_no {L : Nat} {F : Nat → Nat → Int32} {g : Nat → Option Nat} (d : Nat) (x : Int32) (hb : ¬ (0 ≤ x ∧ x < 3)) : mCall (d + 1) yX4_beginPause MX4_beginPause [.ref 5, .int x] (mHX L F g) (some (.int (-1))) (mHX L F g) := by
  refine mCall_of sX4_beginPause.1 (Nat.le_of_ble_eq_true rfl) ⟨_, rfl, rfl⟩ ?_
  show mGo _ _ (0, [some (.ref 5), some (.int x), none], [], _) _
  refine g_iload_n dX4_beginPause_0 rfl ?_
  refine g_SN1i dX4_beginPause_1 ml_X4_63 sX6_isTable (Nat.le_of_ble_eq_true rfl) (c_isTable d x) ?_
  refine g_if_ne (tgt := 9) dX4_beginPause_4 (by decide) (fun c4 => absurd (mbi_f hb) c4) (fun c4 => ?_)
  refine g_iconstv (v := (-1)) dX4_beginPause_7 rfl ?_
  exact g_iret dX4_beginPause_8 rfl
set_option maxHeartbeats 4000000 in
set_option maxRecDepth 100000 in
theorem c_beg_is {L : Nat} {F : Nat → Nat → Int32} {g : Nat → Option Nat} (d : Nat) (n : Nat) (hn : F 7 0 = nI n) (h10 : n ≤ 10) (t : Nat) (ht : t < 3) (c : Nat) (hc : c ≤ 4) (ec : sComp (F 8) (F 9) (nI t) (-6) n = nI c) (hp : ¬ F 19 t = (-6)) : mCall (d + 1) yX4_beginPause MX4_beginPause [.ref 5, .int (nI t)] (mHX L F g) (some (.int (-5))) (mHX L F g) := by
  refine mCall_of sX4_beginPause.1 (Nat.le_of_ble_eq_true rfl) ⟨_, rfl, rfl⟩ ?_
  show mGo _ _ (0, [some (.ref 5), some (.int (nI t)), none], [], _) _
  have ht0 : 0 ≤ nI t ∧ nI t < 3 := ⟨nI_pos' (by omega), nI_lt (b := 3) ht (by decide)⟩
  refine g_iload_n dX4_beginPause_0 rfl ?_
  refine g_SN1i dX4_beginPause_1 ml_X4_63 sX6_isTable (Nat.le_of_ble_eq_true rfl) (c_isTable d (nI t)) ?_
  refine g_if_ne (tgt := 9) dX4_beginPause_4 (by decide) (fun c4 => ?_) (fun c4 => absurd c4 (mbi_n0.mpr ht0))
  refine g_aload_n dX4_beginPause_9 rfl ?_
  refine g_gR (r := 7) dX4_beginPause_10 fl_X4_30 (fun _ _ => rfl) rfl (by decide) rfl ?_
  refine g_iload_n dX4_beginPause_13 rfl ?_
  refine g_bipushv (v := (-6)) dX4_beginPause_14 rfl ?_
  refine g_V2i dX4_beginPause_16 ml_X4_90 sX0_companyOf rfl (by decide) (Nat.le_of_ble_eq_true rfl) (c_companyOf d n hn h10 (nI t) (-6)) ?_
  rw [ec]
  refine g_istore_n dX4_beginPause_19 (by decide) rfl ?_
  refine g_aload_n dX4_beginPause_20 rfl ?_
  refine g_gR (r := 19) dX4_beginPause_21 fl_X4_41 (fun _ _ => rfl) rfl (by decide) rfl ?_
  refine g_iload_n dX4_beginPause_24 rfl ?_
  refine g_ialdN (gx := t) dX4_beginPause_25 rfl (by decide) rfl (by omega) (by decide) ?_
  refine g_bipushv (v := (-6)) dX4_beginPause_26 rfl ?_
  refine g_icmp_ne (tgt := 35) dX4_beginPause_28 (by decide) (fun c28 => ?_) (fun c28 => absurd c28 hp)
  refine g_bipushv (v := (-5)) dX4_beginPause_35 rfl ?_
  exact g_iret dX4_beginPause_37 rfl
set_option maxHeartbeats 4000000 in
set_option maxRecDepth 100000 in
theorem c_beg_nobody {L : Nat} {F : Nat → Nat → Int32} {g : Nat → Option Nat} (d : Nat) (n : Nat) (hn : F 7 0 = nI n) (h10 : n ≤ 10) (t : Nat) (ht : t < 3) (c : Nat) (hc : c ≤ 4) (ec : sComp (F 8) (F 9) (nI t) (-6) n = nI c) (hp : F 19 t = (-6)) (h0 : c = 0) : mCall (d + 1) yX4_beginPause MX4_beginPause [.ref 5, .int (nI t)] (mHX L F g) (some (.int (-5))) (mHX L F g) := by
  refine mCall_of sX4_beginPause.1 (Nat.le_of_ble_eq_true rfl) ⟨_, rfl, rfl⟩ ?_
  show mGo _ _ (0, [some (.ref 5), some (.int (nI t)), none], [], _) _
  have ht0 : 0 ≤ nI t ∧ nI t < 3 := ⟨nI_pos' (by omega), nI_lt (b := 3) ht (by decide)⟩
  refine g_iload_n dX4_beginPause_0 rfl ?_
  refine g_SN1i dX4_beginPause_1 ml_X4_63 sX6_isTable (Nat.le_of_ble_eq_true rfl) (c_isTable d (nI t)) ?_
  refine g_if_ne (tgt := 9) dX4_beginPause_4 (by decide) (fun c4 => ?_) (fun c4 => absurd c4 (mbi_n0.mpr ht0))
  refine g_aload_n dX4_beginPause_9 rfl ?_
  refine g_gR (r := 7) dX4_beginPause_10 fl_X4_30 (fun _ _ => rfl) rfl (by decide) rfl ?_
  refine g_iload_n dX4_beginPause_13 rfl ?_
  refine g_bipushv (v := (-6)) dX4_beginPause_14 rfl ?_
  refine g_V2i dX4_beginPause_16 ml_X4_90 sX0_companyOf rfl (by decide) (Nat.le_of_ble_eq_true rfl) (c_companyOf d n hn h10 (nI t) (-6)) ?_
  rw [ec]
  refine g_istore_n dX4_beginPause_19 (by decide) rfl ?_
  refine g_aload_n dX4_beginPause_20 rfl ?_
  refine g_gR (r := 19) dX4_beginPause_21 fl_X4_41 (fun _ _ => rfl) rfl (by decide) rfl ?_
  refine g_iload_n dX4_beginPause_24 rfl ?_
  refine g_ialdN (gx := t) dX4_beginPause_25 rfl (by decide) rfl (by omega) (by decide) ?_
  refine g_bipushv (v := (-6)) dX4_beginPause_26 rfl ?_
  refine g_icmp_ne (tgt := 35) dX4_beginPause_28 (by decide) (fun c28 => absurd hp c28) (fun c28 => ?_)
  refine g_iload_n dX4_beginPause_31 rfl ?_
  refine g_if_ne (tgt := 38) dX4_beginPause_32 (by decide) (fun c32 => absurd (by rw [h0]; rfl) c32) (fun c32 => ?_)
  refine g_bipushv (v := (-5)) dX4_beginPause_35 rfl ?_
  exact g_iret dX4_beginPause_37 rfl
set_option maxHeartbeats 4000000 in
set_option maxRecDepth 100000 in
theorem c_beg_ok {L : Nat} {F : Nat → Nat → Int32} {g : Nat → Option Nat} (d : Nat) (n : Nat) (hn : F 7 0 = nI n) (h10 : n ≤ 10) (t : Nat) (ht : t < 3) (c : Nat) (hc : c ≤ 4) (ec : sComp (F 8) (F 9) (nI t) (-6) n = nI c) (hp : F 19 t = (-6)) (h0 : ¬ c = 0) : mCall (d + 1) yX4_beginPause MX4_beginPause [.ref 5, .int (nI t)] (mHX L F g) (some (.int (nI c))) (mHX L (pe F 19 t 0) g) := by
  refine mCall_of sX4_beginPause.1 (Nat.le_of_ble_eq_true rfl) ⟨_, rfl, rfl⟩ ?_
  show mGo _ _ (0, [some (.ref 5), some (.int (nI t)), none], [], _) _
  have ht0 : 0 ≤ nI t ∧ nI t < 3 := ⟨nI_pos' (by omega), nI_lt (b := 3) ht (by decide)⟩
  refine g_iload_n dX4_beginPause_0 rfl ?_
  refine g_SN1i dX4_beginPause_1 ml_X4_63 sX6_isTable (Nat.le_of_ble_eq_true rfl) (c_isTable d (nI t)) ?_
  refine g_if_ne (tgt := 9) dX4_beginPause_4 (by decide) (fun c4 => ?_) (fun c4 => absurd c4 (mbi_n0.mpr ht0))
  refine g_aload_n dX4_beginPause_9 rfl ?_
  refine g_gR (r := 7) dX4_beginPause_10 fl_X4_30 (fun _ _ => rfl) rfl (by decide) rfl ?_
  refine g_iload_n dX4_beginPause_13 rfl ?_
  refine g_bipushv (v := (-6)) dX4_beginPause_14 rfl ?_
  refine g_V2i dX4_beginPause_16 ml_X4_90 sX0_companyOf rfl (by decide) (Nat.le_of_ble_eq_true rfl) (c_companyOf d n hn h10 (nI t) (-6)) ?_
  rw [ec]
  refine g_istore_n dX4_beginPause_19 (by decide) rfl ?_
  refine g_aload_n dX4_beginPause_20 rfl ?_
  refine g_gR (r := 19) dX4_beginPause_21 fl_X4_41 (fun _ _ => rfl) rfl (by decide) rfl ?_
  refine g_iload_n dX4_beginPause_24 rfl ?_
  refine g_ialdN (gx := t) dX4_beginPause_25 rfl (by decide) rfl (by omega) (by decide) ?_
  refine g_bipushv (v := (-6)) dX4_beginPause_26 rfl ?_
  refine g_icmp_ne (tgt := 35) dX4_beginPause_28 (by decide) (fun c28 => absurd hp c28) (fun c28 => ?_)
  refine g_iload_n dX4_beginPause_31 rfl ?_
  refine g_if_ne (tgt := 38) dX4_beginPause_32 (by decide) (fun c32 => ?_) (fun c32 => absurd c32 (nI_ne0 (by omega) (by omega)))
  refine g_aload_n dX4_beginPause_38 rfl ?_
  refine g_gR (r := 19) dX4_beginPause_39 fl_X4_41 (fun _ _ => rfl) rfl (by decide) rfl ?_
  refine g_iload_n dX4_beginPause_42 rfl ?_
  refine g_iconstv (v := 0) dX4_beginPause_43 rfl ?_
  refine g_iastN (gx := t) dX4_beginPause_44 rfl (by decide) rfl (by omega) (by decide) ?_
  refine g_iload_n dX4_beginPause_45 rfl ?_
  exact g_iret dX4_beginPause_46 rfl
set_option maxHeartbeats 4000000 in
set_option maxRecDepth 100000 in
theorem c_clo_no {L : Nat} {F : Nat → Nat → Int32} {g : Nat → Option Nat} (d : Nat) (x : Int32) (hb : ¬ (0 ≤ x ∧ x < 3)) : mCall (d + 1) yX4_closePause MX4_closePause [.ref 5, .int x] (mHX L F g) (some (.int (-1))) (mHX L F g) := by
  refine mCall_of sX4_closePause.1 (Nat.le_of_ble_eq_true rfl) ⟨_, rfl, rfl⟩ ?_
  show mGo _ _ (0, [some (.ref 5), some (.int x), none], [], _) _
  refine g_iload_n dX4_closePause_0 rfl ?_
  refine g_SN1i dX4_closePause_1 ml_X4_63 sX6_isTable (Nat.le_of_ble_eq_true rfl) (c_isTable d x) ?_
  refine g_if_ne (tgt := 9) dX4_closePause_4 (by decide) (fun c4 => absurd (mbi_f hb) c4) (fun c4 => ?_)
  refine g_iconstv (v := (-1)) dX4_closePause_7 rfl ?_
  exact g_iret dX4_closePause_8 rfl
set_option maxHeartbeats 4000000 in
set_option maxRecDepth 100000 in
theorem c_clo_none {L : Nat} {F : Nat → Nat → Int32} {g : Nat → Option Nat} (d : Nat) (t : Nat) (ht : t < 3) (hp : F 19 t = (-6)) : mCall (d + 1) yX4_closePause MX4_closePause [.ref 5, .int (nI t)] (mHX L F g) (some (.int (-5))) (mHX L F g) := by
  refine mCall_of sX4_closePause.1 (Nat.le_of_ble_eq_true rfl) ⟨_, rfl, rfl⟩ ?_
  show mGo _ _ (0, [some (.ref 5), some (.int (nI t)), none], [], _) _
  have ht0 : 0 ≤ nI t ∧ nI t < 3 := ⟨nI_pos' (by omega), nI_lt (b := 3) ht (by decide)⟩
  refine g_iload_n dX4_closePause_0 rfl ?_
  refine g_SN1i dX4_closePause_1 ml_X4_63 sX6_isTable (Nat.le_of_ble_eq_true rfl) (c_isTable d (nI t)) ?_
  refine g_if_ne (tgt := 9) dX4_closePause_4 (by decide) (fun c4 => ?_) (fun c4 => absurd c4 (mbi_n0.mpr ht0))
  refine g_aload_n dX4_closePause_9 rfl ?_
  refine g_gR (r := 19) dX4_closePause_10 fl_X4_41 (fun _ _ => rfl) rfl (by decide) rfl ?_
  refine g_iload_n dX4_closePause_13 rfl ?_
  refine g_ialdN (gx := t) dX4_closePause_14 rfl (by decide) rfl (by omega) (by decide) ?_
  refine g_bipushv (v := (-6)) dX4_closePause_15 rfl ?_
  refine g_icmp_ne (tgt := 23) dX4_closePause_17 (by decide) (fun c17 => absurd hp c17) (fun c17 => ?_)
  refine g_bipushv (v := (-5)) dX4_closePause_20 rfl ?_
  exact g_iret dX4_closePause_22 rfl
set_option maxHeartbeats 4000000 in
set_option maxRecDepth 100000 in
theorem c_clo_0 {L : Nat} {F : Nat → Nat → Int32} {g : Nat → Option Nat} (d : Nat) (n : Nat) (hn : F 7 0 = nI n) (h10 : n ≤ 10) (h3 : F 3 = mMB) (t : Nat) (ht : t < 3) (c : Nat) (hc : c ≤ 4) (ec : sComp (F 8) (F 9) (nI t) (-6) n = nI c) (hp : ¬ F 19 t = (-6)) (em : sMean (F 6) c (F 19 t) = 0) : mCall (d + 3) yX4_closePause MX4_closePause [.ref 5, .int (nI t)] (mHX L F g) (some (.int 0)) (mHX L (xEnd F 0 t 0 (-6)) g) := by
  refine mCall_of sX4_closePause.1 (Nat.le_of_ble_eq_true rfl) ⟨_, rfl, rfl⟩ ?_
  show mGo _ _ (0, [some (.ref 5), some (.int (nI t)), none], [], _) _
  have ht0 : 0 ≤ nI t ∧ nI t < 3 := ⟨nI_pos' (by omega), nI_lt (b := 3) ht (by decide)⟩
  refine g_iload_n dX4_closePause_0 rfl ?_
  refine g_SN1i dX4_closePause_1 ml_X4_63 sX6_isTable (Nat.le_of_ble_eq_true rfl) (c_isTable (d + 2) (nI t)) ?_
  refine g_if_ne (tgt := 9) dX4_closePause_4 (by decide) (fun c4 => ?_) (fun c4 => absurd c4 (mbi_n0.mpr ht0))
  refine g_aload_n dX4_closePause_9 rfl ?_
  refine g_gR (r := 19) dX4_closePause_10 fl_X4_41 (fun _ _ => rfl) rfl (by decide) rfl ?_
  refine g_iload_n dX4_closePause_13 rfl ?_
  refine g_ialdN (gx := t) dX4_closePause_14 rfl (by decide) rfl (by omega) (by decide) ?_
  refine g_bipushv (v := (-6)) dX4_closePause_15 rfl ?_
  refine g_icmp_ne (tgt := 23) dX4_closePause_17 (by decide) (fun c17 => ?_) (fun c17 => absurd c17 hp)
  refine g_aload_n dX4_closePause_23 rfl ?_
  refine g_iload_n dX4_closePause_24 rfl ?_
  refine g_bipushv (v := (-6)) dX4_closePause_25 rfl ?_
  refine g_V2i dX4_closePause_27 ml_X4_94 sX4_meaningNow rfl (by decide) (Nat.le_of_ble_eq_true rfl) (c_meaningNow d n hn h10 h3 t ht (-6) c hc ec) ?_
  rw [em]
  refine g_istore_n dX4_closePause_30 (by decide) rfl ?_
  refine g_aload_n dX4_closePause_31 rfl ?_
  refine g_gR (r := 14) dX4_closePause_32 fl_X4_37 (fun _ _ => rfl) rfl (by decide) rfl ?_
  refine g_iload_n dX4_closePause_35 rfl ?_
  refine g_aload_n dX4_closePause_36 rfl ?_
  refine g_gR (r := 19) dX4_closePause_37 fl_X4_41 (fun _ _ => rfl) rfl (by decide) rfl ?_
  refine g_iload_n dX4_closePause_40 rfl ?_
  refine g_ialdN (gx := t) dX4_closePause_41 rfl (by decide) rfl (by omega) (by decide) ?_
  refine g_V2v dX4_closePause_42 ml_X4_97 sX2_enterMeaning rfl (by decide) (Nat.le_of_ble_eq_true rfl) (c_enter0 (d + 2) (F 19 t)) ?_
  refine g_aload_n dX4_closePause_45 rfl ?_
  refine g_iconstv (v := 0) dX4_closePause_46 rfl ?_
  refine g_iload_n dX4_closePause_47 rfl ?_
  refine g_iload_n dX4_closePause_48 rfl ?_
  refine g_bipushv (v := (-6)) dX4_closePause_49 rfl ?_
  refine g_V4v dX4_closePause_51 ml_X4_101 sX4_endPause rfl (by decide) (Nat.le_of_ble_eq_true rfl) (c_endPause (F := F) d 0 (by decide) t ht 0 (-6)) ?_
  refine g_iload_n dX4_closePause_54 rfl ?_
  exact g_iret dX4_closePause_55 rfl
set_option maxHeartbeats 4000000 in
set_option maxRecDepth 100000 in
theorem c_clo_n {L : Nat} {F : Nat → Nat → Int32} {g : Nat → Option Nat} (d : Nat) (n : Nat) (hn : F 7 0 = nI n) (h10 : n ≤ 10) (h3 : F 3 = mMB) (t : Nat) (ht : t < 3) (c : Nat) (hc : c ≤ 4) (ec : sComp (F 8) (F 9) (nI t) (-6) n = nI c) (hp : ¬ F 19 t = (-6)) (mm : Nat) (h1 : 1 ≤ mm) (h11 : mm ≤ 11) (em : sMean (F 6) c (F 19 t) = nI mm) : mCall (d + 3) yX4_closePause MX4_closePause [.ref 5, .int (nI t)] (mHX L F g) (some (.int (nI mm))) (mHX L (xEnd (xEnter F mm (F 19 t)) 0 t (nI mm) (-6)) g) := by
  refine mCall_of sX4_closePause.1 (Nat.le_of_ble_eq_true rfl) ⟨_, rfl, rfl⟩ ?_
  show mGo _ _ (0, [some (.ref 5), some (.int (nI t)), none], [], _) _
  have ht0 : 0 ≤ nI t ∧ nI t < 3 := ⟨nI_pos' (by omega), nI_lt (b := 3) ht (by decide)⟩
  refine g_iload_n dX4_closePause_0 rfl ?_
  refine g_SN1i dX4_closePause_1 ml_X4_63 sX6_isTable (Nat.le_of_ble_eq_true rfl) (c_isTable (d + 2) (nI t)) ?_
  refine g_if_ne (tgt := 9) dX4_closePause_4 (by decide) (fun c4 => ?_) (fun c4 => absurd c4 (mbi_n0.mpr ht0))
  refine g_aload_n dX4_closePause_9 rfl ?_
  refine g_gR (r := 19) dX4_closePause_10 fl_X4_41 (fun _ _ => rfl) rfl (by decide) rfl ?_
  refine g_iload_n dX4_closePause_13 rfl ?_
  refine g_ialdN (gx := t) dX4_closePause_14 rfl (by decide) rfl (by omega) (by decide) ?_
  refine g_bipushv (v := (-6)) dX4_closePause_15 rfl ?_
  refine g_icmp_ne (tgt := 23) dX4_closePause_17 (by decide) (fun c17 => ?_) (fun c17 => absurd c17 hp)
  refine g_aload_n dX4_closePause_23 rfl ?_
  refine g_iload_n dX4_closePause_24 rfl ?_
  refine g_bipushv (v := (-6)) dX4_closePause_25 rfl ?_
  refine g_V2i dX4_closePause_27 ml_X4_94 sX4_meaningNow rfl (by decide) (Nat.le_of_ble_eq_true rfl) (c_meaningNow d n hn h10 h3 t ht (-6) c hc ec) ?_
  rw [em]
  refine g_istore_n dX4_closePause_30 (by decide) rfl ?_
  refine g_aload_n dX4_closePause_31 rfl ?_
  refine g_gR (r := 14) dX4_closePause_32 fl_X4_37 (fun _ _ => rfl) rfl (by decide) rfl ?_
  refine g_iload_n dX4_closePause_35 rfl ?_
  refine g_aload_n dX4_closePause_36 rfl ?_
  refine g_gR (r := 19) dX4_closePause_37 fl_X4_41 (fun _ _ => rfl) rfl (by decide) rfl ?_
  refine g_iload_n dX4_closePause_40 rfl ?_
  refine g_ialdN (gx := t) dX4_closePause_41 rfl (by decide) rfl (by omega) (by decide) ?_
  refine g_V2v dX4_closePause_42 ml_X4_97 sX2_enterMeaning rfl (by decide) (Nat.le_of_ble_eq_true rfl) (c_enter (d + 1) mm h1 h11 (F 19 t)) ?_
  refine g_aload_n dX4_closePause_45 rfl ?_
  refine g_iconstv (v := 0) dX4_closePause_46 rfl ?_
  refine g_iload_n dX4_closePause_47 rfl ?_
  refine g_iload_n dX4_closePause_48 rfl ?_
  refine g_bipushv (v := (-6)) dX4_closePause_49 rfl ?_
  refine g_V4v dX4_closePause_51 ml_X4_101 sX4_endPause rfl (by decide) (Nat.le_of_ble_eq_true rfl) (c_endPause (F := (xEnter F mm (F 19 t))) d 0 (by decide) t ht (nI mm) (-6)) ?_
  refine g_iload_n dX4_closePause_54 rfl ?_
  exact g_iret dX4_closePause_55 rfl
end
section
set_option maxHeartbeats 4000000 in
set_option maxRecDepth 100000 in
theorem c_err_no {L : Nat} {F : Nat → Nat → Int32} {g : Nat → Option Nat} (d : Nat) (x : Int32) (hb : ¬ (0 ≤ x ∧ x < F 7 0)) : mCall (d + 1) yX4_errorOfBreak MX4_errorOfBreak [.ref 5, .int x] (mHX L F g) (some (.int (-1))) (mHX L F g) := by
  refine mCall_of sX4_errorOfBreak.1 (Nat.le_of_ble_eq_true rfl) ⟨_, rfl, rfl⟩ ?_
  show mGo _ _ (0, [some (.ref 5), some (.int x), none], [], _) _
  refine g_aload_n dX4_errorOfBreak_0 rfl ?_
  refine g_gR (r := 7) dX4_errorOfBreak_1 fl_X4_30 (fun _ _ => rfl) rfl (by decide) rfl ?_
  refine g_iload_n dX4_errorOfBreak_4 rfl ?_
  refine g_V1i dX4_errorOfBreak_5 ml_X4_71 sX0_isKnown rfl (by decide) (Nat.le_of_ble_eq_true rfl) (c_isKnown d x) ?_
  refine g_if_ne (tgt := 13) dX4_errorOfBreak_8 (by decide) (fun c8 => absurd (mbi_f hb) c8) (fun c8 => ?_)
  refine g_iconstv (v := (-1)) dX4_errorOfBreak_11 rfl ?_
  exact g_iret dX4_errorOfBreak_12 rfl
set_option maxHeartbeats 4000000 in
set_option maxRecDepth 100000 in
theorem c_err_gone {L : Nat} {F : Nat → Nat → Int32} {g : Nat → Option Nat} (d : Nat) (n : Nat) (hn : F 7 0 = nI n) (h10 : n ≤ 10) (k : Nat) (hk : k < n) (hs : F 8 k = (-6)) : mCall (d + 1) yX4_errorOfBreak MX4_errorOfBreak [.ref 5, .int (nI k)] (mHX L F g) (some (.int (-5))) (mHX L F g) := by
  refine mCall_of sX4_errorOfBreak.1 (Nat.le_of_ble_eq_true rfl) ⟨_, rfl, rfl⟩ ?_
  show mGo _ _ (0, [some (.ref 5), some (.int (nI k)), none], [], _) _
  have hk0 : 0 ≤ nI k ∧ nI k < F 7 0 := ⟨nI_pos' (by omega), by rw [hn]; exact nI_lt hk (by omega)⟩
  refine g_aload_n dX4_errorOfBreak_0 rfl ?_
  refine g_gR (r := 7) dX4_errorOfBreak_1 fl_X4_30 (fun _ _ => rfl) rfl (by decide) rfl ?_
  refine g_iload_n dX4_errorOfBreak_4 rfl ?_
  refine g_V1i dX4_errorOfBreak_5 ml_X4_71 sX0_isKnown rfl (by decide) (Nat.le_of_ble_eq_true rfl) (c_isKnown d (nI k)) ?_
  refine g_if_ne (tgt := 13) dX4_errorOfBreak_8 (by decide) (fun c8 => ?_) (fun c8 => absurd c8 (mbi_n0.mpr hk0))
  refine g_aload_n dX4_errorOfBreak_13 rfl ?_
  refine g_gR (r := 7) dX4_errorOfBreak_14 fl_X4_30 (fun _ _ => rfl) rfl (by decide) rfl ?_
  refine g_gR (r := 8) dX4_errorOfBreak_17 fl_X4_74 (fun _ _ => rfl) rfl (by decide) rfl ?_
  refine g_iload_n dX4_errorOfBreak_20 rfl ?_
  refine g_ialdN (gx := k) dX4_errorOfBreak_21 rfl (by decide) rfl (by omega) (by decide) ?_
  rw [hs]
  refine g_istore_n dX4_errorOfBreak_22 (by decide) rfl ?_
  refine g_iload_n dX4_errorOfBreak_23 rfl ?_
  refine g_SN1i dX4_errorOfBreak_24 ml_X4_63 sX6_isTable (Nat.le_of_ble_eq_true rfl) (c_isTable d (-6)) ?_
  refine g_if_eq (tgt := 45) dX4_errorOfBreak_27 (by decide) (fun c27 => ?_) (fun c27 => absurd (mbi_f (by decide)) c27)
  refine g_bipushv (v := (-5)) dX4_errorOfBreak_45 rfl ?_
  exact g_iret dX4_errorOfBreak_47 rfl
set_option maxHeartbeats 4000000 in
set_option maxRecDepth 100000 in
theorem c_err_quiet {L : Nat} {F : Nat → Nat → Int32} {g : Nat → Option Nat} (d : Nat) (n : Nat) (hn : F 7 0 = nI n) (h10 : n ≤ 10) (k : Nat) (hk : k < n) (t : Nat) (ht : t < 3) (hs : F 8 k = nI t) (hp : F 19 t = (-6)) : mCall (d + 1) yX4_errorOfBreak MX4_errorOfBreak [.ref 5, .int (nI k)] (mHX L F g) (some (.int (-5))) (mHX L F g) := by
  refine mCall_of sX4_errorOfBreak.1 (Nat.le_of_ble_eq_true rfl) ⟨_, rfl, rfl⟩ ?_
  show mGo _ _ (0, [some (.ref 5), some (.int (nI k)), none], [], _) _
  have hk0 : 0 ≤ nI k ∧ nI k < F 7 0 := ⟨nI_pos' (by omega), by rw [hn]; exact nI_lt hk (by omega)⟩
  have ht0 : 0 ≤ nI t ∧ nI t < 3 := ⟨nI_pos' (by omega), nI_lt (b := 3) ht (by decide)⟩
  refine g_aload_n dX4_errorOfBreak_0 rfl ?_
  refine g_gR (r := 7) dX4_errorOfBreak_1 fl_X4_30 (fun _ _ => rfl) rfl (by decide) rfl ?_
  refine g_iload_n dX4_errorOfBreak_4 rfl ?_
  refine g_V1i dX4_errorOfBreak_5 ml_X4_71 sX0_isKnown rfl (by decide) (Nat.le_of_ble_eq_true rfl) (c_isKnown d (nI k)) ?_
  refine g_if_ne (tgt := 13) dX4_errorOfBreak_8 (by decide) (fun c8 => ?_) (fun c8 => absurd c8 (mbi_n0.mpr hk0))
  refine g_aload_n dX4_errorOfBreak_13 rfl ?_
  refine g_gR (r := 7) dX4_errorOfBreak_14 fl_X4_30 (fun _ _ => rfl) rfl (by decide) rfl ?_
  refine g_gR (r := 8) dX4_errorOfBreak_17 fl_X4_74 (fun _ _ => rfl) rfl (by decide) rfl ?_
  refine g_iload_n dX4_errorOfBreak_20 rfl ?_
  refine g_ialdN (gx := k) dX4_errorOfBreak_21 rfl (by decide) rfl (by omega) (by decide) ?_
  rw [hs]
  refine g_istore_n dX4_errorOfBreak_22 (by decide) rfl ?_
  refine g_iload_n dX4_errorOfBreak_23 rfl ?_
  refine g_SN1i dX4_errorOfBreak_24 ml_X4_63 sX6_isTable (Nat.le_of_ble_eq_true rfl) (c_isTable d (nI t)) ?_
  refine g_if_eq (tgt := 45) dX4_errorOfBreak_27 (by decide) (fun c27 => absurd c27 (mbi_n0.mpr ht0)) (fun c27 => ?_)
  refine g_aload_n dX4_errorOfBreak_30 rfl ?_
  refine g_gR (r := 19) dX4_errorOfBreak_31 fl_X4_41 (fun _ _ => rfl) rfl (by decide) rfl ?_
  refine g_iload_n dX4_errorOfBreak_34 rfl ?_
  refine g_ialdN (gx := t) dX4_errorOfBreak_35 rfl (by decide) rfl (by omega) (by decide) ?_
  refine g_bipushv (v := (-6)) dX4_errorOfBreak_36 rfl ?_
  refine g_icmp_eq (tgt := 45) dX4_errorOfBreak_38 (by decide) (fun c38 => ?_) (fun c38 => absurd hp c38)
  refine g_bipushv (v := (-5)) dX4_errorOfBreak_45 rfl ?_
  exact g_iret dX4_errorOfBreak_47 rfl
set_option maxHeartbeats 4000000 in
set_option maxRecDepth 100000 in
theorem c_err_ok {L : Nat} {F : Nat → Nat → Int32} {g : Nat → Option Nat} (d : Nat) (n : Nat) (hn : F 7 0 = nI n) (h10 : n ≤ 10) (k : Nat) (hk : k < n) (t : Nat) (ht : t < 3) (hs : F 8 k = nI t) (hp : ¬ F 19 t = (-6)) : mCall (d + 1) yX4_errorOfBreak MX4_errorOfBreak [.ref 5, .int (nI k)] (mHX L F g) (some (.int 0)) (mHX L F g) := by
  refine mCall_of sX4_errorOfBreak.1 (Nat.le_of_ble_eq_true rfl) ⟨_, rfl, rfl⟩ ?_
  show mGo _ _ (0, [some (.ref 5), some (.int (nI k)), none], [], _) _
  have hk0 : 0 ≤ nI k ∧ nI k < F 7 0 := ⟨nI_pos' (by omega), by rw [hn]; exact nI_lt hk (by omega)⟩
  have ht0 : 0 ≤ nI t ∧ nI t < 3 := ⟨nI_pos' (by omega), nI_lt (b := 3) ht (by decide)⟩
  refine g_aload_n dX4_errorOfBreak_0 rfl ?_
  refine g_gR (r := 7) dX4_errorOfBreak_1 fl_X4_30 (fun _ _ => rfl) rfl (by decide) rfl ?_
  refine g_iload_n dX4_errorOfBreak_4 rfl ?_
  refine g_V1i dX4_errorOfBreak_5 ml_X4_71 sX0_isKnown rfl (by decide) (Nat.le_of_ble_eq_true rfl) (c_isKnown d (nI k)) ?_
  refine g_if_ne (tgt := 13) dX4_errorOfBreak_8 (by decide) (fun c8 => ?_) (fun c8 => absurd c8 (mbi_n0.mpr hk0))
  refine g_aload_n dX4_errorOfBreak_13 rfl ?_
  refine g_gR (r := 7) dX4_errorOfBreak_14 fl_X4_30 (fun _ _ => rfl) rfl (by decide) rfl ?_
  refine g_gR (r := 8) dX4_errorOfBreak_17 fl_X4_74 (fun _ _ => rfl) rfl (by decide) rfl ?_
  refine g_iload_n dX4_errorOfBreak_20 rfl ?_
  refine g_ialdN (gx := k) dX4_errorOfBreak_21 rfl (by decide) rfl (by omega) (by decide) ?_
  rw [hs]
  refine g_istore_n dX4_errorOfBreak_22 (by decide) rfl ?_
  refine g_iload_n dX4_errorOfBreak_23 rfl ?_
  refine g_SN1i dX4_errorOfBreak_24 ml_X4_63 sX6_isTable (Nat.le_of_ble_eq_true rfl) (c_isTable d (nI t)) ?_
  refine g_if_eq (tgt := 45) dX4_errorOfBreak_27 (by decide) (fun c27 => absurd c27 (mbi_n0.mpr ht0)) (fun c27 => ?_)
  refine g_aload_n dX4_errorOfBreak_30 rfl ?_
  refine g_gR (r := 19) dX4_errorOfBreak_31 fl_X4_41 (fun _ _ => rfl) rfl (by decide) rfl ?_
  refine g_iload_n dX4_errorOfBreak_34 rfl ?_
  refine g_ialdN (gx := t) dX4_errorOfBreak_35 rfl (by decide) rfl (by omega) (by decide) ?_
  refine g_bipushv (v := (-6)) dX4_errorOfBreak_36 rfl ?_
  refine g_icmp_eq (tgt := 45) dX4_errorOfBreak_38 (by decide) (fun c38 => absurd c38 hp) (fun c38 => ?_)
  refine g_iconstv (v := 0) dX4_errorOfBreak_41 rfl ?_
  refine g_goto (tgt := 47) dX4_errorOfBreak_42 (by decide) ?_
  exact g_iret dX4_errorOfBreak_47 rfl
set_option maxHeartbeats 4000000 in
set_option maxRecDepth 100000 in
theorem c_wrd_no {L : Nat} {F : Nat → Nat → Int32} {g : Nat → Option Nat} (d : Nat) (x : Int32) (hb : ¬ (0 ≤ x ∧ x < F 7 0)) : mCall (d + 2) yX4_breakByWord MX4_breakByWord [.ref 5, .int x] (mHX L F g) (some (.int (-1))) (mHX L F g) := by
  refine mCall_of sX4_breakByWord.1 (Nat.le_of_ble_eq_true rfl) ⟨_, rfl, rfl⟩ ?_
  show mGo _ _ (0, [some (.ref 5), some (.int x), none, none, none], [], _) _
  refine g_aload_n dX4_breakByWord_0 rfl ?_
  refine g_iload_n dX4_breakByWord_1 rfl ?_
  refine g_V1i dX4_breakByWord_2 ml_X4_105 sX4_errorOfBreak rfl (by decide) (Nat.le_of_ble_eq_true rfl) (c_err_no d x hb) ?_
  refine g_istore_n dX4_breakByWord_5 (by decide) rfl ?_
  refine g_iload_n dX4_breakByWord_6 rfl ?_
  refine g_if_eq (tgt := 12) dX4_breakByWord_7 (by decide) (fun c7 => absurd c7 (by decide)) (fun c7 => ?_)
  refine g_iload_n dX4_breakByWord_10 rfl ?_
  exact g_iret dX4_breakByWord_11 rfl
set_option maxHeartbeats 4000000 in
set_option maxRecDepth 100000 in
theorem c_wrd_gone {L : Nat} {F : Nat → Nat → Int32} {g : Nat → Option Nat} (d : Nat) (n : Nat) (hn : F 7 0 = nI n) (h10 : n ≤ 10) (k : Nat) (hk : k < n) (hs : F 8 k = (-6)) : mCall (d + 2) yX4_breakByWord MX4_breakByWord [.ref 5, .int (nI k)] (mHX L F g) (some (.int (-5))) (mHX L F g) := by
  refine mCall_of sX4_breakByWord.1 (Nat.le_of_ble_eq_true rfl) ⟨_, rfl, rfl⟩ ?_
  show mGo _ _ (0, [some (.ref 5), some (.int (nI k)), none, none, none], [], _) _
  refine g_aload_n dX4_breakByWord_0 rfl ?_
  refine g_iload_n dX4_breakByWord_1 rfl ?_
  refine g_V1i dX4_breakByWord_2 ml_X4_105 sX4_errorOfBreak rfl (by decide) (Nat.le_of_ble_eq_true rfl) (c_err_gone d n hn h10 k hk hs) ?_
  refine g_istore_n dX4_breakByWord_5 (by decide) rfl ?_
  refine g_iload_n dX4_breakByWord_6 rfl ?_
  refine g_if_eq (tgt := 12) dX4_breakByWord_7 (by decide) (fun c7 => absurd c7 (by decide)) (fun c7 => ?_)
  refine g_iload_n dX4_breakByWord_10 rfl ?_
  exact g_iret dX4_breakByWord_11 rfl
set_option maxHeartbeats 4000000 in
set_option maxRecDepth 100000 in
theorem c_wrd_quiet {L : Nat} {F : Nat → Nat → Int32} {g : Nat → Option Nat} (d : Nat) (n : Nat) (hn : F 7 0 = nI n) (h10 : n ≤ 10) (k : Nat) (hk : k < n) (t : Nat) (ht : t < 3) (hs : F 8 k = nI t) (hp : F 19 t = (-6)) : mCall (d + 2) yX4_breakByWord MX4_breakByWord [.ref 5, .int (nI k)] (mHX L F g) (some (.int (-5))) (mHX L F g) := by
  refine mCall_of sX4_breakByWord.1 (Nat.le_of_ble_eq_true rfl) ⟨_, rfl, rfl⟩ ?_
  show mGo _ _ (0, [some (.ref 5), some (.int (nI k)), none, none, none], [], _) _
  refine g_aload_n dX4_breakByWord_0 rfl ?_
  refine g_iload_n dX4_breakByWord_1 rfl ?_
  refine g_V1i dX4_breakByWord_2 ml_X4_105 sX4_errorOfBreak rfl (by decide) (Nat.le_of_ble_eq_true rfl) (c_err_quiet d n hn h10 k hk t ht hs hp) ?_
  refine g_istore_n dX4_breakByWord_5 (by decide) rfl ?_
  refine g_iload_n dX4_breakByWord_6 rfl ?_
  refine g_if_eq (tgt := 12) dX4_breakByWord_7 (by decide) (fun c7 => absurd c7 (by decide)) (fun c7 => ?_)
  refine g_iload_n dX4_breakByWord_10 rfl ?_
  exact g_iret dX4_breakByWord_11 rfl
set_option maxHeartbeats 4000000 in
set_option maxRecDepth 100000 in
theorem c_cgh_no {L : Nat} {F : Nat → Nat → Int32} {g : Nat → Option Nat} (d : Nat) (x : Int32) (hb : ¬ (0 ≤ x ∧ x < F 7 0)) : mCall (d + 2) yX4_breakByCough MX4_breakByCough [.ref 5, .int x] (mHX L F g) (some (.int (-1))) (mHX L F g) := by
  refine mCall_of sX4_breakByCough.1 (Nat.le_of_ble_eq_true rfl) ⟨_, rfl, rfl⟩ ?_
  show mGo _ _ (0, [some (.ref 5), some (.int x), none, none, none], [], _) _
  refine g_aload_n dX4_breakByCough_0 rfl ?_
  refine g_iload_n dX4_breakByCough_1 rfl ?_
  refine g_V1i dX4_breakByCough_2 ml_X4_105 sX4_errorOfBreak rfl (by decide) (Nat.le_of_ble_eq_true rfl) (c_err_no d x hb) ?_
  refine g_istore_n dX4_breakByCough_5 (by decide) rfl ?_
  refine g_iload_n dX4_breakByCough_6 rfl ?_
  refine g_if_eq (tgt := 12) dX4_breakByCough_7 (by decide) (fun c7 => absurd c7 (by decide)) (fun c7 => ?_)
  refine g_iload_n dX4_breakByCough_10 rfl ?_
  exact g_iret dX4_breakByCough_11 rfl
set_option maxHeartbeats 4000000 in
set_option maxRecDepth 100000 in
theorem c_cgh_gone {L : Nat} {F : Nat → Nat → Int32} {g : Nat → Option Nat} (d : Nat) (n : Nat) (hn : F 7 0 = nI n) (h10 : n ≤ 10) (k : Nat) (hk : k < n) (hs : F 8 k = (-6)) : mCall (d + 2) yX4_breakByCough MX4_breakByCough [.ref 5, .int (nI k)] (mHX L F g) (some (.int (-5))) (mHX L F g) := by
  refine mCall_of sX4_breakByCough.1 (Nat.le_of_ble_eq_true rfl) ⟨_, rfl, rfl⟩ ?_
  show mGo _ _ (0, [some (.ref 5), some (.int (nI k)), none, none, none], [], _) _
  refine g_aload_n dX4_breakByCough_0 rfl ?_
  refine g_iload_n dX4_breakByCough_1 rfl ?_
  refine g_V1i dX4_breakByCough_2 ml_X4_105 sX4_errorOfBreak rfl (by decide) (Nat.le_of_ble_eq_true rfl) (c_err_gone d n hn h10 k hk hs) ?_
  refine g_istore_n dX4_breakByCough_5 (by decide) rfl ?_
  refine g_iload_n dX4_breakByCough_6 rfl ?_
  refine g_if_eq (tgt := 12) dX4_breakByCough_7 (by decide) (fun c7 => absurd c7 (by decide)) (fun c7 => ?_)
  refine g_iload_n dX4_breakByCough_10 rfl ?_
  exact g_iret dX4_breakByCough_11 rfl
set_option maxHeartbeats 4000000 in
set_option maxRecDepth 100000 in
theorem c_cgh_quiet {L : Nat} {F : Nat → Nat → Int32} {g : Nat → Option Nat} (d : Nat) (n : Nat) (hn : F 7 0 = nI n) (h10 : n ≤ 10) (k : Nat) (hk : k < n) (t : Nat) (ht : t < 3) (hs : F 8 k = nI t) (hp : F 19 t = (-6)) : mCall (d + 2) yX4_breakByCough MX4_breakByCough [.ref 5, .int (nI k)] (mHX L F g) (some (.int (-5))) (mHX L F g) := by
  refine mCall_of sX4_breakByCough.1 (Nat.le_of_ble_eq_true rfl) ⟨_, rfl, rfl⟩ ?_
  show mGo _ _ (0, [some (.ref 5), some (.int (nI k)), none, none, none], [], _) _
  refine g_aload_n dX4_breakByCough_0 rfl ?_
  refine g_iload_n dX4_breakByCough_1 rfl ?_
  refine g_V1i dX4_breakByCough_2 ml_X4_105 sX4_errorOfBreak rfl (by decide) (Nat.le_of_ble_eq_true rfl) (c_err_quiet d n hn h10 k hk t ht hs hp) ?_
  refine g_istore_n dX4_breakByCough_5 (by decide) rfl ?_
  refine g_iload_n dX4_breakByCough_6 rfl ?_
  refine g_if_eq (tgt := 12) dX4_breakByCough_7 (by decide) (fun c7 => absurd c7 (by decide)) (fun c7 => ?_)
  refine g_iload_n dX4_breakByCough_10 rfl ?_
  exact g_iret dX4_breakByCough_11 rfl
set_option maxHeartbeats 4000000 in
set_option maxRecDepth 100000 in
theorem c_wrd_self {L : Nat} {F : Nat → Nat → Int32} {g : Nat → Option Nat} (d : Nat) (n : Nat) (hn : F 7 0 = nI n) (h10 : n ≤ 10) (k : Nat) (hk : k < n) (t : Nat) (ht : t < 3) (hs : F 8 k = nI t) (hp : ¬ F 19 t = (-6)) (h : Nat) (hh : h < 10) (eh : sHost (F 8) (F 9) (nI t) n = nI h) (hhk : h = k) : mCall (d + 3) yX4_breakByWord MX4_breakByWord [.ref 5, .int (nI k)] (mHX L F g) (some (.int ((xEnd (pe (pe F 10 k ((F 10 k) + (F 6 3))) 12 k (((pe F 10 k ((F 10 k) + (F 6 3))) 12 k) + 1)) 1 t 0 (nI k)) 10 k))) (mHX L (xEnd (pe (pe F 10 k ((F 10 k) + (F 6 3))) 12 k (((pe F 10 k ((F 10 k) + (F 6 3))) 12 k) + 1)) 1 t 0 (nI k)) g) := by
  refine mCall_of sX4_breakByWord.1 (Nat.le_of_ble_eq_true rfl) ⟨_, rfl, rfl⟩ ?_
  show mGo _ _ (0, [some (.ref 5), some (.int (nI k)), none, none, none], [], _) _
  refine g_aload_n dX4_breakByWord_0 rfl ?_
  refine g_iload_n dX4_breakByWord_1 rfl ?_
  refine g_V1i dX4_breakByWord_2 ml_X4_105 sX4_errorOfBreak rfl (by decide) (Nat.le_of_ble_eq_true rfl) (c_err_ok (d + 1) n hn h10 k hk t ht hs hp) ?_
  refine g_istore_n dX4_breakByWord_5 (by decide) rfl ?_
  refine g_iload_n dX4_breakByWord_6 rfl ?_
  refine g_if_eq (tgt := 12) dX4_breakByWord_7 (by decide) (fun c7 => ?_) (fun c7 => absurd (by decide) c7)
  refine g_aload_n dX4_breakByWord_12 rfl ?_
  refine g_gR (r := 7) dX4_breakByWord_13 fl_X4_30 (fun _ _ => rfl) rfl (by decide) rfl ?_
  refine g_gR (r := 8) dX4_breakByWord_16 fl_X4_74 (fun _ _ => rfl) rfl (by decide) rfl ?_
  refine g_iload_n dX4_breakByWord_19 rfl ?_
  refine g_ialdN (gx := k) dX4_breakByWord_20 rfl (by decide) rfl (by omega) (by decide) ?_
  rw [hs]
  refine g_istore_n dX4_breakByWord_21 (by decide) rfl ?_
  refine g_aload_n dX4_breakByWord_22 rfl ?_
  refine g_gR (r := 7) dX4_breakByWord_23 fl_X4_30 (fun _ _ => rfl) rfl (by decide) rfl ?_
  refine g_iload_n dX4_breakByWord_26 rfl ?_
  refine g_V1i dX4_breakByWord_27 ml_X4_108 sX0_hostOf rfl (by decide) (Nat.le_of_ble_eq_true rfl) (c_hostOf (d + 2) n hn h10 (nI t)) ?_
  rw [eh]
  refine g_istore dX4_breakByWord_30 (by decide) rfl ?_
  refine g_aload_n dX4_breakByWord_32 rfl ?_
  refine g_gR (r := 7) dX4_breakByWord_33 fl_X4_30 (fun _ _ => rfl) rfl (by decide) rfl ?_
  refine g_gR (r := 10) dX4_breakByWord_36 fl_X4_111 (fun _ _ => rfl) rfl (by decide) rfl ?_
  refine g_iload_n dX4_breakByWord_39 rfl ?_
  refine g_dup2 dX4_breakByWord_40 rfl rfl ?_
  refine g_ialdN (gx := k) dX4_breakByWord_41 rfl (by decide) rfl (by omega) (by decide) ?_
  refine g_aload_n dX4_breakByWord_42 rfl ?_
  refine g_gR (r := 6) dX4_breakByWord_43 fl_X4_24 (fun _ _ => rfl) rfl (by decide) rfl ?_
  refine g_iconstv (v := 3) dX4_breakByWord_46 rfl ?_
  refine g_ialdN (gx := 3) dX4_breakByWord_47 rfl (by decide) rfl (by omega) (by decide) ?_
  refine g_iadd dX4_breakByWord_48 ?_
  refine g_iastN (gx := k) dX4_breakByWord_49 rfl (by decide) rfl (by omega) (by decide) ?_
  refine g_iload dX4_breakByWord_50 rfl ?_
  refine g_bipushv (v := (-6)) dX4_breakByWord_52 rfl ?_
  refine g_icmp_eq (tgt := 77) dX4_breakByWord_54 (by decide) (fun c54 => absurd c54 (m_ne6 (by omega))) (fun c54 => ?_)
  refine g_iload dX4_breakByWord_57 rfl ?_
  refine g_iload_n dX4_breakByWord_59 rfl ?_
  refine g_icmp_eq (tgt := 77) dX4_breakByWord_60 (by decide) (fun c60 => ?_) (fun c60 => absurd (by rw [hhk]) c60)
  refine g_aload_n dX4_breakByWord_77 rfl ?_
  refine g_gR (r := 7) dX4_breakByWord_78 fl_X4_30 (fun _ _ => rfl) rfl (by decide) rfl ?_
  refine g_gR (r := 12) dX4_breakByWord_81 fl_X4_114 (fun _ _ => rfl) rfl (by decide) rfl ?_
  refine g_iload_n dX4_breakByWord_84 rfl ?_
  refine g_dup2 dX4_breakByWord_85 rfl rfl ?_
  refine g_ialdN (gx := k) dX4_breakByWord_86 rfl (by decide) rfl (by omega) (by decide) ?_
  refine g_iconstv (v := 1) dX4_breakByWord_87 rfl ?_
  refine g_iadd dX4_breakByWord_88 ?_
  refine g_iastN (gx := k) dX4_breakByWord_89 rfl (by decide) rfl (by omega) (by decide) ?_
  refine g_aload_n dX4_breakByWord_90 rfl ?_
  refine g_iconstv (v := 1) dX4_breakByWord_91 rfl ?_
  refine g_iload_n dX4_breakByWord_92 rfl ?_
  refine g_iconstv (v := 0) dX4_breakByWord_93 rfl ?_
  refine g_iload_n dX4_breakByWord_94 rfl ?_
  refine g_V4v dX4_breakByWord_95 ml_X4_101 sX4_endPause rfl (by decide) (Nat.le_of_ble_eq_true rfl) (c_endPause (F := (pe (pe F 10 k ((F 10 k) + (F 6 3))) 12 k (((pe F 10 k ((F 10 k) + (F 6 3))) 12 k) + 1))) d 1 (by decide) t ht 0 (nI k)) ?_
  refine g_aload_n dX4_breakByWord_98 rfl ?_
  refine g_gR (r := 7) dX4_breakByWord_99 fl_X4_30 (fun _ _ => rfl) rfl (by decide) rfl ?_
  refine g_gR (r := 10) dX4_breakByWord_102 fl_X4_111 (fun _ _ => rfl) rfl (by decide) rfl ?_
  refine g_iload_n dX4_breakByWord_105 rfl ?_
  refine g_ialdN (gx := k) dX4_breakByWord_106 rfl (by decide) rfl (by omega) (by decide) ?_
  exact g_iret dX4_breakByWord_107 rfl
set_option maxHeartbeats 4000000 in
set_option maxRecDepth 100000 in
theorem c_wrd_other {L : Nat} {F : Nat → Nat → Int32} {g : Nat → Option Nat} (d : Nat) (n : Nat) (hn : F 7 0 = nI n) (h10 : n ≤ 10) (k : Nat) (hk : k < n) (t : Nat) (ht : t < 3) (hs : F 8 k = nI t) (hp : ¬ F 19 t = (-6)) (h : Nat) (hh : h < 10) (eh : sHost (F 8) (F 9) (nI t) n = nI h) (hhk : h ≠ k) : mCall (d + 3) yX4_breakByWord MX4_breakByWord [.ref 5, .int (nI k)] (mHX L F g) (some (.int ((xEnd (pe (pe (pe F 10 k ((F 10 k) + (F 6 3))) 10 h (((pe F 10 k ((F 10 k) + (F 6 3))) 10 h) + 1)) 12 k (((pe (pe F 10 k ((F 10 k) + (F 6 3))) 10 h (((pe F 10 k ((F 10 k) + (F 6 3))) 10 h) + 1)) 12 k) + 1)) 1 t 0 (nI k)) 10 k))) (mHX L (xEnd (pe (pe (pe F 10 k ((F 10 k) + (F 6 3))) 10 h (((pe F 10 k ((F 10 k) + (F 6 3))) 10 h) + 1)) 12 k (((pe (pe F 10 k ((F 10 k) + (F 6 3))) 10 h (((pe F 10 k ((F 10 k) + (F 6 3))) 10 h) + 1)) 12 k) + 1)) 1 t 0 (nI k)) g) := by
  refine mCall_of sX4_breakByWord.1 (Nat.le_of_ble_eq_true rfl) ⟨_, rfl, rfl⟩ ?_
  show mGo _ _ (0, [some (.ref 5), some (.int (nI k)), none, none, none], [], _) _
  refine g_aload_n dX4_breakByWord_0 rfl ?_
  refine g_iload_n dX4_breakByWord_1 rfl ?_
  refine g_V1i dX4_breakByWord_2 ml_X4_105 sX4_errorOfBreak rfl (by decide) (Nat.le_of_ble_eq_true rfl) (c_err_ok (d + 1) n hn h10 k hk t ht hs hp) ?_
  refine g_istore_n dX4_breakByWord_5 (by decide) rfl ?_
  refine g_iload_n dX4_breakByWord_6 rfl ?_
  refine g_if_eq (tgt := 12) dX4_breakByWord_7 (by decide) (fun c7 => ?_) (fun c7 => absurd (by decide) c7)
  refine g_aload_n dX4_breakByWord_12 rfl ?_
  refine g_gR (r := 7) dX4_breakByWord_13 fl_X4_30 (fun _ _ => rfl) rfl (by decide) rfl ?_
  refine g_gR (r := 8) dX4_breakByWord_16 fl_X4_74 (fun _ _ => rfl) rfl (by decide) rfl ?_
  refine g_iload_n dX4_breakByWord_19 rfl ?_
  refine g_ialdN (gx := k) dX4_breakByWord_20 rfl (by decide) rfl (by omega) (by decide) ?_
  rw [hs]
  refine g_istore_n dX4_breakByWord_21 (by decide) rfl ?_
  refine g_aload_n dX4_breakByWord_22 rfl ?_
  refine g_gR (r := 7) dX4_breakByWord_23 fl_X4_30 (fun _ _ => rfl) rfl (by decide) rfl ?_
  refine g_iload_n dX4_breakByWord_26 rfl ?_
  refine g_V1i dX4_breakByWord_27 ml_X4_108 sX0_hostOf rfl (by decide) (Nat.le_of_ble_eq_true rfl) (c_hostOf (d + 2) n hn h10 (nI t)) ?_
  rw [eh]
  refine g_istore dX4_breakByWord_30 (by decide) rfl ?_
  refine g_aload_n dX4_breakByWord_32 rfl ?_
  refine g_gR (r := 7) dX4_breakByWord_33 fl_X4_30 (fun _ _ => rfl) rfl (by decide) rfl ?_
  refine g_gR (r := 10) dX4_breakByWord_36 fl_X4_111 (fun _ _ => rfl) rfl (by decide) rfl ?_
  refine g_iload_n dX4_breakByWord_39 rfl ?_
  refine g_dup2 dX4_breakByWord_40 rfl rfl ?_
  refine g_ialdN (gx := k) dX4_breakByWord_41 rfl (by decide) rfl (by omega) (by decide) ?_
  refine g_aload_n dX4_breakByWord_42 rfl ?_
  refine g_gR (r := 6) dX4_breakByWord_43 fl_X4_24 (fun _ _ => rfl) rfl (by decide) rfl ?_
  refine g_iconstv (v := 3) dX4_breakByWord_46 rfl ?_
  refine g_ialdN (gx := 3) dX4_breakByWord_47 rfl (by decide) rfl (by omega) (by decide) ?_
  refine g_iadd dX4_breakByWord_48 ?_
  refine g_iastN (gx := k) dX4_breakByWord_49 rfl (by decide) rfl (by omega) (by decide) ?_
  refine g_iload dX4_breakByWord_50 rfl ?_
  refine g_bipushv (v := (-6)) dX4_breakByWord_52 rfl ?_
  refine g_icmp_eq (tgt := 77) dX4_breakByWord_54 (by decide) (fun c54 => absurd c54 (m_ne6 (by omega))) (fun c54 => ?_)
  refine g_iload dX4_breakByWord_57 rfl ?_
  refine g_iload_n dX4_breakByWord_59 rfl ?_
  refine g_icmp_eq (tgt := 77) dX4_breakByWord_60 (by decide) (fun c60 => absurd c60 (fun q => hhk ((nI_eq (by omega) (by omega)).mp q))) (fun c60 => ?_)
  refine g_aload_n dX4_breakByWord_63 rfl ?_
  refine g_gR (r := 7) dX4_breakByWord_64 fl_X4_30 (fun _ _ => rfl) rfl (by decide) rfl ?_
  refine g_gR (r := 10) dX4_breakByWord_67 fl_X4_111 (fun _ _ => rfl) rfl (by decide) rfl ?_
  refine g_iload dX4_breakByWord_70 rfl ?_
  refine g_dup2 dX4_breakByWord_72 rfl rfl ?_
  refine g_ialdN (gx := h) dX4_breakByWord_73 rfl (by decide) rfl (by omega) (by decide) ?_
  refine g_iconstv (v := 1) dX4_breakByWord_74 rfl ?_
  refine g_iadd dX4_breakByWord_75 ?_
  refine g_iastN (gx := h) dX4_breakByWord_76 rfl (by decide) rfl (by omega) (by decide) ?_
  refine g_aload_n dX4_breakByWord_77 rfl ?_
  refine g_gR (r := 7) dX4_breakByWord_78 fl_X4_30 (fun _ _ => rfl) rfl (by decide) rfl ?_
  refine g_gR (r := 12) dX4_breakByWord_81 fl_X4_114 (fun _ _ => rfl) rfl (by decide) rfl ?_
  refine g_iload_n dX4_breakByWord_84 rfl ?_
  refine g_dup2 dX4_breakByWord_85 rfl rfl ?_
  refine g_ialdN (gx := k) dX4_breakByWord_86 rfl (by decide) rfl (by omega) (by decide) ?_
  refine g_iconstv (v := 1) dX4_breakByWord_87 rfl ?_
  refine g_iadd dX4_breakByWord_88 ?_
  refine g_iastN (gx := k) dX4_breakByWord_89 rfl (by decide) rfl (by omega) (by decide) ?_
  refine g_aload_n dX4_breakByWord_90 rfl ?_
  refine g_iconstv (v := 1) dX4_breakByWord_91 rfl ?_
  refine g_iload_n dX4_breakByWord_92 rfl ?_
  refine g_iconstv (v := 0) dX4_breakByWord_93 rfl ?_
  refine g_iload_n dX4_breakByWord_94 rfl ?_
  refine g_V4v dX4_breakByWord_95 ml_X4_101 sX4_endPause rfl (by decide) (Nat.le_of_ble_eq_true rfl) (c_endPause (F := (pe (pe (pe F 10 k ((F 10 k) + (F 6 3))) 10 h (((pe F 10 k ((F 10 k) + (F 6 3))) 10 h) + 1)) 12 k (((pe (pe F 10 k ((F 10 k) + (F 6 3))) 10 h (((pe F 10 k ((F 10 k) + (F 6 3))) 10 h) + 1)) 12 k) + 1))) d 1 (by decide) t ht 0 (nI k)) ?_
  refine g_aload_n dX4_breakByWord_98 rfl ?_
  refine g_gR (r := 7) dX4_breakByWord_99 fl_X4_30 (fun _ _ => rfl) rfl (by decide) rfl ?_
  refine g_gR (r := 10) dX4_breakByWord_102 fl_X4_111 (fun _ _ => rfl) rfl (by decide) rfl ?_
  refine g_iload_n dX4_breakByWord_105 rfl ?_
  refine g_ialdN (gx := k) dX4_breakByWord_106 rfl (by decide) rfl (by omega) (by decide) ?_
  exact g_iret dX4_breakByWord_107 rfl
set_option maxHeartbeats 4000000 in
set_option maxRecDepth 100000 in
theorem c_cgh_self {L : Nat} {F : Nat → Nat → Int32} {g : Nat → Option Nat} (d : Nat) (n : Nat) (hn : F 7 0 = nI n) (h10 : n ≤ 10) (k : Nat) (hk : k < n) (t : Nat) (ht : t < 3) (hs : F 8 k = nI t) (hp : ¬ F 19 t = (-6)) (el : sLend (F 8) (F 9) (F 11) (nI k) (nI t) n = (-6)) : mCall (d + 3) yX4_breakByCough MX4_breakByCough [.ref 5, .int (nI k)] (mHX L F g) (some (.int (-6))) (mHX L (xEnd (pe (pe F 10 k ((F 10 k) + (F 6 3))) 12 k (((pe F 10 k ((F 10 k) + (F 6 3))) 12 k) + 1)) 2 t 0 (nI k)) g) := by
  refine mCall_of sX4_breakByCough.1 (Nat.le_of_ble_eq_true rfl) ⟨_, rfl, rfl⟩ ?_
  show mGo _ _ (0, [some (.ref 5), some (.int (nI k)), none, none, none], [], _) _
  refine g_aload_n dX4_breakByCough_0 rfl ?_
  refine g_iload_n dX4_breakByCough_1 rfl ?_
  refine g_V1i dX4_breakByCough_2 ml_X4_105 sX4_errorOfBreak rfl (by decide) (Nat.le_of_ble_eq_true rfl) (c_err_ok (d + 1) n hn h10 k hk t ht hs hp) ?_
  refine g_istore_n dX4_breakByCough_5 (by decide) rfl ?_
  refine g_iload_n dX4_breakByCough_6 rfl ?_
  refine g_if_eq (tgt := 12) dX4_breakByCough_7 (by decide) (fun c7 => ?_) (fun c7 => absurd (by decide) c7)
  refine g_aload_n dX4_breakByCough_12 rfl ?_
  refine g_gR (r := 7) dX4_breakByCough_13 fl_X4_30 (fun _ _ => rfl) rfl (by decide) rfl ?_
  refine g_gR (r := 8) dX4_breakByCough_16 fl_X4_74 (fun _ _ => rfl) rfl (by decide) rfl ?_
  refine g_iload_n dX4_breakByCough_19 rfl ?_
  refine g_ialdN (gx := k) dX4_breakByCough_20 rfl (by decide) rfl (by omega) (by decide) ?_
  rw [hs]
  refine g_istore_n dX4_breakByCough_21 (by decide) rfl ?_
  refine g_aload_n dX4_breakByCough_22 rfl ?_
  refine g_gR (r := 7) dX4_breakByCough_23 fl_X4_30 (fun _ _ => rfl) rfl (by decide) rfl ?_
  refine g_iload_n dX4_breakByCough_26 rfl ?_
  refine g_iload_n dX4_breakByCough_27 rfl ?_
  refine g_V2i dX4_breakByCough_28 ml_X4_117 sX0_lenderTo rfl (by decide) (Nat.le_of_ble_eq_true rfl) (c_lenderTo (d + 2) n hn h10 (nI k) (nI t)) ?_
  rw [el]
  refine g_istore dX4_breakByCough_31 (by decide) rfl ?_
  refine g_iload dX4_breakByCough_33 rfl ?_
  refine g_bipushv (v := (-6)) dX4_breakByCough_35 rfl ?_
  refine g_icmp_ne (tgt := 61) dX4_breakByCough_37 (by decide) (fun c37 => absurd (by decide) c37) (fun c37 => ?_)
  refine g_aload_n dX4_breakByCough_40 rfl ?_
  refine g_gR (r := 7) dX4_breakByCough_41 fl_X4_30 (fun _ _ => rfl) rfl (by decide) rfl ?_
  refine g_gR (r := 10) dX4_breakByCough_44 fl_X4_111 (fun _ _ => rfl) rfl (by decide) rfl ?_
  refine g_iload_n dX4_breakByCough_47 rfl ?_
  refine g_dup2 dX4_breakByCough_48 rfl rfl ?_
  refine g_ialdN (gx := k) dX4_breakByCough_49 rfl (by decide) rfl (by omega) (by decide) ?_
  refine g_aload_n dX4_breakByCough_50 rfl ?_
  refine g_gR (r := 6) dX4_breakByCough_51 fl_X4_24 (fun _ _ => rfl) rfl (by decide) rfl ?_
  refine g_iconstv (v := 3) dX4_breakByCough_54 rfl ?_
  refine g_ialdN (gx := 3) dX4_breakByCough_55 rfl (by decide) rfl (by omega) (by decide) ?_
  refine g_iadd dX4_breakByCough_56 ?_
  refine g_iastN (gx := k) dX4_breakByCough_57 rfl (by decide) rfl (by omega) (by decide) ?_
  refine g_goto (tgt := 89) dX4_breakByCough_58 (by decide) ?_
  refine g_aload_n dX4_breakByCough_89 rfl ?_
  refine g_gR (r := 7) dX4_breakByCough_90 fl_X4_30 (fun _ _ => rfl) rfl (by decide) rfl ?_
  refine g_gR (r := 12) dX4_breakByCough_93 fl_X4_114 (fun _ _ => rfl) rfl (by decide) rfl ?_
  refine g_iload_n dX4_breakByCough_96 rfl ?_
  refine g_dup2 dX4_breakByCough_97 rfl rfl ?_
  refine g_ialdN (gx := k) dX4_breakByCough_98 rfl (by decide) rfl (by omega) (by decide) ?_
  refine g_iconstv (v := 1) dX4_breakByCough_99 rfl ?_
  refine g_iadd dX4_breakByCough_100 ?_
  refine g_iastN (gx := k) dX4_breakByCough_101 rfl (by decide) rfl (by omega) (by decide) ?_
  refine g_aload_n dX4_breakByCough_102 rfl ?_
  refine g_iconstv (v := 2) dX4_breakByCough_103 rfl ?_
  refine g_iload_n dX4_breakByCough_104 rfl ?_
  refine g_iconstv (v := 0) dX4_breakByCough_105 rfl ?_
  refine g_iload_n dX4_breakByCough_106 rfl ?_
  refine g_V4v dX4_breakByCough_107 ml_X4_101 sX4_endPause rfl (by decide) (Nat.le_of_ble_eq_true rfl) (c_endPause (F := (pe (pe F 10 k ((F 10 k) + (F 6 3))) 12 k (((pe F 10 k ((F 10 k) + (F 6 3))) 12 k) + 1))) d 2 (by decide) t ht 0 (nI k)) ?_
  refine g_iload dX4_breakByCough_110 rfl ?_
  exact g_iret dX4_breakByCough_112 rfl
set_option maxHeartbeats 4000000 in
set_option maxRecDepth 100000 in
theorem c_cgh_other {L : Nat} {F : Nat → Nat → Int32} {g : Nat → Option Nat} (d : Nat) (n : Nat) (hn : F 7 0 = nI n) (h10 : n ≤ 10) (k : Nat) (hk : k < n) (t : Nat) (ht : t < 3) (hs : F 8 k = nI t) (hp : ¬ F 19 t = (-6)) (h : Nat) (hh : h < 10) (el : sLend (F 8) (F 9) (F 11) (nI k) (nI t) n = nI h) : mCall (d + 3) yX4_breakByCough MX4_breakByCough [.ref 5, .int (nI k)] (mHX L F g) (some (.int (nI h))) (mHX L (xEnd (pe (pe (pe F 11 h ((F 11 h) - 1)) 13 h (((pe F 11 h ((F 11 h) - 1)) 13 h) + 1)) 12 k (((pe (pe F 11 h ((F 11 h) - 1)) 13 h (((pe F 11 h ((F 11 h) - 1)) 13 h) + 1)) 12 k) + 1)) 2 t 0 (nI k)) g) := by
  refine mCall_of sX4_breakByCough.1 (Nat.le_of_ble_eq_true rfl) ⟨_, rfl, rfl⟩ ?_
  show mGo _ _ (0, [some (.ref 5), some (.int (nI k)), none, none, none], [], _) _
  refine g_aload_n dX4_breakByCough_0 rfl ?_
  refine g_iload_n dX4_breakByCough_1 rfl ?_
  refine g_V1i dX4_breakByCough_2 ml_X4_105 sX4_errorOfBreak rfl (by decide) (Nat.le_of_ble_eq_true rfl) (c_err_ok (d + 1) n hn h10 k hk t ht hs hp) ?_
  refine g_istore_n dX4_breakByCough_5 (by decide) rfl ?_
  refine g_iload_n dX4_breakByCough_6 rfl ?_
  refine g_if_eq (tgt := 12) dX4_breakByCough_7 (by decide) (fun c7 => ?_) (fun c7 => absurd (by decide) c7)
  refine g_aload_n dX4_breakByCough_12 rfl ?_
  refine g_gR (r := 7) dX4_breakByCough_13 fl_X4_30 (fun _ _ => rfl) rfl (by decide) rfl ?_
  refine g_gR (r := 8) dX4_breakByCough_16 fl_X4_74 (fun _ _ => rfl) rfl (by decide) rfl ?_
  refine g_iload_n dX4_breakByCough_19 rfl ?_
  refine g_ialdN (gx := k) dX4_breakByCough_20 rfl (by decide) rfl (by omega) (by decide) ?_
  rw [hs]
  refine g_istore_n dX4_breakByCough_21 (by decide) rfl ?_
  refine g_aload_n dX4_breakByCough_22 rfl ?_
  refine g_gR (r := 7) dX4_breakByCough_23 fl_X4_30 (fun _ _ => rfl) rfl (by decide) rfl ?_
  refine g_iload_n dX4_breakByCough_26 rfl ?_
  refine g_iload_n dX4_breakByCough_27 rfl ?_
  refine g_V2i dX4_breakByCough_28 ml_X4_117 sX0_lenderTo rfl (by decide) (Nat.le_of_ble_eq_true rfl) (c_lenderTo (d + 2) n hn h10 (nI k) (nI t)) ?_
  rw [el]
  refine g_istore dX4_breakByCough_31 (by decide) rfl ?_
  refine g_iload dX4_breakByCough_33 rfl ?_
  refine g_bipushv (v := (-6)) dX4_breakByCough_35 rfl ?_
  refine g_icmp_ne (tgt := 61) dX4_breakByCough_37 (by decide) (fun c37 => ?_) (fun c37 => absurd c37 (m_ne6 (by omega)))
  refine g_aload_n dX4_breakByCough_61 rfl ?_
  refine g_gR (r := 7) dX4_breakByCough_62 fl_X4_30 (fun _ _ => rfl) rfl (by decide) rfl ?_
  refine g_gR (r := 11) dX4_breakByCough_65 fl_X4_120 (fun _ _ => rfl) rfl (by decide) rfl ?_
  refine g_iload dX4_breakByCough_68 rfl ?_
  refine g_dup2 dX4_breakByCough_70 rfl rfl ?_
  refine g_ialdN (gx := h) dX4_breakByCough_71 rfl (by decide) rfl (by omega) (by decide) ?_
  refine g_iconstv (v := 1) dX4_breakByCough_72 rfl ?_
  refine g_isub dX4_breakByCough_73 ?_
  refine g_iastN (gx := h) dX4_breakByCough_74 rfl (by decide) rfl (by omega) (by decide) ?_
  refine g_aload_n dX4_breakByCough_75 rfl ?_
  refine g_gR (r := 7) dX4_breakByCough_76 fl_X4_30 (fun _ _ => rfl) rfl (by decide) rfl ?_
  refine g_gR (r := 13) dX4_breakByCough_79 fl_X4_123 (fun _ _ => rfl) rfl (by decide) rfl ?_
  refine g_iload dX4_breakByCough_82 rfl ?_
  refine g_dup2 dX4_breakByCough_84 rfl rfl ?_
  refine g_ialdN (gx := h) dX4_breakByCough_85 rfl (by decide) rfl (by omega) (by decide) ?_
  refine g_iconstv (v := 1) dX4_breakByCough_86 rfl ?_
  refine g_iadd dX4_breakByCough_87 ?_
  refine g_iastN (gx := h) dX4_breakByCough_88 rfl (by decide) rfl (by omega) (by decide) ?_
  refine g_aload_n dX4_breakByCough_89 rfl ?_
  refine g_gR (r := 7) dX4_breakByCough_90 fl_X4_30 (fun _ _ => rfl) rfl (by decide) rfl ?_
  refine g_gR (r := 12) dX4_breakByCough_93 fl_X4_114 (fun _ _ => rfl) rfl (by decide) rfl ?_
  refine g_iload_n dX4_breakByCough_96 rfl ?_
  refine g_dup2 dX4_breakByCough_97 rfl rfl ?_
  refine g_ialdN (gx := k) dX4_breakByCough_98 rfl (by decide) rfl (by omega) (by decide) ?_
  refine g_iconstv (v := 1) dX4_breakByCough_99 rfl ?_
  refine g_iadd dX4_breakByCough_100 ?_
  refine g_iastN (gx := k) dX4_breakByCough_101 rfl (by decide) rfl (by omega) (by decide) ?_
  refine g_aload_n dX4_breakByCough_102 rfl ?_
  refine g_iconstv (v := 2) dX4_breakByCough_103 rfl ?_
  refine g_iload_n dX4_breakByCough_104 rfl ?_
  refine g_iconstv (v := 0) dX4_breakByCough_105 rfl ?_
  refine g_iload_n dX4_breakByCough_106 rfl ?_
  refine g_V4v dX4_breakByCough_107 ml_X4_101 sX4_endPause rfl (by decide) (Nat.le_of_ble_eq_true rfl) (c_endPause (F := (pe (pe (pe F 11 h ((F 11 h) - 1)) 13 h (((pe F 11 h ((F 11 h) - 1)) 13 h) + 1)) 12 k (((pe (pe F 11 h ((F 11 h) - 1)) 13 h (((pe F 11 h ((F 11 h) - 1)) 13 h) + 1)) 12 k) + 1))) d 2 (by decide) t ht 0 (nI k)) ?_
  refine g_iload dX4_breakByCough_110 rfl ?_
  exact g_iret dX4_breakByCough_112 rfl
def sGoF (P : Nat → Int32) (a : Int32) (k : Nat) : Int32 := a + (if P k = (-6) then 0 else 1)
def sGo (P : Nat → Int32) : Int32 := mfold (sGoF P) 0 3
set_option maxHeartbeats 4000000 in
set_option maxRecDepth 100000 in
theorem lp_pauses {L : Nat} {F : Nat → Nat → Int32} {g : Nat → Option Nat} (d : Nat) : ∀ (m k : Nat) (a : Int32), k + m = 3 → a = mfold (sGoF (F 19)) 0 k → mGo MX4_pausesThatGoOn (d) (4, [some (.ref 5), some (.int a), some (.int (nI k))], [], mHX L F g) (some (.int (sGo (F 19))), mHX L F g) := by
  intro m
  induction m with
  | zero =>
    intro k a hk ea
    obtain rfl : k = 3 := by omega
    refine g_iload_n dX4_pausesThatGoOn_4 rfl ?_
    refine g_iconstv (v := 3) dX4_pausesThatGoOn_5 rfl ?_
    refine g_icmp_ge (tgt := 34) dX4_pausesThatGoOn_6 (by decide) (fun c6 => ?_) (fun c6 => absurd (nI_le (a := 3) (b := 3) (by omega) (by omega)) c6)
    refine g_iload_n dX4_pausesThatGoOn_34 rfl ?_
    exact g_iret dX4_pausesThatGoOn_35 (m_ret ea.symm)
  | succ m ih =>
    intro k a hk ea
    refine g_iload_n dX4_pausesThatGoOn_4 rfl ?_
    refine g_iconstv (v := 3) dX4_pausesThatGoOn_5 rfl ?_
    refine g_icmp_ge (tgt := 34) dX4_pausesThatGoOn_6 (by decide) (fun c6 => absurd c6 (nI_ge (a := k) (b := 3) (by omega) (by omega))) (fun c6 => ?_)
    refine g_iload_n dX4_pausesThatGoOn_9 rfl ?_
    refine g_aload_n dX4_pausesThatGoOn_10 rfl ?_
    refine g_gR (r := 19) dX4_pausesThatGoOn_11 fl_X4_41 (fun _ _ => rfl) rfl (by decide) rfl ?_
    refine g_iload_n dX4_pausesThatGoOn_14 rfl ?_
    refine g_ialdN (gx := k) dX4_pausesThatGoOn_15 rfl (by decide) rfl (by omega) (by decide) ?_
    refine g_bipushv (v := (-6)) dX4_pausesThatGoOn_16 rfl ?_
    refine g_icmp_ne (tgt := 25) dX4_pausesThatGoOn_18 (by decide) (fun c18 => ?_) (fun c18 => ?_)
    · skip
      refine g_iconstv (v := 1) dX4_pausesThatGoOn_25 rfl ?_
      refine g_iadd dX4_pausesThatGoOn_26 ?_
      refine g_istore_n dX4_pausesThatGoOn_27 (by decide) rfl ?_
      refine g_iincN dX4_pausesThatGoOn_28 rfl (by decide) rfl ?_
      refine g_goto (tgt := 4) dX4_pausesThatGoOn_31 (by decide) ?_
      exact ih (k + 1) _ (by omega) (by subst ea; rw [mfold_succ]; simp only [sGoF, c18, if_true, if_false, reduceIte, eq_self])
    · skip
      refine g_iconstv (v := 0) dX4_pausesThatGoOn_21 rfl ?_
      refine g_goto (tgt := 26) dX4_pausesThatGoOn_22 (by decide) ?_
      refine g_iadd dX4_pausesThatGoOn_26 ?_
      refine g_istore_n dX4_pausesThatGoOn_27 (by decide) rfl ?_
      refine g_iincN dX4_pausesThatGoOn_28 rfl (by decide) rfl ?_
      refine g_goto (tgt := 4) dX4_pausesThatGoOn_31 (by decide) ?_
      exact ih (k + 1) _ (by omega) (by subst ea; rw [mfold_succ]; simp only [sGoF, c18, if_true, if_false, reduceIte, eq_self])
set_option maxHeartbeats 4000000 in
set_option maxRecDepth 100000 in
theorem c_pauses {L : Nat} {F : Nat → Nat → Int32} {g : Nat → Option Nat} (d : Nat) : mCall (d) yX4_pausesThatGoOn MX4_pausesThatGoOn [.ref 5] (mHX L F g) (some (.int (sGo (F 19)))) (mHX L F g) := by
  refine mCall_of sX4_pausesThatGoOn.1 (Nat.le_of_ble_eq_true rfl) ⟨_, rfl, rfl⟩ ?_
  show mGo _ _ (0, [some (.ref 5), none, none], [], _) _
  refine g_iconstv (v := 0) dX4_pausesThatGoOn_0 rfl ?_
  refine g_istore_n dX4_pausesThatGoOn_1 (by decide) rfl ?_
  refine g_iconstv (v := 0) dX4_pausesThatGoOn_2 rfl ?_
  refine g_istore_n dX4_pausesThatGoOn_3 (by decide) rfl ?_
  exact lp_pauses d 3 0 _ rfl rfl
def xPassF (s : Int32) (cp : Nat → Nat) (a : (Nat → Nat → Int32) × Int32) (t : Nat) : (Nat → Nat → Int32) × Int32 := if a.1 19 t = (-6) then a else (pe a.1 19 t (a.1 19 t + s), a.2 + (if sMean (a.1 6) (cp t) (a.1 19 t + s) = 0 then 0 else 1))
def xPass (F : Nat → Nat → Int32) (s : Int32) (cp : Nat → Nat) (n : Nat) : (Nat → Nat → Int32) × Int32 := mfold (xPassF s cp) (pe F 5 0 (F 5 0 + s), 0) n
theorem xPass_at (F : Nat → Nat → Int32) (s : Int32) (cp : Nat → Nat) (n c : Nat) (h1 : c ≠ 19) (h2 : c ≠ 5) : (xPass F s cp n).1 c = F c := by
  induction n with
  | zero => exact pe_row h2
  | succ n ih =>
    show (xPassF s cp (xPass F s cp n) n).1 c = F c
    unfold xPassF
    split
    · exact ih
    · rw [← ih]
      exact pe_row h1
set_option maxHeartbeats 4000000 in
set_option maxRecDepth 100000 in
theorem lp_pass {L : Nat} {F : Nat → Nat → Int32} {g : Nat → Option Nat} (d : Nat) (n : Nat) (hn : F 7 0 = nI n) (h10 : n ≤ 10) (h3 : F 3 = mMB) (s : Int32) (cp : Nat → Nat) (hcp : ∀ t, t < 3 → cp t ≤ 4 ∧ sComp (F 8) (F 9) (nI t) (-6) n = nI (cp t)) : ∀ (m k : Nat) (G : Nat → Nat → Int32) (a : Int32), k + m = 3 → G = (xPass F s cp k).1 → a = (xPass F s cp k).2 → mGo MX4_letPass (d + 3) (43, [some (.ref 5), some (.int s), some (.int a), some (.int (nI k))], [], mHX L G g) (some (.int (xPass F s cp 3).2), mHX L (xPass F s cp 3).1 g) := by
  intro m
  induction m with
  | zero =>
    intro k G a hk eG ea
    obtain rfl : k = 3 := by omega
    have e7 : G 7 0 = nI n := by rw [eG, xPass_at _ _ _ _ _ (by decide) (by decide)]; exact hn
    have e3 : G 3 = mMB := by rw [eG, xPass_at _ _ _ _ _ (by decide) (by decide)]; exact h3
    have e8 : G 8 = F 8 := by rw [eG, xPass_at _ _ _ _ _ (by decide) (by decide)]
    have e9 : G 9 = F 9 := by rw [eG, xPass_at _ _ _ _ _ (by decide) (by decide)]
    refine g_iload_n dX4_letPass_43 rfl ?_
    refine g_iconstv (v := 3) dX4_letPass_44 rfl ?_
    refine g_icmp_ge (tgt := 93) dX4_letPass_45 (by decide) (fun c45 => ?_) (fun c45 => absurd (nI_le (a := 3) (b := 3) (by omega) (by omega)) c45)
    refine g_iload_n dX4_letPass_93 rfl ?_
    exact g_iret dX4_letPass_94 (m_ret2 ea.symm (by rw [eG]))
  | succ m ih =>
    intro k G a hk eG ea
    have e7 : G 7 0 = nI n := by rw [eG, xPass_at _ _ _ _ _ (by decide) (by decide)]; exact hn
    have e3 : G 3 = mMB := by rw [eG, xPass_at _ _ _ _ _ (by decide) (by decide)]; exact h3
    have e8 : G 8 = F 8 := by rw [eG, xPass_at _ _ _ _ _ (by decide) (by decide)]
    have e9 : G 9 = F 9 := by rw [eG, xPass_at _ _ _ _ _ (by decide) (by decide)]
    refine g_iload_n dX4_letPass_43 rfl ?_
    refine g_iconstv (v := 3) dX4_letPass_44 rfl ?_
    refine g_icmp_ge (tgt := 93) dX4_letPass_45 (by decide) (fun c45 => absurd c45 (nI_ge (a := k) (b := 3) (by omega) (by omega))) (fun c45 => ?_)
    refine g_aload_n dX4_letPass_48 rfl ?_
    refine g_gR (r := 19) dX4_letPass_49 fl_X4_41 (fun _ _ => rfl) rfl (by decide) rfl ?_
    refine g_iload_n dX4_letPass_52 rfl ?_
    refine g_ialdN (gx := k) dX4_letPass_53 rfl (by decide) rfl (by omega) (by decide) ?_
    refine g_bipushv (v := (-6)) dX4_letPass_54 rfl ?_
    refine g_icmp_eq (tgt := 87) dX4_letPass_56 (by decide) (fun c56 => ?_) (fun c56 => ?_)
    · skip
      refine g_iincN dX4_letPass_87 rfl (by decide) rfl ?_
      refine g_goto (tgt := 43) dX4_letPass_90 (by decide) ?_
      exact ih (k + 1) _ _ (by omega) (by show G = (xPassF s cp (xPass F s cp k) k).1; unfold xPassF; rw [← eG, if_pos c56]; exact eG) (by show a = (xPassF s cp (xPass F s cp k) k).2; unfold xPassF; rw [← eG, if_pos c56]; exact ea)
    · skip
      refine g_aload_n dX4_letPass_59 rfl ?_
      refine g_gR (r := 19) dX4_letPass_60 fl_X4_41 (fun _ _ => rfl) rfl (by decide) rfl ?_
      refine g_iload_n dX4_letPass_63 rfl ?_
      refine g_dup2 dX4_letPass_64 rfl rfl ?_
      refine g_ialdN (gx := k) dX4_letPass_65 rfl (by decide) rfl (by omega) (by decide) ?_
      refine g_iload_n dX4_letPass_66 rfl ?_
      refine g_iadd dX4_letPass_67 ?_
      refine g_iastN (gx := k) dX4_letPass_68 rfl (by decide) rfl (by omega) (by decide) ?_
      refine g_iload_n dX4_letPass_69 rfl ?_
      refine g_aload_n dX4_letPass_70 rfl ?_
      refine g_iload_n dX4_letPass_71 rfl ?_
      refine g_bipushv (v := (-6)) dX4_letPass_72 rfl ?_
      refine g_V2i dX4_letPass_74 ml_X4_94 sX4_meaningNow rfl (by decide) (Nat.le_of_ble_eq_true rfl) (c_meaningNow (F := (pe G 19 k (G 19 k + s))) d n e7 h10 e3 k (by omega) (-6) (cp k) (hcp k (by omega)).1 (by show sComp (G 8) (G 9) _ _ _ = _; rw [e8, e9]; exact (hcp k (by omega)).2)) ?_
      refine g_if_ne (tgt := 84) dX4_letPass_77 (by decide) (fun c77 => ?_) (fun c77 => ?_)
      · skip
        refine g_iconstv (v := 1) dX4_letPass_84 rfl ?_
        refine g_iadd dX4_letPass_85 ?_
        refine g_istore_n dX4_letPass_86 (by decide) rfl ?_
        refine g_iincN dX4_letPass_87 rfl (by decide) rfl ?_
        refine g_goto (tgt := 43) dX4_letPass_90 (by decide) ?_
        exact ih (k + 1) _ _ (by omega) (by show _ = (xPassF s cp (xPass F s cp k) k).1; unfold xPassF; rw [← eG, if_neg c56]) (by show _ = (xPassF s cp (xPass F s cp k) k).2; unfold xPassF; rw [← eG, if_neg c56, ← ea]; show _ = a + (if sMean (G 6) (cp k) (G 19 k + s) = 0 then (0 : Int32) else 1); rw [if_neg (by have c77x := c77; rw [pe_eq, pe_row (show (6 : Nat) ≠ 19 by decide)] at c77x; exact c77x)])
      · skip
        refine g_iconstv (v := 0) dX4_letPass_80 rfl ?_
        refine g_goto (tgt := 85) dX4_letPass_81 (by decide) ?_
        refine g_iadd dX4_letPass_85 ?_
        refine g_istore_n dX4_letPass_86 (by decide) rfl ?_
        refine g_iincN dX4_letPass_87 rfl (by decide) rfl ?_
        refine g_goto (tgt := 43) dX4_letPass_90 (by decide) ?_
        exact ih (k + 1) _ _ (by omega) (by show _ = (xPassF s cp (xPass F s cp k) k).1; unfold xPassF; rw [← eG, if_neg c56]) (by show _ = (xPassF s cp (xPass F s cp k) k).2; unfold xPassF; rw [← eG, if_neg c56, ← ea]; show _ = a + (if sMean (G 6) (cp k) (G 19 k + s) = 0 then (0 : Int32) else 1); rw [if_pos (by have c77x := c77; rw [pe_eq, pe_row (show (6 : Nat) ≠ 19 by decide)] at c77x; exact c77x)])
set_option maxHeartbeats 4000000 in
set_option maxRecDepth 100000 in
theorem c_pas_bad {L : Nat} {F : Nat → Nat → Int32} {g : Nat → Option Nat} (d : Nat) (s : Int32) (hb : ¬ (1 ≤ s ∧ s ≤ 99)) : mCall (d) yX4_letPass MX4_letPass [.ref 5, .int s] (mHX L F g) (some (.int (-2))) (mHX L F g) := by
  refine mCall_of sX4_letPass.1 (Nat.le_of_ble_eq_true rfl) ⟨_, rfl, rfl⟩ ?_
  show mGo _ _ (0, [some (.ref 5), some (.int s), none, none], [], _) _
  refine g_iload_n dX4_letPass_0 rfl ?_
  refine g_iconstv (v := 1) dX4_letPass_1 rfl ?_
  refine g_icmp_lt (tgt := 11) dX4_letPass_2 (by decide) (fun c2 => ?_) (fun c2 => ?_)
  · skip
    refine g_bipushv (v := (-2)) dX4_letPass_11 rfl ?_
    exact g_iret dX4_letPass_13 rfl
  · skip
    refine g_iload_n dX4_letPass_5 rfl ?_
    refine g_bipushv (v := 99) dX4_letPass_6 rfl ?_
    refine g_icmp_le (tgt := 14) dX4_letPass_8 (by decide) (fun c8 => absurd c8 (fun q => hb ⟨Int32.not_lt.mp c2, q⟩)) (fun c8 => ?_)
    refine g_bipushv (v := (-2)) dX4_letPass_11 rfl ?_
    exact g_iret dX4_letPass_13 rfl
set_option maxHeartbeats 4000000 in
set_option maxRecDepth 100000 in
theorem c_pas_over {L : Nat} {F : Nat → Nat → Int32} {g : Nat → Option Nat} (d : Nat) (s : Int32) (hv : 1 ≤ s ∧ s ≤ 99) (ho : ¬ F 5 0 + s ≤ 9999) : mCall (d) yX4_letPass MX4_letPass [.ref 5, .int s] (mHX L F g) (some (.int (-5))) (mHX L F g) := by
  refine mCall_of sX4_letPass.1 (Nat.le_of_ble_eq_true rfl) ⟨_, rfl, rfl⟩ ?_
  show mGo _ _ (0, [some (.ref 5), some (.int s), none, none], [], _) _
  refine g_iload_n dX4_letPass_0 rfl ?_
  refine g_iconstv (v := 1) dX4_letPass_1 rfl ?_
  refine g_icmp_lt (tgt := 11) dX4_letPass_2 (by decide) (fun c2 => absurd c2 (Int32.not_lt.mpr hv.1)) (fun c2 => ?_)
  refine g_iload_n dX4_letPass_5 rfl ?_
  refine g_bipushv (v := 99) dX4_letPass_6 rfl ?_
  refine g_icmp_le (tgt := 14) dX4_letPass_8 (by decide) (fun c8 => ?_) (fun c8 => absurd hv.2 c8)
  refine g_aload_n dX4_letPass_14 rfl ?_
  refine g_gI dX4_letPass_15 fl_X4_9 (fun _ _ => rfl) rfl (by decide) ?_
  refine g_iload_n dX4_letPass_18 rfl ?_
  refine g_iadd dX4_letPass_19 ?_
  refine g_sipushv (v := 9999) dX4_letPass_20 rfl ?_
  refine g_icmp_le (tgt := 29) dX4_letPass_23 (by decide) (fun c23 => absurd c23 ho) (fun c23 => ?_)
  refine g_bipushv (v := (-5)) dX4_letPass_26 rfl ?_
  exact g_iret dX4_letPass_28 rfl
set_option maxHeartbeats 4000000 in
set_option maxRecDepth 100000 in
theorem c_pas_ok {L : Nat} {F : Nat → Nat → Int32} {g : Nat → Option Nat} (d : Nat) (n : Nat) (hn : F 7 0 = nI n) (h10 : n ≤ 10) (h3 : F 3 = mMB) (s : Int32) (cp : Nat → Nat) (hcp : ∀ t, t < 3 → cp t ≤ 4 ∧ sComp (F 8) (F 9) (nI t) (-6) n = nI (cp t)) (hv : 1 ≤ s ∧ s ≤ 99) (ho : F 5 0 + s ≤ 9999) : mCall (d + 3) yX4_letPass MX4_letPass [.ref 5, .int s] (mHX L F g) (some (.int (xPass F s cp 3).2)) (mHX L (xPass F s cp 3).1 g) := by
  refine mCall_of sX4_letPass.1 (Nat.le_of_ble_eq_true rfl) ⟨_, rfl, rfl⟩ ?_
  show mGo _ _ (0, [some (.ref 5), some (.int s), none, none], [], _) _
  refine g_iload_n dX4_letPass_0 rfl ?_
  refine g_iconstv (v := 1) dX4_letPass_1 rfl ?_
  refine g_icmp_lt (tgt := 11) dX4_letPass_2 (by decide) (fun c2 => absurd c2 (Int32.not_lt.mpr hv.1)) (fun c2 => ?_)
  refine g_iload_n dX4_letPass_5 rfl ?_
  refine g_bipushv (v := 99) dX4_letPass_6 rfl ?_
  refine g_icmp_le (tgt := 14) dX4_letPass_8 (by decide) (fun c8 => ?_) (fun c8 => absurd hv.2 c8)
  refine g_aload_n dX4_letPass_14 rfl ?_
  refine g_gI dX4_letPass_15 fl_X4_9 (fun _ _ => rfl) rfl (by decide) ?_
  refine g_iload_n dX4_letPass_18 rfl ?_
  refine g_iadd dX4_letPass_19 ?_
  refine g_sipushv (v := 9999) dX4_letPass_20 rfl ?_
  refine g_icmp_le (tgt := 29) dX4_letPass_23 (by decide) (fun c23 => ?_) (fun c23 => absurd ho c23)
  refine g_aload_n dX4_letPass_29 rfl ?_
  refine g_dup dX4_letPass_30 rfl ?_
  refine g_gI dX4_letPass_31 fl_X4_9 (fun _ _ => rfl) rfl (by decide) ?_
  refine g_iload_n dX4_letPass_34 rfl ?_
  refine g_iadd dX4_letPass_35 ?_
  refine g_pI dX4_letPass_36 fl_X4_9 (Or.inl rfl) rfl (by decide) rfl ?_
  refine g_iconstv (v := 0) dX4_letPass_39 rfl ?_
  refine g_istore_n dX4_letPass_40 (by decide) rfl ?_
  refine g_iconstv (v := 0) dX4_letPass_41 rfl ?_
  refine g_istore_n dX4_letPass_42 (by decide) rfl ?_
  exact lp_pass d n hn h10 h3 s cp hcp 3 0 _ _ rfl rfl rfl
def sTurn (S : Nat → Int32) (c : Nat) (s : Int32) (i : Nat) : Nat → Int32
  | 0 => (-6)
  | m + 1 => if sBeg S (nI i) ≤ s then sTurn S c s (i + 1) m else if sMean S c (sBeg S (nI i)) = sMean S c s then sTurn S c s (i + 1) m else sBeg S (nI i) - s
set_option maxHeartbeats 4000000 in
set_option maxRecDepth 100000 in
theorem lp_turn {L : Nat} {F : Nat → Nat → Int32} {g : Nat → Option Nat} (d : Nat) (n : Nat) (hn : F 7 0 = nI n) (h10 : n ≤ 10) (h3 : F 3 = mMB) (t : Nat) (ht : t < 3) (c : Nat) (hc : c ≤ 4) : ∀ (m i : Nat), i + m = 4 → ∀ j : Option Value, mSb [some (.ref 5), some (.int (nI t)), some (.int (nI c)), some (.int (F 19 t)), some (.int (sMean (F 6) c (F 19 t))), some (.int (nI i)), j] 6 = true → mGo MX4_secondsToTurn (d + 2) (29, [some (.ref 5), some (.int (nI t)), some (.int (nI c)), some (.int (F 19 t)), some (.int (sMean (F 6) c (F 19 t))), some (.int (nI i)), j], [], mHX L F g) (some (.int (sTurn (F 6) c (F 19 t) i m)), mHX L F g) := by
  intro m
  induction m with
  | zero =>
    intro i hi j hj
    refine g_iload dX4_secondsToTurn_29 rfl ?_
    refine g_iconstv (v := 4) dX4_secondsToTurn_31 rfl ?_
    refine g_icmp_ge (tgt := 72) dX4_secondsToTurn_32 (by decide) (fun c32 => ?_) (fun c32 => absurd (by rw [show i = 4 by omega]; exact nI_le (a := 4) (b := 4) (by omega) (by omega)) c32)
    refine g_bipushv (v := (-6)) dX4_secondsToTurn_72 rfl ?_
    exact g_iret dX4_secondsToTurn_74 rfl
  | succ m ih =>
    intro i hi j hj
    refine g_iload dX4_secondsToTurn_29 rfl ?_
    refine g_iconstv (v := 4) dX4_secondsToTurn_31 rfl ?_
    refine g_icmp_ge (tgt := 72) dX4_secondsToTurn_32 (by decide) (fun c32 => absurd c32 (nI_ge (a := i) (b := 4) (by omega) (by omega))) (fun c32 => ?_)
    refine g_aload_n dX4_secondsToTurn_35 rfl ?_
    refine g_iload dX4_secondsToTurn_36 rfl ?_
    refine g_V1i dX4_secondsToTurn_38 ml_X4_133 sX4_beginOfShade rfl (by decide) (Nat.le_of_ble_eq_true rfl) (c_begShade (d + 1) (nI i)) ?_
    refine g_istore dX4_secondsToTurn_41 (by decide) rfl ?_
    refine g_iload dX4_secondsToTurn_43 rfl ?_
    refine g_iload_n dX4_secondsToTurn_45 rfl ?_
    refine g_icmp_le (tgt := 66) dX4_secondsToTurn_46 (by decide) (fun c46 => ?_) (fun c46 => ?_)
    · skip
      refine g_iincN dX4_secondsToTurn_66 rfl (by decide) rfl ?_
      refine g_goto (tgt := 29) dX4_secondsToTurn_69 (by decide) ?_
      rw [sTurn, if_pos c46]
      exact ih (i + 1) (by omega) _ rfl
    · skip
      refine g_aload_n dX4_secondsToTurn_49 rfl ?_
      refine g_iload_n dX4_secondsToTurn_50 rfl ?_
      refine g_iload dX4_secondsToTurn_51 rfl ?_
      refine g_V2i dX4_secondsToTurn_53 ml_X4_130 sX4_meaningFor rfl (by decide) (Nat.le_of_ble_eq_true rfl) (c_meaningFor d c hc h3 (sBeg (F 6) (nI i))) ?_
      refine g_iload dX4_secondsToTurn_56 rfl ?_
      refine g_icmp_eq (tgt := 66) dX4_secondsToTurn_58 (by decide) (fun c58 => ?_) (fun c58 => ?_)
      · skip
        refine g_iincN dX4_secondsToTurn_66 rfl (by decide) rfl ?_
        refine g_goto (tgt := 29) dX4_secondsToTurn_69 (by decide) ?_
        rw [sTurn, if_neg c46, if_pos c58]
        exact ih (i + 1) (by omega) _ rfl
      · skip
        refine g_iload dX4_secondsToTurn_61 rfl ?_
        refine g_iload_n dX4_secondsToTurn_63 rfl ?_
        refine g_isub dX4_secondsToTurn_64 ?_
        exact g_iret dX4_secondsToTurn_65 (m_ret (by rw [sTurn, if_neg c46, if_neg c58]))
set_option maxHeartbeats 4000000 in
set_option maxRecDepth 100000 in
theorem c_turn {L : Nat} {F : Nat → Nat → Int32} {g : Nat → Option Nat} (d : Nat) (n : Nat) (hn : F 7 0 = nI n) (h10 : n ≤ 10) (h3 : F 3 = mMB) (t : Nat) (ht : t < 3) (c : Nat) (hc : c ≤ 4) (ec : sComp (F 8) (F 9) (nI t) (-6) n = nI c) : mCall (d + 2) yX4_secondsToTurn MX4_secondsToTurn [.ref 5, .int (nI t)] (mHX L F g) (some (.int (sTurn (F 6) c (F 19 t) 0 4))) (mHX L F g) := by
  refine mCall_of sX4_secondsToTurn.1 (Nat.le_of_ble_eq_true rfl) ⟨_, rfl, rfl⟩ ?_
  show mGo _ _ (0, [some (.ref 5), some (.int (nI t)), none, none, none, none, none], [], _) _
  refine g_aload_n dX4_secondsToTurn_0 rfl ?_
  refine g_gR (r := 7) dX4_secondsToTurn_1 fl_X4_30 (fun _ _ => rfl) rfl (by decide) rfl ?_
  refine g_iload_n dX4_secondsToTurn_4 rfl ?_
  refine g_bipushv (v := (-6)) dX4_secondsToTurn_5 rfl ?_
  refine g_V2i dX4_secondsToTurn_7 ml_X4_90 sX0_companyOf rfl (by decide) (Nat.le_of_ble_eq_true rfl) (c_companyOf (d + 1) n hn h10 (nI t) (-6)) ?_
  rw [ec]
  refine g_istore_n dX4_secondsToTurn_10 (by decide) rfl ?_
  refine g_aload_n dX4_secondsToTurn_11 rfl ?_
  refine g_gR (r := 19) dX4_secondsToTurn_12 fl_X4_41 (fun _ _ => rfl) rfl (by decide) rfl ?_
  refine g_iload_n dX4_secondsToTurn_15 rfl ?_
  refine g_ialdN (gx := t) dX4_secondsToTurn_16 rfl (by decide) rfl (by omega) (by decide) ?_
  refine g_istore_n dX4_secondsToTurn_17 (by decide) rfl ?_
  refine g_aload_n dX4_secondsToTurn_18 rfl ?_
  refine g_iload_n dX4_secondsToTurn_19 rfl ?_
  refine g_iload_n dX4_secondsToTurn_20 rfl ?_
  refine g_V2i dX4_secondsToTurn_21 ml_X4_130 sX4_meaningFor rfl (by decide) (Nat.le_of_ble_eq_true rfl) (c_meaningFor d c hc h3 (F 19 t)) ?_
  refine g_istore dX4_secondsToTurn_24 (by decide) rfl ?_
  refine g_iconstv (v := 0) dX4_secondsToTurn_26 rfl ?_
  refine g_istore dX4_secondsToTurn_27 (by decide) rfl ?_
  exact lp_turn d n hn h10 h3 t ht c hc 4 0 rfl _ rfl
end
section
/-- a room stands at i: its object, its settings, its Guests with six rows, its Lexicon with four, its pauses and ends -/
def mRm (i : Nat) : Prop := 4 < i ∧ ∀ (L : Nat) (g : Nat → Option Nat), (mSH L)[i]? = some (.inl 4) ∧ (mSH L)[(i + 1)]? = some (.inr (0, 4)) ∧ (mSH L)[(i + 2)]? = some (.inl 0) ∧ (mSH L)[(i + 3)]? = some (.inr (0, 10)) ∧ (mSH L)[(i + 4)]? = some (.inr (0, 10)) ∧ (mSH L)[(i + 5)]? = some (.inr (0, 10)) ∧ (mSH L)[(i + 6)]? = some (.inr (0, 10)) ∧ (mSH L)[(i + 7)]? = some (.inr (0, 10)) ∧ (mSH L)[(i + 8)]? = some (.inr (0, 10)) ∧ (mSH L)[(i + 9)]? = some (.inl 2) ∧ (mSH L)[(i + 10)]? = some (.inr (0, 12)) ∧ (mSH L)[(i + 11)]? = some (.inr (0, 12)) ∧ (mSH L)[(i + 12)]? = some (.inr (0, 3)) ∧ (mSH L)[(i + 13)]? = some (.inr (0, 50)) ∧ (mSH L)[(i + 14)]? = some (.inr (0, 3)) ∧ (mSH L)[(i + 15)]? = some (.inr (0, 3)) ∧ mRF g i 1 = some (i + 1) ∧ mRF g i 2 = some (i + 2) ∧ mRF g i 3 = some (i + 9) ∧ mRF g i 4 = some (i + 14) ∧ mRF g i 5 = some (i + 15) ∧ mRF g (i + 2) 1 = some (i + 3) ∧ mRF g (i + 2) 2 = some (i + 4) ∧ mRF g (i + 2) 3 = some (i + 5) ∧ mRF g (i + 2) 4 = some (i + 6) ∧ mRF g (i + 2) 5 = some (i + 7) ∧ mRF g (i + 2) 6 = some (i + 8) ∧ mRF g (i + 9) 0 = some (i + 10) ∧ mRF g (i + 9) 1 = some (i + 11) ∧ mRF g (i + 9) 2 = some (i + 12) ∧ mRF g (i + 9) 3 = some (i + 13)
set_option maxHeartbeats 4000000 in
set_option maxRecDepth 100000 in
theorem mRm_5 : mRm 5 := ⟨by decide, fun L g => ⟨rfl, rfl, rfl, rfl, rfl, rfl, rfl, rfl, rfl, rfl, rfl, rfl, rfl, rfl, rfl, rfl, rfl, rfl, rfl, rfl, rfl, rfl, rfl, rfl, rfl, rfl, rfl, rfl, rfl, rfl, rfl⟩⟩
set_option maxHeartbeats 4000000 in
set_option maxRecDepth 100000 in
theorem mRm_h {a : Nat} (h : a < 7) : mRm (23 + 16 * a) := by
  rcases (by omega : a = 0 ∨ a = 1 ∨ a = 2 ∨ a = 3 ∨ a = 4 ∨ a = 5 ∨ a = 6) with rfl | rfl | rfl | rfl | rfl | rfl | rfl
  all_goals exact ⟨by decide, fun L g => ⟨rfl, rfl, rfl, rfl, rfl, rfl, rfl, rfl, rfl, rfl, rfl, rfl, rfl, rfl, rfl, rfl, rfl, rfl, rfl, rfl, rfl, rfl, rfl, rfl, rfl, rfl, rfl, rfl, rfl, rfl, rfl⟩⟩
set_option maxHeartbeats 4000000 in
set_option maxRecDepth 100000 in
theorem mRm_s {a : Nat} (h : a < 2) : mRm (137 + 16 * a) := by
  rcases (by omega : a = 0 ∨ a = 1) with rfl | rfl
  all_goals exact ⟨by decide, fun L g => ⟨rfl, rfl, rfl, rfl, rfl, rfl, rfl, rfl, rfl, rfl, rfl, rfl, rfl, rfl, rfl, rfl, rfl, rfl, rfl, rfl, rfl, rfl, rfl, rfl, rfl, rfl, rfl, rfl, rfl, rfl, rfl⟩⟩
theorem mRm_s0 {i L : Nat} {g : Nat → Option Nat} (h : mRm i) : (mSH L)[i]? = some (.inl 4) := (((h.2 L g).1))
theorem mRm_s1 {i L : Nat} {g : Nat → Option Nat} (h : mRm i) : (mSH L)[(i + 1)]? = some (.inr (0, 4)) := (((h.2 L g).2.1))
theorem mRm_s2 {i L : Nat} {g : Nat → Option Nat} (h : mRm i) : (mSH L)[(i + 2)]? = some (.inl 0) := (((h.2 L g).2.2.1))
theorem mRm_s3 {i L : Nat} {g : Nat → Option Nat} (h : mRm i) : (mSH L)[(i + 3)]? = some (.inr (0, 10)) := (((h.2 L g).2.2.2.1))
theorem mRm_s4 {i L : Nat} {g : Nat → Option Nat} (h : mRm i) : (mSH L)[(i + 4)]? = some (.inr (0, 10)) := (((h.2 L g).2.2.2.2.1))
theorem mRm_s5 {i L : Nat} {g : Nat → Option Nat} (h : mRm i) : (mSH L)[(i + 5)]? = some (.inr (0, 10)) := (((h.2 L g).2.2.2.2.2.1))
theorem mRm_s6 {i L : Nat} {g : Nat → Option Nat} (h : mRm i) : (mSH L)[(i + 6)]? = some (.inr (0, 10)) := (((h.2 L g).2.2.2.2.2.2.1))
theorem mRm_s7 {i L : Nat} {g : Nat → Option Nat} (h : mRm i) : (mSH L)[(i + 7)]? = some (.inr (0, 10)) := (((h.2 L g).2.2.2.2.2.2.2.1))
theorem mRm_s8 {i L : Nat} {g : Nat → Option Nat} (h : mRm i) : (mSH L)[(i + 8)]? = some (.inr (0, 10)) := (((h.2 L g).2.2.2.2.2.2.2.2.1))
theorem mRm_s9 {i L : Nat} {g : Nat → Option Nat} (h : mRm i) : (mSH L)[(i + 9)]? = some (.inl 2) := (((h.2 L g).2.2.2.2.2.2.2.2.2.1))
theorem mRm_s10 {i L : Nat} {g : Nat → Option Nat} (h : mRm i) : (mSH L)[(i + 10)]? = some (.inr (0, 12)) := (((h.2 L g).2.2.2.2.2.2.2.2.2.2.1))
theorem mRm_s11 {i L : Nat} {g : Nat → Option Nat} (h : mRm i) : (mSH L)[(i + 11)]? = some (.inr (0, 12)) := (((h.2 L g).2.2.2.2.2.2.2.2.2.2.2.1))
theorem mRm_s12 {i L : Nat} {g : Nat → Option Nat} (h : mRm i) : (mSH L)[(i + 12)]? = some (.inr (0, 3)) := (((h.2 L g).2.2.2.2.2.2.2.2.2.2.2.2.1))
theorem mRm_s13 {i L : Nat} {g : Nat → Option Nat} (h : mRm i) : (mSH L)[(i + 13)]? = some (.inr (0, 50)) := (((h.2 L g).2.2.2.2.2.2.2.2.2.2.2.2.2.1))
theorem mRm_s14 {i L : Nat} {g : Nat → Option Nat} (h : mRm i) : (mSH L)[(i + 14)]? = some (.inr (0, 3)) := (((h.2 L g).2.2.2.2.2.2.2.2.2.2.2.2.2.2.1))
theorem mRm_s15 {i L : Nat} {g : Nat → Option Nat} (h : mRm i) : (mSH L)[(i + 15)]? = some (.inr (0, 3)) := (((h.2 L g).2.2.2.2.2.2.2.2.2.2.2.2.2.2.2.1))
theorem mRm_r0_1 {i : Nat} {g : Nat → Option Nat} (h : mRm i) : mRF g i 1 = some (i + 1) := (((h.2 0 g).2.2.2.2.2.2.2.2.2.2.2.2.2.2.2.2.1))
theorem mRm_r0_2 {i : Nat} {g : Nat → Option Nat} (h : mRm i) : mRF g i 2 = some (i + 2) := (((h.2 0 g).2.2.2.2.2.2.2.2.2.2.2.2.2.2.2.2.2.1))
theorem mRm_r0_3 {i : Nat} {g : Nat → Option Nat} (h : mRm i) : mRF g i 3 = some (i + 9) := (((h.2 0 g).2.2.2.2.2.2.2.2.2.2.2.2.2.2.2.2.2.2.1))
theorem mRm_r0_4 {i : Nat} {g : Nat → Option Nat} (h : mRm i) : mRF g i 4 = some (i + 14) := (((h.2 0 g).2.2.2.2.2.2.2.2.2.2.2.2.2.2.2.2.2.2.2.1))
theorem mRm_r0_5 {i : Nat} {g : Nat → Option Nat} (h : mRm i) : mRF g i 5 = some (i + 15) := (((h.2 0 g).2.2.2.2.2.2.2.2.2.2.2.2.2.2.2.2.2.2.2.2.1))
theorem mRm_r2_1 {i : Nat} {g : Nat → Option Nat} (h : mRm i) : mRF g (i + 2) 1 = some (i + 3) := (((h.2 0 g).2.2.2.2.2.2.2.2.2.2.2.2.2.2.2.2.2.2.2.2.2.1))
theorem mRm_r2_2 {i : Nat} {g : Nat → Option Nat} (h : mRm i) : mRF g (i + 2) 2 = some (i + 4) := (((h.2 0 g).2.2.2.2.2.2.2.2.2.2.2.2.2.2.2.2.2.2.2.2.2.2.1))
theorem mRm_r2_3 {i : Nat} {g : Nat → Option Nat} (h : mRm i) : mRF g (i + 2) 3 = some (i + 5) := (((h.2 0 g).2.2.2.2.2.2.2.2.2.2.2.2.2.2.2.2.2.2.2.2.2.2.2.1))
theorem mRm_r2_4 {i : Nat} {g : Nat → Option Nat} (h : mRm i) : mRF g (i + 2) 4 = some (i + 6) := (((h.2 0 g).2.2.2.2.2.2.2.2.2.2.2.2.2.2.2.2.2.2.2.2.2.2.2.2.1))
theorem mRm_r2_5 {i : Nat} {g : Nat → Option Nat} (h : mRm i) : mRF g (i + 2) 5 = some (i + 7) := (((h.2 0 g).2.2.2.2.2.2.2.2.2.2.2.2.2.2.2.2.2.2.2.2.2.2.2.2.2.1))
theorem mRm_r2_6 {i : Nat} {g : Nat → Option Nat} (h : mRm i) : mRF g (i + 2) 6 = some (i + 8) := (((h.2 0 g).2.2.2.2.2.2.2.2.2.2.2.2.2.2.2.2.2.2.2.2.2.2.2.2.2.2.1))
theorem mRm_r9_0 {i : Nat} {g : Nat → Option Nat} (h : mRm i) : mRF g (i + 9) 0 = some (i + 10) := (((h.2 0 g).2.2.2.2.2.2.2.2.2.2.2.2.2.2.2.2.2.2.2.2.2.2.2.2.2.2.2.1))
theorem mRm_r9_1 {i : Nat} {g : Nat → Option Nat} (h : mRm i) : mRF g (i + 9) 1 = some (i + 11) := (((h.2 0 g).2.2.2.2.2.2.2.2.2.2.2.2.2.2.2.2.2.2.2.2.2.2.2.2.2.2.2.2.1))
theorem mRm_r9_2 {i : Nat} {g : Nat → Option Nat} (h : mRm i) : mRF g (i + 9) 2 = some (i + 12) := (((h.2 0 g).2.2.2.2.2.2.2.2.2.2.2.2.2.2.2.2.2.2.2.2.2.2.2.2.2.2.2.2.2.1))
theorem mRm_r9_3 {i : Nat} {g : Nat → Option Nat} (h : mRm i) : mRF g (i + 9) 3 = some (i + 13) := (((h.2 0 g).2.2.2.2.2.2.2.2.2.2.2.2.2.2.2.2.2.2.2.2.2.2.2.2.2.2.2.2.2.2))
def xCopyG (F : Nat → Nat → Int32) (i j : Nat) : Nat → Nat → Int32 := (cpB (cpB (cpB (cpB (cpB (cpB (pe F (i + 2) 0 (F (j + 2) 0)) (i + 3) (j + 3) 0 0 10) (i + 4) (j + 4) 0 0 10) (i + 5) (j + 5) 0 0 10) (i + 6) (j + 6) 0 0 10) (i + 7) (j + 7) 0 0 10) (i + 8) (j + 8) 0 0 10)
set_option maxHeartbeats 4000000 in
set_option maxRecDepth 100000 in
theorem c_copyG {L : Nat} {F : Nat → Nat → Int32} {g : Nat → Option Nat} (d : Nat) (i j : Nat) (hi : mRm i) (hj : mRm j) : mCall (d + 1) yX0_copyFrom MX0_copyFrom [.ref (i + 2), .ref (j + 2)] (mHX L F g) (none) (mHX L (xCopyG F i j) g) := by
  refine mCall_of sX0_copyFrom.1 (Nat.le_of_ble_eq_true rfl) rfl ?_
  show mGo _ _ (0, [some (.ref (i + 2)), some (.ref (j + 2))], [], _) _
  refine g_aload_n dX0_copyFrom_0 rfl ?_
  refine g_aload_n dX0_copyFrom_1 rfl ?_
  refine g_gI dX0_copyFrom_2 fl_X0_9 (fun _ _ => rfl) (mRm_s2 (g := g) hj) (by have := hj.1; omega) ?_
  refine g_pI dX0_copyFrom_5 fl_X0_9 (Or.inl rfl) (mRm_s2 (g := g) hi) (by have := hi.1; omega) rfl ?_
  refine g_aload_n dX0_copyFrom_8 rfl ?_
  refine g_gR (r := (j + 3)) dX0_copyFrom_9 fl_X0_15 (fun _ _ => rfl) (mRm_s2 (g := g) hj) (by have := hj.1; omega) (mRm_r2_1 hj) ?_
  refine g_iconstv (v := 0) dX0_copyFrom_12 rfl ?_
  refine g_aload_n dX0_copyFrom_13 rfl ?_
  refine g_gR (r := (i + 3)) dX0_copyFrom_14 fl_X0_15 (fun _ _ => rfl) (mRm_s2 (g := g) hi) (by have := hi.1; omega) (mRm_r2_1 hi) ?_
  refine g_iconstv (v := 0) dX0_copyFrom_17 rfl ?_
  refine g_bipushv (v := 10) dX0_copyFrom_18 rfl ?_
  refine g_copyN 0 0 10 dX0_copyFrom_20 ml_X0_34 (mRm_s3 (g := g) hj) (mRm_s3 (g := g) hi) (by have := hj.1; omega) (by have := hi.1; omega) rfl rfl rfl (by decide) (by decide) (by decide) (by decide) (Nat.le_of_ble_eq_true rfl) ?_
  refine g_aload_n dX0_copyFrom_23 rfl ?_
  refine g_gR (r := (j + 4)) dX0_copyFrom_24 fl_X0_19 (fun _ _ => rfl) (mRm_s2 (g := g) hj) (by have := hj.1; omega) (mRm_r2_2 hj) ?_
  refine g_iconstv (v := 0) dX0_copyFrom_27 rfl ?_
  refine g_aload_n dX0_copyFrom_28 rfl ?_
  refine g_gR (r := (i + 4)) dX0_copyFrom_29 fl_X0_19 (fun _ _ => rfl) (mRm_s2 (g := g) hi) (by have := hi.1; omega) (mRm_r2_2 hi) ?_
  refine g_iconstv (v := 0) dX0_copyFrom_32 rfl ?_
  refine g_bipushv (v := 10) dX0_copyFrom_33 rfl ?_
  refine g_copyN 0 0 10 dX0_copyFrom_35 ml_X0_34 (mRm_s4 (g := g) hj) (mRm_s4 (g := g) hi) (by have := hj.1; omega) (by have := hi.1; omega) rfl rfl rfl (by decide) (by decide) (by decide) (by decide) (Nat.le_of_ble_eq_true rfl) ?_
  refine g_aload_n dX0_copyFrom_38 rfl ?_
  refine g_gR (r := (j + 5)) dX0_copyFrom_39 fl_X0_22 (fun _ _ => rfl) (mRm_s2 (g := g) hj) (by have := hj.1; omega) (mRm_r2_3 hj) ?_
  refine g_iconstv (v := 0) dX0_copyFrom_42 rfl ?_
  refine g_aload_n dX0_copyFrom_43 rfl ?_
  refine g_gR (r := (i + 5)) dX0_copyFrom_44 fl_X0_22 (fun _ _ => rfl) (mRm_s2 (g := g) hi) (by have := hi.1; omega) (mRm_r2_3 hi) ?_
  refine g_iconstv (v := 0) dX0_copyFrom_47 rfl ?_
  refine g_bipushv (v := 10) dX0_copyFrom_48 rfl ?_
  refine g_copyN 0 0 10 dX0_copyFrom_50 ml_X0_34 (mRm_s5 (g := g) hj) (mRm_s5 (g := g) hi) (by have := hj.1; omega) (by have := hi.1; omega) rfl rfl rfl (by decide) (by decide) (by decide) (by decide) (Nat.le_of_ble_eq_true rfl) ?_
  refine g_aload_n dX0_copyFrom_53 rfl ?_
  refine g_gR (r := (j + 6)) dX0_copyFrom_54 fl_X0_25 (fun _ _ => rfl) (mRm_s2 (g := g) hj) (by have := hj.1; omega) (mRm_r2_4 hj) ?_
  refine g_iconstv (v := 0) dX0_copyFrom_57 rfl ?_
  refine g_aload_n dX0_copyFrom_58 rfl ?_
  refine g_gR (r := (i + 6)) dX0_copyFrom_59 fl_X0_25 (fun _ _ => rfl) (mRm_s2 (g := g) hi) (by have := hi.1; omega) (mRm_r2_4 hi) ?_
  refine g_iconstv (v := 0) dX0_copyFrom_62 rfl ?_
  refine g_bipushv (v := 10) dX0_copyFrom_63 rfl ?_
  refine g_copyN 0 0 10 dX0_copyFrom_65 ml_X0_34 (mRm_s6 (g := g) hj) (mRm_s6 (g := g) hi) (by have := hj.1; omega) (by have := hi.1; omega) rfl rfl rfl (by decide) (by decide) (by decide) (by decide) (Nat.le_of_ble_eq_true rfl) ?_
  refine g_aload_n dX0_copyFrom_68 rfl ?_
  refine g_gR (r := (j + 7)) dX0_copyFrom_69 fl_X0_28 (fun _ _ => rfl) (mRm_s2 (g := g) hj) (by have := hj.1; omega) (mRm_r2_5 hj) ?_
  refine g_iconstv (v := 0) dX0_copyFrom_72 rfl ?_
  refine g_aload_n dX0_copyFrom_73 rfl ?_
  refine g_gR (r := (i + 7)) dX0_copyFrom_74 fl_X0_28 (fun _ _ => rfl) (mRm_s2 (g := g) hi) (by have := hi.1; omega) (mRm_r2_5 hi) ?_
  refine g_iconstv (v := 0) dX0_copyFrom_77 rfl ?_
  refine g_bipushv (v := 10) dX0_copyFrom_78 rfl ?_
  refine g_copyN 0 0 10 dX0_copyFrom_80 ml_X0_34 (mRm_s7 (g := g) hj) (mRm_s7 (g := g) hi) (by have := hj.1; omega) (by have := hi.1; omega) rfl rfl rfl (by decide) (by decide) (by decide) (by decide) (Nat.le_of_ble_eq_true rfl) ?_
  refine g_aload_n dX0_copyFrom_83 rfl ?_
  refine g_gR (r := (j + 8)) dX0_copyFrom_84 fl_X0_31 (fun _ _ => rfl) (mRm_s2 (g := g) hj) (by have := hj.1; omega) (mRm_r2_6 hj) ?_
  refine g_iconstv (v := 0) dX0_copyFrom_87 rfl ?_
  refine g_aload_n dX0_copyFrom_88 rfl ?_
  refine g_gR (r := (i + 8)) dX0_copyFrom_89 fl_X0_31 (fun _ _ => rfl) (mRm_s2 (g := g) hi) (by have := hi.1; omega) (mRm_r2_6 hi) ?_
  refine g_iconstv (v := 0) dX0_copyFrom_92 rfl ?_
  refine g_bipushv (v := 10) dX0_copyFrom_93 rfl ?_
  refine g_copyN 0 0 10 dX0_copyFrom_95 ml_X0_34 (mRm_s8 (g := g) hj) (mRm_s8 (g := g) hi) (by have := hj.1; omega) (by have := hi.1; omega) rfl rfl rfl (by decide) (by decide) (by decide) (by decide) (Nat.le_of_ble_eq_true rfl) ?_
  exact g_vret dX0_copyFrom_98 rfl
def xCopyL (F : Nat → Nat → Int32) (i j : Nat) : Nat → Nat → Int32 := (cpB (cpB (cpB (cpB (pe F (i + 9) 4 (F (j + 9) 4)) (i + 10) (j + 10) 0 0 12) (i + 11) (j + 11) 0 0 12) (i + 12) (j + 12) 0 0 3) (i + 13) (j + 13) 0 0 50)
set_option maxHeartbeats 4000000 in
set_option maxRecDepth 100000 in
theorem c_copyL {L : Nat} {F : Nat → Nat → Int32} {g : Nat → Option Nat} (d : Nat) (i j : Nat) (hi : mRm i) (hj : mRm j) : mCall (d + 1) yX2_copyFrom MX2_copyFrom [.ref (i + 9), .ref (j + 9)] (mHX L F g) (none) (mHX L (xCopyL F i j) g) := by
  refine mCall_of sX2_copyFrom.1 (Nat.le_of_ble_eq_true rfl) rfl ?_
  show mGo _ _ (0, [some (.ref (i + 9)), some (.ref (j + 9))], [], _) _
  refine g_aload_n dX2_copyFrom_0 rfl ?_
  refine g_aload_n dX2_copyFrom_1 rfl ?_
  refine g_gI dX2_copyFrom_2 fl_X2_24 (fun _ _ => rfl) (mRm_s9 (g := g) hj) (by have := hj.1; omega) ?_
  refine g_pI dX2_copyFrom_5 fl_X2_24 (Or.inl rfl) (mRm_s9 (g := g) hi) (by have := hi.1; omega) rfl ?_
  refine g_aload_n dX2_copyFrom_8 rfl ?_
  refine g_gR (r := (j + 10)) dX2_copyFrom_9 fl_X2_9 (fun _ _ => rfl) (mRm_s9 (g := g) hj) (by have := hj.1; omega) (mRm_r9_0 hj) ?_
  refine g_iconstv (v := 0) dX2_copyFrom_12 rfl ?_
  refine g_aload_n dX2_copyFrom_13 rfl ?_
  refine g_gR (r := (i + 10)) dX2_copyFrom_14 fl_X2_9 (fun _ _ => rfl) (mRm_s9 (g := g) hi) (by have := hi.1; omega) (mRm_r9_0 hi) ?_
  refine g_iconstv (v := 0) dX2_copyFrom_17 rfl ?_
  refine g_aload_n dX2_copyFrom_18 rfl ?_
  refine g_gR (r := (i + 10)) dX2_copyFrom_19 fl_X2_9 (fun _ _ => rfl) (mRm_s9 (g := g) hi) (by have := hi.1; omega) (mRm_r9_0 hi) ?_
  refine g_alen dX2_copyFrom_22 (mRm_s10 (g := g) hi) (by decide) (by have := hi.1; omega) ?_
  refine g_copyN 0 0 12 dX2_copyFrom_23 ml_X2_28 (mRm_s10 (g := g) hj) (mRm_s10 (g := g) hi) (by have := hj.1; omega) (by have := hi.1; omega) rfl rfl rfl (by decide) (by decide) (by decide) (by decide) (Nat.le_of_ble_eq_true rfl) ?_
  refine g_aload_n dX2_copyFrom_26 rfl ?_
  refine g_gR (r := (j + 11)) dX2_copyFrom_27 fl_X2_15 (fun _ _ => rfl) (mRm_s9 (g := g) hj) (by have := hj.1; omega) (mRm_r9_1 hj) ?_
  refine g_iconstv (v := 0) dX2_copyFrom_30 rfl ?_
  refine g_aload_n dX2_copyFrom_31 rfl ?_
  refine g_gR (r := (i + 11)) dX2_copyFrom_32 fl_X2_15 (fun _ _ => rfl) (mRm_s9 (g := g) hi) (by have := hi.1; omega) (mRm_r9_1 hi) ?_
  refine g_iconstv (v := 0) dX2_copyFrom_35 rfl ?_
  refine g_aload_n dX2_copyFrom_36 rfl ?_
  refine g_gR (r := (i + 11)) dX2_copyFrom_37 fl_X2_15 (fun _ _ => rfl) (mRm_s9 (g := g) hi) (by have := hi.1; omega) (mRm_r9_1 hi) ?_
  refine g_alen dX2_copyFrom_40 (mRm_s11 (g := g) hi) (by decide) (by have := hi.1; omega) ?_
  refine g_copyN 0 0 12 dX2_copyFrom_41 ml_X2_28 (mRm_s11 (g := g) hj) (mRm_s11 (g := g) hi) (by have := hj.1; omega) (by have := hi.1; omega) rfl rfl rfl (by decide) (by decide) (by decide) (by decide) (Nat.le_of_ble_eq_true rfl) ?_
  refine g_aload_n dX2_copyFrom_44 rfl ?_
  refine g_gR (r := (j + 12)) dX2_copyFrom_45 fl_X2_18 (fun _ _ => rfl) (mRm_s9 (g := g) hj) (by have := hj.1; omega) (mRm_r9_2 hj) ?_
  refine g_iconstv (v := 0) dX2_copyFrom_48 rfl ?_
  refine g_aload_n dX2_copyFrom_49 rfl ?_
  refine g_gR (r := (i + 12)) dX2_copyFrom_50 fl_X2_18 (fun _ _ => rfl) (mRm_s9 (g := g) hi) (by have := hi.1; omega) (mRm_r9_2 hi) ?_
  refine g_iconstv (v := 0) dX2_copyFrom_53 rfl ?_
  refine g_aload_n dX2_copyFrom_54 rfl ?_
  refine g_gR (r := (i + 12)) dX2_copyFrom_55 fl_X2_18 (fun _ _ => rfl) (mRm_s9 (g := g) hi) (by have := hi.1; omega) (mRm_r9_2 hi) ?_
  refine g_alen dX2_copyFrom_58 (mRm_s12 (g := g) hi) (by decide) (by have := hi.1; omega) ?_
  refine g_copyN 0 0 3 dX2_copyFrom_59 ml_X2_28 (mRm_s12 (g := g) hj) (mRm_s12 (g := g) hi) (by have := hj.1; omega) (by have := hi.1; omega) rfl rfl rfl (by decide) (by decide) (by decide) (by decide) (Nat.le_of_ble_eq_true rfl) ?_
  refine g_aload_n dX2_copyFrom_62 rfl ?_
  refine g_gR (r := (j + 13)) dX2_copyFrom_63 fl_X2_21 (fun _ _ => rfl) (mRm_s9 (g := g) hj) (by have := hj.1; omega) (mRm_r9_3 hj) ?_
  refine g_iconstv (v := 0) dX2_copyFrom_66 rfl ?_
  refine g_aload_n dX2_copyFrom_67 rfl ?_
  refine g_gR (r := (i + 13)) dX2_copyFrom_68 fl_X2_21 (fun _ _ => rfl) (mRm_s9 (g := g) hi) (by have := hi.1; omega) (mRm_r9_3 hi) ?_
  refine g_iconstv (v := 0) dX2_copyFrom_71 rfl ?_
  refine g_aload_n dX2_copyFrom_72 rfl ?_
  refine g_gR (r := (i + 13)) dX2_copyFrom_73 fl_X2_21 (fun _ _ => rfl) (mRm_s9 (g := g) hi) (by have := hi.1; omega) (mRm_r9_3 hi) ?_
  refine g_alen dX2_copyFrom_76 (mRm_s13 (g := g) hi) (by decide) (by have := hi.1; omega) ?_
  refine g_copyN 0 0 50 dX2_copyFrom_77 ml_X2_28 (mRm_s13 (g := g) hj) (mRm_s13 (g := g) hi) (by have := hj.1; omega) (by have := hi.1; omega) rfl rfl rfl (by decide) (by decide) (by decide) (by decide) (Nat.le_of_ble_eq_true rfl) ?_
  exact g_vret dX2_copyFrom_80 rfl
def xCopyR (F : Nat → Nat → Int32) (i j : Nat) : Nat → Nat → Int32 := (cpB (cpB (xCopyL (xCopyG (cpB (pe F i 0 (F j 0)) (i + 1) (j + 1) 0 0 4) i j) i j) (i + 14) (j + 14) 0 0 3) (i + 15) (j + 15) 0 0 3)
set_option maxHeartbeats 4000000 in
set_option maxRecDepth 100000 in
theorem c_copyR {L : Nat} {F : Nat → Nat → Int32} {g : Nat → Option Nat} (d : Nat) (i j : Nat) (hi : mRm i) (hj : mRm j) : mCall (d + 2) yX4_copyFrom MX4_copyFrom [.ref i, .ref j] (mHX L F g) (none) (mHX L (xCopyR F i j) g) := by
  refine mCall_of sX4_copyFrom.1 (Nat.le_of_ble_eq_true rfl) rfl ?_
  show mGo _ _ (0, [some (.ref i), some (.ref j)], [], _) _
  refine g_aload_n dX4_copyFrom_0 rfl ?_
  refine g_aload_n dX4_copyFrom_1 rfl ?_
  refine g_gI dX4_copyFrom_2 fl_X4_9 (fun _ _ => rfl) (mRm_s0 (g := g) hj) (by have := hj.1; omega) ?_
  refine g_pI dX4_copyFrom_5 fl_X4_9 (Or.inl rfl) (mRm_s0 (g := g) hi) (by have := hi.1; omega) rfl ?_
  refine g_aload_n dX4_copyFrom_8 rfl ?_
  refine g_gR (r := (j + 1)) dX4_copyFrom_9 fl_X4_24 (fun _ _ => rfl) (mRm_s0 (g := g) hj) (by have := hj.1; omega) (mRm_r0_1 hj) ?_
  refine g_iconstv (v := 0) dX4_copyFrom_12 rfl ?_
  refine g_aload_n dX4_copyFrom_13 rfl ?_
  refine g_gR (r := (i + 1)) dX4_copyFrom_14 fl_X4_24 (fun _ _ => rfl) (mRm_s0 (g := g) hi) (by have := hi.1; omega) (mRm_r0_1 hi) ?_
  refine g_iconstv (v := 0) dX4_copyFrom_17 rfl ?_
  refine g_aload_n dX4_copyFrom_18 rfl ?_
  refine g_gR (r := (i + 1)) dX4_copyFrom_19 fl_X4_24 (fun _ _ => rfl) (mRm_s0 (g := g) hi) (by have := hi.1; omega) (mRm_r0_1 hi) ?_
  refine g_alen dX4_copyFrom_22 (mRm_s1 (g := g) hi) (by decide) (by have := hi.1; omega) ?_
  refine g_copyN 0 0 4 dX4_copyFrom_23 ml_X4_47 (mRm_s1 (g := g) hj) (mRm_s1 (g := g) hi) (by have := hj.1; omega) (by have := hi.1; omega) rfl rfl rfl (by decide) (by decide) (by decide) (by decide) (Nat.le_of_ble_eq_true rfl) ?_
  refine g_aload_n dX4_copyFrom_26 rfl ?_
  refine g_gR (r := (i + 2)) dX4_copyFrom_27 fl_X4_30 (fun _ _ => rfl) (mRm_s0 (g := g) hi) (by have := hi.1; omega) (mRm_r0_2 hi) ?_
  refine g_aload_n dX4_copyFrom_30 rfl ?_
  refine g_gR (r := (j + 2)) dX4_copyFrom_31 fl_X4_30 (fun _ _ => rfl) (mRm_s0 (g := g) hj) (by have := hj.1; omega) (mRm_r0_2 hj) ?_
  refine g_V1v dX4_copyFrom_34 ml_X4_53 sX0_copyFrom (mRm_s2 (g := g) hi) (by have := hi.1; omega) (Nat.le_of_ble_eq_true rfl) (c_copyG (F := (cpB (pe F i 0 (F j 0)) (i + 1) (j + 1) 0 0 4)) d i j hi hj) ?_
  refine g_aload_n dX4_copyFrom_37 rfl ?_
  refine g_gR (r := (i + 9)) dX4_copyFrom_38 fl_X4_37 (fun _ _ => rfl) (mRm_s0 (g := g) hi) (by have := hi.1; omega) (mRm_r0_3 hi) ?_
  refine g_aload_n dX4_copyFrom_41 rfl ?_
  refine g_gR (r := (j + 9)) dX4_copyFrom_42 fl_X4_37 (fun _ _ => rfl) (mRm_s0 (g := g) hj) (by have := hj.1; omega) (mRm_r0_3 hj) ?_
  refine g_V1v dX4_copyFrom_45 ml_X4_57 sX2_copyFrom (mRm_s9 (g := g) hi) (by have := hi.1; omega) (Nat.le_of_ble_eq_true rfl) (c_copyL (F := (xCopyG (cpB (pe F i 0 (F j 0)) (i + 1) (j + 1) 0 0 4) i j)) d i j hi hj) ?_
  refine g_aload_n dX4_copyFrom_48 rfl ?_
  refine g_gR (r := (j + 14)) dX4_copyFrom_49 fl_X4_41 (fun _ _ => rfl) (mRm_s0 (g := g) hj) (by have := hj.1; omega) (mRm_r0_4 hj) ?_
  refine g_iconstv (v := 0) dX4_copyFrom_52 rfl ?_
  refine g_aload_n dX4_copyFrom_53 rfl ?_
  refine g_gR (r := (i + 14)) dX4_copyFrom_54 fl_X4_41 (fun _ _ => rfl) (mRm_s0 (g := g) hi) (by have := hi.1; omega) (mRm_r0_4 hi) ?_
  refine g_iconstv (v := 0) dX4_copyFrom_57 rfl ?_
  refine g_iconstv (v := 3) dX4_copyFrom_58 rfl ?_
  refine g_copyN 0 0 3 dX4_copyFrom_59 ml_X4_47 (mRm_s14 (g := g) hj) (mRm_s14 (g := g) hi) (by have := hj.1; omega) (by have := hi.1; omega) rfl rfl rfl (by decide) (by decide) (by decide) (by decide) (Nat.le_of_ble_eq_true rfl) ?_
  refine g_aload_n dX4_copyFrom_62 rfl ?_
  refine g_gR (r := (j + 15)) dX4_copyFrom_63 fl_X4_44 (fun _ _ => rfl) (mRm_s0 (g := g) hj) (by have := hj.1; omega) (mRm_r0_5 hj) ?_
  refine g_iconstv (v := 0) dX4_copyFrom_66 rfl ?_
  refine g_aload_n dX4_copyFrom_67 rfl ?_
  refine g_gR (r := (i + 15)) dX4_copyFrom_68 fl_X4_44 (fun _ _ => rfl) (mRm_s0 (g := g) hi) (by have := hi.1; omega) (mRm_r0_5 hi) ?_
  refine g_iconstv (v := 0) dX4_copyFrom_71 rfl ?_
  refine g_iconstv (v := 3) dX4_copyFrom_72 rfl ?_
  refine g_copyN 0 0 3 dX4_copyFrom_73 ml_X4_47 (mRm_s15 (g := g) hj) (mRm_s15 (g := g) hi) (by have := hj.1; omega) (by have := hi.1; omega) rfl rfl rfl (by decide) (by decide) (by decide) (by decide) (Nat.le_of_ble_eq_true rfl) ?_
  exact g_vret dX4_copyFrom_76 rfl
def mVal (c k : Nat) : Prop := match c with
  | 0 => k = 0
  | 1 => k < 4
  | 2 => k = 0
  | 3 => k < 10
  | 4 => k < 10
  | 5 => k < 10
  | 6 => k < 10
  | 7 => k < 10
  | 8 => k < 10
  | 9 => k = 4
  | 10 => k < 12
  | 11 => k < 12
  | 12 => k < 3
  | 13 => k < 50
  | 14 => k < 3
  | 15 => k < 3
  | _ => False
theorem xCopyR_out {F : Nat → Nat → Int32} {i j c : Nat} (h : c < i ∨ i + 16 ≤ c) : xCopyR F i j c = F c := by
  unfold xCopyR xCopyL xCopyG
  repeat (first | rw [pe_row (by omega)] | rw [cpB_row (by omega)])
set_option maxHeartbeats 4000000 in
set_option maxRecDepth 100000 in
theorem xCopyR_in {F : Nat → Nat → Int32} {i j c k : Nat} (hd : i + 16 ≤ j ∨ j + 16 ≤ i) (hc : c < 16) (hv : mVal c k) : xCopyR F i j (i + c) k = F (j + c) k := by
  rcases (by omega : c = 0 ∨ c = 1 ∨ c = 2 ∨ c = 3 ∨ c = 4 ∨ c = 5 ∨ c = 6 ∨ c = 7 ∨ c = 8 ∨ c = 9 ∨ c = 10 ∨ c = 11 ∨ c = 12 ∨ c = 13 ∨ c = 14 ∨ c = 15) with rfl | rfl | rfl | rfl | rfl | rfl | rfl | rfl | rfl | rfl | rfl | rfl | rfl | rfl | rfl | rfl
  all_goals (simp only [mVal] at hv)
  all_goals (unfold xCopyR xCopyL xCopyG)
  all_goals (repeat (first | rw [pe_at, if_neg (by omega)] | rw [cpB_at, if_neg (by omega)] | rw [pe_at, if_pos (by omega)] | rw [cpB_at, if_pos (by omega)]))
  all_goals (first | rfl | (subst hv; rfl) | (congr 1; omega) | (simp only [Nat.sub_zero, Nat.zero_add]))
theorem mRF_22 (g : Nat → Option Nat) (k : Nat) : mRF g 22 k = g k := rfl
theorem mRF_up (g : Nat → Option Nat) (k : Nat) (v : Option Nat) : va_up (mRF g) 22 (va_up (mRF g 22) k v) = mRF (va_up g k v) := by
  funext c j
  by_cases h : c = 22
  · subst h
    rw [va_up_self]
    rfl
  · rw [va_up_ne _ _ h]
    simp only [mRF, if_neg h]
theorem g_aastH {M : mM} {d pc L0 : Nat} {L : mLs} {st : List Value} {F : Nat → Nat → Int32} {g : Nat → Option Nat} {out : mOut} {i : Int32} {v ci : Nat} (gx : Nat) (hd : decode M.2.1 pc = .ok (.aastore, 1)) (hi : i = nI gx) (hg : gx < 7) (hv : (mSH L0)[v]? = some (.inl ci)) (hv4 : 4 ≤ v) (hci : mcl[ci]?.map (fun q => q.1) = some RX4) (k : mGo M d (pc + 1, L, st, mHX L0 F (va_up g gx (some v))) out) : mGo M d (pc, L, .ref v :: .int i :: .ref 22 :: st, mHX L0 F g) out :=
  g_aastN (n := 7) gx hd rfl (by decide) hi hg (by decide) hv hv4 hci (by rw [mRF_up]; exact k)
theorem m_pi7 {p : Nat} (h : p < 7) : mRm (23 + 16 * p) := mRm_h h
set_option maxHeartbeats 4000000 in
set_option maxRecDepth 100000 in
theorem c_note {L : Nat} {F : Nat → Nat → Int32} {g : Nat → Option Nat} (d : Nat) (π : Nat → Nat) (hg : ∀ i, i < 7 → g i = some (23 + 16 * π i)) (hπ : ∀ i, i < 7 → π i < 7) (k : Nat) (hk : k < 7) (ek : F 21 1 = nI k) : mCall (d + 3) yX1_noteBefore MX1_noteBefore [.ref 21, .ref 5] (mHX L F g) (none) (mHX L (xCopyR F (23 + 16 * π k) 5) g) := by
  refine mCall_of sX1_noteBefore.1 (Nat.le_of_ble_eq_true rfl) rfl ?_
  show mGo _ _ (0, [some (.ref 21), some (.ref 5)], [], _) _
  refine g_aload_n dX1_noteBefore_0 rfl ?_
  refine g_gR (r := 22) dX1_noteBefore_1 fl_X1_11 (fun _ _ => rfl) rfl (by decide) rfl ?_
  refine g_aload_n dX1_noteBefore_4 rfl ?_
  refine g_gI dX1_noteBefore_5 fl_X1_17 (fun _ _ => rfl) rfl (by decide) ?_
  refine g_aaldN (gx := k) (r := (23 + 16 * π k)) dX1_noteBefore_8 rfl (by decide) ek (by omega) (by decide) (hg k hk) ?_
  refine g_aload_n dX1_noteBefore_9 rfl ?_
  refine g_V1v dX1_noteBefore_10 ml_X1_22 sX4_copyFrom (mRm_s0 (g := g) (m_pi7 (hπ k hk))) (by omega) (Nat.le_of_ble_eq_true rfl) (c_copyR d (23 + 16 * π k) 5 (m_pi7 (hπ k hk)) mRm_5) ?_
  exact g_vret dX1_noteBefore_13 rfl
set_option maxHeartbeats 4000000 in
set_option maxRecDepth 100000 in
theorem c_keep_lo {L : Nat} {F : Nat → Nat → Int32} {g : Nat → Option Nat} (d : Nat) (k : Nat) (hk : k < 6) (ek : F 21 1 = nI k) : mCall (d) yX1_keepNoted MX1_keepNoted [.ref 21] (mHX L F g) (none) (mHX L (pe F 21 1 (F 21 1 + 1)) g) := by
  refine mCall_of sX1_keepNoted.1 (Nat.le_of_ble_eq_true rfl) rfl ?_
  show mGo _ _ (0, [some (.ref 21), none, none], [], _) _
  refine g_aload_n dX1_keepNoted_0 rfl ?_
  refine g_gI dX1_keepNoted_1 fl_X1_17 (fun _ _ => rfl) rfl (by decide) ?_
  refine g_bipushv (v := 6) dX1_keepNoted_4 rfl ?_
  refine g_icmp_ge (tgt := 20) dX1_keepNoted_6 (by decide) (fun c6 => absurd c6 (by rw [ek]; exact nI_ge (a := k) (b := 6) hk (by decide))) (fun c6 => ?_)
  refine g_aload_n dX1_keepNoted_9 rfl ?_
  refine g_dup dX1_keepNoted_10 rfl ?_
  refine g_gI dX1_keepNoted_11 fl_X1_17 (fun _ _ => rfl) rfl (by decide) ?_
  refine g_iconstv (v := 1) dX1_keepNoted_14 rfl ?_
  refine g_iadd dX1_keepNoted_15 ?_
  refine g_pI dX1_keepNoted_16 fl_X1_17 (Or.inl rfl) rfl (by decide) rfl ?_
  exact g_vret dX1_keepNoted_19 rfl
def xRot (g : Nat → Option Nat) (π : Nat → Nat) : Nat → Option Nat := (va_up (va_up (va_up (va_up (va_up (va_up (va_up g 0 (some (23 + 16 * π 1))) 1 (some (23 + 16 * π 2))) 2 (some (23 + 16 * π 3))) 3 (some (23 + 16 * π 4))) 4 (some (23 + 16 * π 5))) 5 (some (23 + 16 * π 6))) 6 (some (23 + 16 * π 0)))
set_option maxHeartbeats 4000000 in
set_option maxRecDepth 100000 in
theorem c_keep_hi {L : Nat} {F : Nat → Nat → Int32} {g : Nat → Option Nat} (d : Nat) (π : Nat → Nat) (hg : ∀ i, i < 7 → g i = some (23 + 16 * π i)) (hπ : ∀ i, i < 7 → π i < 7) (ek : F 21 1 = nI 6) : mCall (d) yX1_keepNoted MX1_keepNoted [.ref 21] (mHX L F g) (none) (mHX L F (xRot g π)) := by
  refine mCall_of sX1_keepNoted.1 (Nat.le_of_ble_eq_true rfl) rfl ?_
  show mGo _ _ (0, [some (.ref 21), none, none], [], _) _
  refine g_aload_n dX1_keepNoted_0 rfl ?_
  refine g_gI dX1_keepNoted_1 fl_X1_17 (fun _ _ => rfl) rfl (by decide) ?_
  refine g_bipushv (v := 6) dX1_keepNoted_4 rfl ?_
  refine g_icmp_ge (tgt := 20) dX1_keepNoted_6 (by decide) (fun c6 => ?_) (fun c6 => absurd (by rw [ek]; decide) c6)
  refine g_aload_n dX1_keepNoted_20 rfl ?_
  refine g_gR (r := 22) dX1_keepNoted_21 fl_X1_11 (fun _ _ => rfl) rfl (by decide) rfl ?_
  refine g_iconstv (v := 0) dX1_keepNoted_24 rfl ?_
  refine g_aaldN (gx := 0) (r := (23 + 16 * π 0)) dX1_keepNoted_25 rfl (by decide) rfl (by omega) (by decide) (hg 0 (by decide)) ?_
  refine g_astore_n dX1_keepNoted_26 (by decide) rfl ?_
  refine g_iconstv (v := 0) dX1_keepNoted_27 rfl ?_
  refine g_istore_n dX1_keepNoted_28 (by decide) rfl ?_
  refine g_iload_n dX1_keepNoted_29 rfl ?_
  refine g_bipushv (v := 6) dX1_keepNoted_30 rfl ?_
  refine g_icmp_ge (tgt := 55) dX1_keepNoted_32 (by decide) (fun c32 => absurd c32 (by decide)) (fun c32 => ?_)
  refine g_aload_n dX1_keepNoted_35 rfl ?_
  refine g_gR (r := 22) dX1_keepNoted_36 fl_X1_11 (fun _ _ => rfl) rfl (by decide) rfl ?_
  refine g_iload_n dX1_keepNoted_39 rfl ?_
  refine g_aload_n dX1_keepNoted_40 rfl ?_
  refine g_gR (r := 22) dX1_keepNoted_41 fl_X1_11 (fun _ _ => rfl) rfl (by decide) rfl ?_
  refine g_iload_n dX1_keepNoted_44 rfl ?_
  refine g_iconstv (v := 1) dX1_keepNoted_45 rfl ?_
  refine g_iadd dX1_keepNoted_46 ?_
  refine g_aaldN (gx := 1) (r := (23 + 16 * π 1)) dX1_keepNoted_47 rfl (by decide) rfl (by omega) (by decide) (hg 1 (by decide)) ?_
  refine g_aastH (gx := 0) dX1_keepNoted_48 rfl (by decide) (mRm_s0 (g := g) (m_pi7 (hπ 1 (by decide)))) (by omega) rfl ?_
  refine g_iincv (v := 1) dX1_keepNoted_49 rfl rfl (by decide) rfl ?_
  refine g_goto (tgt := 29) dX1_keepNoted_52 (by decide) ?_
  refine g_iload_n dX1_keepNoted_29 rfl ?_
  refine g_bipushv (v := 6) dX1_keepNoted_30 rfl ?_
  refine g_icmp_ge (tgt := 55) dX1_keepNoted_32 (by decide) (fun c32 => absurd c32 (by decide)) (fun c32 => ?_)
  refine g_aload_n dX1_keepNoted_35 rfl ?_
  refine g_gR (r := 22) dX1_keepNoted_36 fl_X1_11 (fun _ _ => rfl) rfl (by decide) rfl ?_
  refine g_iload_n dX1_keepNoted_39 rfl ?_
  refine g_aload_n dX1_keepNoted_40 rfl ?_
  refine g_gR (r := 22) dX1_keepNoted_41 fl_X1_11 (fun _ _ => rfl) rfl (by decide) rfl ?_
  refine g_iload_n dX1_keepNoted_44 rfl ?_
  refine g_iconstv (v := 1) dX1_keepNoted_45 rfl ?_
  refine g_iadd dX1_keepNoted_46 ?_
  refine g_aaldN (gx := 2) (r := (23 + 16 * π 2)) dX1_keepNoted_47 rfl (by decide) rfl (by omega) (by decide) (hg 2 (by decide)) ?_
  refine g_aastH (gx := 1) dX1_keepNoted_48 rfl (by decide) (mRm_s0 (g := g) (m_pi7 (hπ 2 (by decide)))) (by omega) rfl ?_
  refine g_iincv (v := 2) dX1_keepNoted_49 rfl rfl (by decide) rfl ?_
  refine g_goto (tgt := 29) dX1_keepNoted_52 (by decide) ?_
  refine g_iload_n dX1_keepNoted_29 rfl ?_
  refine g_bipushv (v := 6) dX1_keepNoted_30 rfl ?_
  refine g_icmp_ge (tgt := 55) dX1_keepNoted_32 (by decide) (fun c32 => absurd c32 (by decide)) (fun c32 => ?_)
  refine g_aload_n dX1_keepNoted_35 rfl ?_
  refine g_gR (r := 22) dX1_keepNoted_36 fl_X1_11 (fun _ _ => rfl) rfl (by decide) rfl ?_
  refine g_iload_n dX1_keepNoted_39 rfl ?_
  refine g_aload_n dX1_keepNoted_40 rfl ?_
  refine g_gR (r := 22) dX1_keepNoted_41 fl_X1_11 (fun _ _ => rfl) rfl (by decide) rfl ?_
  refine g_iload_n dX1_keepNoted_44 rfl ?_
  refine g_iconstv (v := 1) dX1_keepNoted_45 rfl ?_
  refine g_iadd dX1_keepNoted_46 ?_
  refine g_aaldN (gx := 3) (r := (23 + 16 * π 3)) dX1_keepNoted_47 rfl (by decide) rfl (by omega) (by decide) (hg 3 (by decide)) ?_
  refine g_aastH (gx := 2) dX1_keepNoted_48 rfl (by decide) (mRm_s0 (g := g) (m_pi7 (hπ 3 (by decide)))) (by omega) rfl ?_
  refine g_iincv (v := 3) dX1_keepNoted_49 rfl rfl (by decide) rfl ?_
  refine g_goto (tgt := 29) dX1_keepNoted_52 (by decide) ?_
  refine g_iload_n dX1_keepNoted_29 rfl ?_
  refine g_bipushv (v := 6) dX1_keepNoted_30 rfl ?_
  refine g_icmp_ge (tgt := 55) dX1_keepNoted_32 (by decide) (fun c32 => absurd c32 (by decide)) (fun c32 => ?_)
  refine g_aload_n dX1_keepNoted_35 rfl ?_
  refine g_gR (r := 22) dX1_keepNoted_36 fl_X1_11 (fun _ _ => rfl) rfl (by decide) rfl ?_
  refine g_iload_n dX1_keepNoted_39 rfl ?_
  refine g_aload_n dX1_keepNoted_40 rfl ?_
  refine g_gR (r := 22) dX1_keepNoted_41 fl_X1_11 (fun _ _ => rfl) rfl (by decide) rfl ?_
  refine g_iload_n dX1_keepNoted_44 rfl ?_
  refine g_iconstv (v := 1) dX1_keepNoted_45 rfl ?_
  refine g_iadd dX1_keepNoted_46 ?_
  refine g_aaldN (gx := 4) (r := (23 + 16 * π 4)) dX1_keepNoted_47 rfl (by decide) rfl (by omega) (by decide) (hg 4 (by decide)) ?_
  refine g_aastH (gx := 3) dX1_keepNoted_48 rfl (by decide) (mRm_s0 (g := g) (m_pi7 (hπ 4 (by decide)))) (by omega) rfl ?_
  refine g_iincv (v := 4) dX1_keepNoted_49 rfl rfl (by decide) rfl ?_
  refine g_goto (tgt := 29) dX1_keepNoted_52 (by decide) ?_
  refine g_iload_n dX1_keepNoted_29 rfl ?_
  refine g_bipushv (v := 6) dX1_keepNoted_30 rfl ?_
  refine g_icmp_ge (tgt := 55) dX1_keepNoted_32 (by decide) (fun c32 => absurd c32 (by decide)) (fun c32 => ?_)
  refine g_aload_n dX1_keepNoted_35 rfl ?_
  refine g_gR (r := 22) dX1_keepNoted_36 fl_X1_11 (fun _ _ => rfl) rfl (by decide) rfl ?_
  refine g_iload_n dX1_keepNoted_39 rfl ?_
  refine g_aload_n dX1_keepNoted_40 rfl ?_
  refine g_gR (r := 22) dX1_keepNoted_41 fl_X1_11 (fun _ _ => rfl) rfl (by decide) rfl ?_
  refine g_iload_n dX1_keepNoted_44 rfl ?_
  refine g_iconstv (v := 1) dX1_keepNoted_45 rfl ?_
  refine g_iadd dX1_keepNoted_46 ?_
  refine g_aaldN (gx := 5) (r := (23 + 16 * π 5)) dX1_keepNoted_47 rfl (by decide) rfl (by omega) (by decide) (hg 5 (by decide)) ?_
  refine g_aastH (gx := 4) dX1_keepNoted_48 rfl (by decide) (mRm_s0 (g := g) (m_pi7 (hπ 5 (by decide)))) (by omega) rfl ?_
  refine g_iincv (v := 5) dX1_keepNoted_49 rfl rfl (by decide) rfl ?_
  refine g_goto (tgt := 29) dX1_keepNoted_52 (by decide) ?_
  refine g_iload_n dX1_keepNoted_29 rfl ?_
  refine g_bipushv (v := 6) dX1_keepNoted_30 rfl ?_
  refine g_icmp_ge (tgt := 55) dX1_keepNoted_32 (by decide) (fun c32 => absurd c32 (by decide)) (fun c32 => ?_)
  refine g_aload_n dX1_keepNoted_35 rfl ?_
  refine g_gR (r := 22) dX1_keepNoted_36 fl_X1_11 (fun _ _ => rfl) rfl (by decide) rfl ?_
  refine g_iload_n dX1_keepNoted_39 rfl ?_
  refine g_aload_n dX1_keepNoted_40 rfl ?_
  refine g_gR (r := 22) dX1_keepNoted_41 fl_X1_11 (fun _ _ => rfl) rfl (by decide) rfl ?_
  refine g_iload_n dX1_keepNoted_44 rfl ?_
  refine g_iconstv (v := 1) dX1_keepNoted_45 rfl ?_
  refine g_iadd dX1_keepNoted_46 ?_
  refine g_aaldN (gx := 6) (r := (23 + 16 * π 6)) dX1_keepNoted_47 rfl (by decide) rfl (by omega) (by decide) (hg 6 (by decide)) ?_
  refine g_aastH (gx := 5) dX1_keepNoted_48 rfl (by decide) (mRm_s0 (g := g) (m_pi7 (hπ 6 (by decide)))) (by omega) rfl ?_
  refine g_iincv (v := 6) dX1_keepNoted_49 rfl rfl (by decide) rfl ?_
  refine g_goto (tgt := 29) dX1_keepNoted_52 (by decide) ?_
  refine g_iload_n dX1_keepNoted_29 rfl ?_
  refine g_bipushv (v := 6) dX1_keepNoted_30 rfl ?_
  refine g_icmp_ge (tgt := 55) dX1_keepNoted_32 (by decide) (fun c32 => ?_) (fun c32 => absurd (by decide) c32)
  refine g_aload_n dX1_keepNoted_55 rfl ?_
  refine g_gR (r := 22) dX1_keepNoted_56 fl_X1_11 (fun _ _ => rfl) rfl (by decide) rfl ?_
  refine g_bipushv (v := 6) dX1_keepNoted_59 rfl ?_
  refine g_aload_n dX1_keepNoted_61 rfl ?_
  refine g_aastH (gx := 6) dX1_keepNoted_62 rfl (by decide) (mRm_s0 (g := g) (m_pi7 (hπ 0 (by decide)))) (by omega) rfl ?_
  exact g_vret dX1_keepNoted_63 rfl
theorem xRot_at {g : Nat → Option Nat} {π : Nat → Nat} {i : Nat} (h : i < 7) : xRot g π i = some (23 + 16 * π ((i + 1) % 7)) := by
  unfold xRot
  rcases (by omega : i = 0 ∨ i = 1 ∨ i = 2 ∨ i = 3 ∨ i = 4 ∨ i = 5 ∨ i = 6) with rfl | rfl | rfl | rfl | rfl | rfl | rfl <;> rfl
set_option maxHeartbeats 4000000 in
set_option maxRecDepth 100000 in
theorem c_undo_no {L : Nat} {F : Nat → Nat → Int32} {g : Nat → Option Nat} (d : Nat) (ek : F 21 1 = 0) : mCall (d) yX1_takeBack MX1_takeBack [.ref 21, .ref 5] (mHX L F g) (some (.int (-5))) (mHX L F g) := by
  refine mCall_of sX1_takeBack.1 (Nat.le_of_ble_eq_true rfl) ⟨_, rfl, rfl⟩ ?_
  show mGo _ _ (0, [some (.ref 21), some (.ref 5)], [], _) _
  refine g_aload_n dX1_takeBack_0 rfl ?_
  refine g_gI dX1_takeBack_1 fl_X1_17 (fun _ _ => rfl) rfl (by decide) ?_
  refine g_if_ne (tgt := 10) dX1_takeBack_4 (by decide) (fun c4 => absurd ek c4) (fun c4 => ?_)
  refine g_bipushv (v := (-5)) dX1_takeBack_7 rfl ?_
  exact g_iret dX1_takeBack_9 rfl
set_option maxHeartbeats 4000000 in
set_option maxRecDepth 100000 in
theorem c_undo_ok {L : Nat} {F : Nat → Nat → Int32} {g : Nat → Option Nat} (d : Nat) (π : Nat → Nat) (hg : ∀ i, i < 7 → g i = some (23 + 16 * π i)) (hπ : ∀ i, i < 7 → π i < 7) (k : Nat) (hk : k < 6) (ek : F 21 1 = nI (k + 1)) : mCall (d + 3) yX1_takeBack MX1_takeBack [.ref 21, .ref 5] (mHX L F g) (some (.int (nI k))) (mHX L (xCopyR (pe F 21 1 (F 21 1 - 1)) 5 (23 + 16 * π k)) g) := by
  refine mCall_of sX1_takeBack.1 (Nat.le_of_ble_eq_true rfl) ⟨_, rfl, rfl⟩ ?_
  show mGo _ _ (0, [some (.ref 21), some (.ref 5)], [], _) _
  have e1 : F 21 1 - 1 = nI k := by rw [ek]; exact nI_pred k
  refine g_aload_n dX1_takeBack_0 rfl ?_
  refine g_gI dX1_takeBack_1 fl_X1_17 (fun _ _ => rfl) rfl (by decide) ?_
  refine g_if_ne (tgt := 10) dX1_takeBack_4 (by decide) (fun c4 => ?_) (fun c4 => absurd c4 (by rw [ek]; exact nI_ne0 (by omega) (by omega)))
  refine g_aload_n dX1_takeBack_10 rfl ?_
  refine g_dup dX1_takeBack_11 rfl ?_
  refine g_gI dX1_takeBack_12 fl_X1_17 (fun _ _ => rfl) rfl (by decide) ?_
  refine g_iconstv (v := 1) dX1_takeBack_15 rfl ?_
  refine g_isub dX1_takeBack_16 ?_
  refine g_pI dX1_takeBack_17 fl_X1_17 (Or.inl rfl) rfl (by decide) rfl ?_
  refine g_aload_n dX1_takeBack_20 rfl ?_
  refine g_aload_n dX1_takeBack_21 rfl ?_
  refine g_gR (r := 22) dX1_takeBack_22 fl_X1_11 (fun _ _ => rfl) rfl (by decide) rfl ?_
  refine g_aload_n dX1_takeBack_25 rfl ?_
  refine g_gI dX1_takeBack_26 fl_X1_17 (fun _ _ => rfl) rfl (by decide) ?_
  refine g_aaldN (gx := k) (r := (23 + 16 * π k)) dX1_takeBack_29 rfl (by decide) (by rw [pe_eq, e1]) (by omega) (by decide) (hg k (by omega)) ?_
  refine g_V1v dX1_takeBack_30 ml_X1_22 sX4_copyFrom rfl (by decide) (Nat.le_of_ble_eq_true rfl) (c_copyR (F := (pe F 21 1 (F 21 1 - 1))) d 5 (23 + 16 * π k) mRm_5 (m_pi7 (hπ k (by omega)))) ?_
  refine g_aload_n dX1_takeBack_33 rfl ?_
  refine g_gI dX1_takeBack_34 fl_X1_17 (fun _ _ => rfl) rfl (by decide) ?_
  exact g_iret dX1_takeBack_37 (m_ret (by rw [xCopyR_out (by omega), pe_eq, e1]))
theorem mR_136 {g : Nat → Option Nat} {b : Nat} (h : b < 2) : mRF g 136 b = some (137 + 16 * b) := by
  rcases (by omega : b = 0 ∨ b = 1) with rfl | rfl <;> rfl
set_option maxHeartbeats 4000000 in
set_option maxRecDepth 100000 in
theorem c_slot_no {L : Nat} {F : Nat → Nat → Int32} {g : Nat → Option Nat} (d : Nat) (x : Int32) (hb : ¬ (0 ≤ x ∧ x < 2)) : mCall (d) yX5_keep MX5_keep [.ref 135, .int x, .ref 5] (mHX L F g) (some (.int (-2))) (mHX L F g) := by
  refine mCall_of sX5_keep.1 (Nat.le_of_ble_eq_true rfl) ⟨_, rfl, rfl⟩ ?_
  show mGo _ _ (0, [some (.ref 135), some (.int x), some (.ref 5)], [], _) _
  refine g_iload_n dX5_keep_0 rfl ?_
  refine g_if_lt (tgt := 9) dX5_keep_1 (by decide) (fun c1 => ?_) (fun c1 => ?_)
  · skip
    refine g_bipushv (v := (-2)) dX5_keep_9 rfl ?_
    exact g_iret dX5_keep_11 rfl
  · skip
    refine g_iload_n dX5_keep_4 rfl ?_
    refine g_iconstv (v := 2) dX5_keep_5 rfl ?_
    refine g_icmp_lt (tgt := 12) dX5_keep_6 (by decide) (fun c6 => absurd c6 (fun q => hb ⟨Int32.not_lt.mp c1, q⟩)) (fun c6 => ?_)
    refine g_bipushv (v := (-2)) dX5_keep_9 rfl ?_
    exact g_iret dX5_keep_11 rfl
set_option maxHeartbeats 4000000 in
set_option maxRecDepth 100000 in
theorem c_slot_keep {L : Nat} {F : Nat → Nat → Int32} {g : Nat → Option Nat} (d : Nat) (b : Nat) (hb : b < 2) : mCall (d + 3) yX5_keep MX5_keep [.ref 135, .int (nI b), .ref 5] (mHX L F g) (some (.int (F 7 0))) (mHX L (pe (xCopyR F (137 + 16 * b) 5) 169 b 1) g) := by
  refine mCall_of sX5_keep.1 (Nat.le_of_ble_eq_true rfl) ⟨_, rfl, rfl⟩ ?_
  show mGo _ _ (0, [some (.ref 135), some (.int (nI b)), some (.ref 5)], [], _) _
  refine g_iload_n dX5_keep_0 rfl ?_
  refine g_if_lt (tgt := 9) dX5_keep_1 (by decide) (fun c1 => absurd c1 (nI_pos (by omega))) (fun c1 => ?_)
  refine g_iload_n dX5_keep_4 rfl ?_
  refine g_iconstv (v := 2) dX5_keep_5 rfl ?_
  refine g_icmp_lt (tgt := 12) dX5_keep_6 (by decide) (fun c6 => ?_) (fun c6 => absurd (nI_lt (a := b) (b := 2) hb (by decide)) c6)
  refine g_aload_n dX5_keep_12 rfl ?_
  refine g_gR (r := 136) dX5_keep_13 fl_X5_12 (fun _ _ => rfl) rfl (by decide) rfl ?_
  refine g_iload_n dX5_keep_16 rfl ?_
  refine g_aaldN (gx := b) (r := (137 + 16 * b)) dX5_keep_17 rfl (by decide) rfl (by omega) (by decide) (mR_136 hb) ?_
  refine g_aload_n dX5_keep_18 rfl ?_
  refine g_V1v dX5_keep_19 ml_X5_22 sX4_copyFrom (mRm_s0 (g := g) (mRm_s hb)) (by omega) (Nat.le_of_ble_eq_true rfl) (c_copyR d (137 + 16 * b) 5 (mRm_s hb) mRm_5) ?_
  refine g_aload_n dX5_keep_22 rfl ?_
  refine g_gR (r := 169) dX5_keep_23 fl_X5_18 (fun _ _ => rfl) rfl (by decide) rfl ?_
  refine g_iload_n dX5_keep_26 rfl ?_
  refine g_iconstv (v := 1) dX5_keep_27 rfl ?_
  refine g_zastN (gx := b) dX5_keep_28 rfl (by decide) rfl (by omega) (by decide) rfl ?_
  refine g_aload_n dX5_keep_29 rfl ?_
  refine g_gR (r := 7) dX5_keep_30 fl_X5_26 (fun _ _ => rfl) rfl (by decide) rfl ?_
  refine g_gI dX5_keep_33 fl_X5_30 (fun _ _ => rfl) rfl (by decide) ?_
  exact g_iret dX5_keep_36 (m_ret (by rw [pe_row (by decide), xCopyR_out (by omega)]))
set_option maxHeartbeats 4000000 in
set_option maxRecDepth 100000 in
theorem c_back_no {L : Nat} {F : Nat → Nat → Int32} {g : Nat → Option Nat} (d : Nat) (x : Int32) (hb : ¬ (0 ≤ x ∧ x < 2)) : mCall (d) yX5_giveBack MX5_giveBack [.ref 135, .int x, .ref 5] (mHX L F g) (some (.int (-2))) (mHX L F g) := by
  refine mCall_of sX5_giveBack.1 (Nat.le_of_ble_eq_true rfl) ⟨_, rfl, rfl⟩ ?_
  show mGo _ _ (0, [some (.ref 135), some (.int x), some (.ref 5)], [], _) _
  refine g_iload_n dX5_giveBack_0 rfl ?_
  refine g_if_lt (tgt := 9) dX5_giveBack_1 (by decide) (fun c1 => ?_) (fun c1 => ?_)
  · skip
    refine g_bipushv (v := (-2)) dX5_giveBack_9 rfl ?_
    exact g_iret dX5_giveBack_11 rfl
  · skip
    refine g_iload_n dX5_giveBack_4 rfl ?_
    refine g_iconstv (v := 2) dX5_giveBack_5 rfl ?_
    refine g_icmp_lt (tgt := 12) dX5_giveBack_6 (by decide) (fun c6 => absurd c6 (fun q => hb ⟨Int32.not_lt.mp c1, q⟩)) (fun c6 => ?_)
    refine g_bipushv (v := (-2)) dX5_giveBack_9 rfl ?_
    exact g_iret dX5_giveBack_11 rfl
set_option maxHeartbeats 4000000 in
set_option maxRecDepth 100000 in
theorem c_back_none {L : Nat} {F : Nat → Nat → Int32} {g : Nat → Option Nat} (d : Nat) (b : Nat) (hb : b < 2) (h0 : F 169 b = 0) : mCall (d) yX5_giveBack MX5_giveBack [.ref 135, .int (nI b), .ref 5] (mHX L F g) (some (.int (-5))) (mHX L F g) := by
  refine mCall_of sX5_giveBack.1 (Nat.le_of_ble_eq_true rfl) ⟨_, rfl, rfl⟩ ?_
  show mGo _ _ (0, [some (.ref 135), some (.int (nI b)), some (.ref 5)], [], _) _
  refine g_iload_n dX5_giveBack_0 rfl ?_
  refine g_if_lt (tgt := 9) dX5_giveBack_1 (by decide) (fun c1 => absurd c1 (nI_pos (by omega))) (fun c1 => ?_)
  refine g_iload_n dX5_giveBack_4 rfl ?_
  refine g_iconstv (v := 2) dX5_giveBack_5 rfl ?_
  refine g_icmp_lt (tgt := 12) dX5_giveBack_6 (by decide) (fun c6 => ?_) (fun c6 => absurd (nI_lt (a := b) (b := 2) hb (by decide)) c6)
  refine g_aload_n dX5_giveBack_12 rfl ?_
  refine g_gR (r := 169) dX5_giveBack_13 fl_X5_18 (fun _ _ => rfl) rfl (by decide) rfl ?_
  refine g_iload_n dX5_giveBack_16 rfl ?_
  refine g_zaldN (gx := b) dX5_giveBack_17 rfl (by decide) rfl (by omega) (by decide) ?_
  refine g_if_ne (tgt := 24) dX5_giveBack_18 (by decide) (fun c18 => absurd h0 c18) (fun c18 => ?_)
  refine g_bipushv (v := (-5)) dX5_giveBack_21 rfl ?_
  exact g_iret dX5_giveBack_23 rfl
set_option maxHeartbeats 4000000 in
set_option maxRecDepth 100000 in
theorem c_back_ok {L : Nat} {F : Nat → Nat → Int32} {g : Nat → Option Nat} (d : Nat) (b : Nat) (hb : b < 2) (h0 : ¬ F 169 b = 0) : mCall (d + 3) yX5_giveBack MX5_giveBack [.ref 135, .int (nI b), .ref 5] (mHX L F g) (some (.int ((xCopyR F 5 (137 + 16 * b)) 7 0))) (mHX L (xCopyR F 5 (137 + 16 * b)) g) := by
  refine mCall_of sX5_giveBack.1 (Nat.le_of_ble_eq_true rfl) ⟨_, rfl, rfl⟩ ?_
  show mGo _ _ (0, [some (.ref 135), some (.int (nI b)), some (.ref 5)], [], _) _
  refine g_iload_n dX5_giveBack_0 rfl ?_
  refine g_if_lt (tgt := 9) dX5_giveBack_1 (by decide) (fun c1 => absurd c1 (nI_pos (by omega))) (fun c1 => ?_)
  refine g_iload_n dX5_giveBack_4 rfl ?_
  refine g_iconstv (v := 2) dX5_giveBack_5 rfl ?_
  refine g_icmp_lt (tgt := 12) dX5_giveBack_6 (by decide) (fun c6 => ?_) (fun c6 => absurd (nI_lt (a := b) (b := 2) hb (by decide)) c6)
  refine g_aload_n dX5_giveBack_12 rfl ?_
  refine g_gR (r := 169) dX5_giveBack_13 fl_X5_18 (fun _ _ => rfl) rfl (by decide) rfl ?_
  refine g_iload_n dX5_giveBack_16 rfl ?_
  refine g_zaldN (gx := b) dX5_giveBack_17 rfl (by decide) rfl (by omega) (by decide) ?_
  refine g_if_ne (tgt := 24) dX5_giveBack_18 (by decide) (fun c18 => ?_) (fun c18 => absurd c18 h0)
  refine g_aload_n dX5_giveBack_24 rfl ?_
  refine g_aload_n dX5_giveBack_25 rfl ?_
  refine g_gR (r := 136) dX5_giveBack_26 fl_X5_12 (fun _ _ => rfl) rfl (by decide) rfl ?_
  refine g_iload_n dX5_giveBack_29 rfl ?_
  refine g_aaldN (gx := b) (r := (137 + 16 * b)) dX5_giveBack_30 rfl (by decide) rfl (by omega) (by decide) (mR_136 hb) ?_
  refine g_V1v dX5_giveBack_31 ml_X5_22 sX4_copyFrom rfl (by decide) (Nat.le_of_ble_eq_true rfl) (c_copyR d 5 (137 + 16 * b) mRm_5 (mRm_s hb)) ?_
  refine g_aload_n dX5_giveBack_34 rfl ?_
  refine g_gR (r := 7) dX5_giveBack_35 fl_X5_26 (fun _ _ => rfl) rfl (by decide) rfl ?_
  refine g_gI dX5_giveBack_38 fl_X5_30 (fun _ _ => rfl) rfl (by decide) ?_
  exact g_iret dX5_giveBack_41 rfl
end
section
set_option maxHeartbeats 4000000 in
set_option maxRecDepth 100000 in
theorem c_of_no {L : Nat} {F : Nat → Nat → Int32} {g : Nat → Option Nat} (d : Nat) (x w : Int32) (hb : ¬ (0 ≤ x ∧ x < F 7 0)) : mCall (d + 3) yX6_of MX6_of [.ref 4, .int x, .int w] (mHX L F g) (some (.int (-1))) (mHX L F g) := by
  refine mCall_of sX6_of.1 (Nat.le_of_ble_eq_true rfl) ⟨_, rfl, rfl⟩ ?_
  show mGo _ _ (0, [some (.ref 4), some (.int x), some (.int w), none], [], _) _
  refine g_aload_n dX6_of_0 rfl ?_
  refine g_gR (r := 5) dX6_of_1 fl_X6_10 (fun _ _ => rfl) rfl (by decide) rfl ?_
  refine g_gR (r := 7) dX6_of_4 fl_X6_73 (fun _ _ => rfl) rfl (by decide) rfl ?_
  refine g_astore_n dX6_of_7 (by decide) rfl ?_
  refine g_aload_n dX6_of_8 rfl ?_
  refine g_iload_n dX6_of_9 rfl ?_
  refine g_V1i dX6_of_10 ml_X6_77 sX0_isKnown rfl (by decide) (Nat.le_of_ble_eq_true rfl) (c_isKnown (d + 2) x) ?_
  refine g_if_ne (tgt := 18) dX6_of_13 (by decide) (fun c13 => absurd (mbi_f hb) c13) (fun c13 => ?_)
  refine g_iconstv (v := (-1)) dX6_of_16 rfl ?_
  exact g_iret dX6_of_17 rfl
set_option maxHeartbeats 4000000 in
set_option maxRecDepth 100000 in
theorem c_of_bad {L : Nat} {F : Nat → Nat → Int32} {g : Nat → Option Nat} (d : Nat) (x w : Int32) (hb : 0 ≤ x ∧ x < F 7 0) (hw : w.toInt < 0 ∨ 6 < w.toInt) : mCall (d + 3) yX6_of MX6_of [.ref 4, .int x, .int w] (mHX L F g) (some (.int (-2))) (mHX L F g) := by
  refine mCall_of sX6_of.1 (Nat.le_of_ble_eq_true rfl) ⟨_, rfl, rfl⟩ ?_
  show mGo _ _ (0, [some (.ref 4), some (.int x), some (.int w), none], [], _) _
  refine g_aload_n dX6_of_0 rfl ?_
  refine g_gR (r := 5) dX6_of_1 fl_X6_10 (fun _ _ => rfl) rfl (by decide) rfl ?_
  refine g_gR (r := 7) dX6_of_4 fl_X6_73 (fun _ _ => rfl) rfl (by decide) rfl ?_
  refine g_astore_n dX6_of_7 (by decide) rfl ?_
  refine g_aload_n dX6_of_8 rfl ?_
  refine g_iload_n dX6_of_9 rfl ?_
  refine g_V1i dX6_of_10 ml_X6_77 sX0_isKnown rfl (by decide) (Nat.le_of_ble_eq_true rfl) (c_isKnown (d + 2) x) ?_
  refine g_if_ne (tgt := 18) dX6_of_13 (by decide) (fun c13 => ?_) (fun c13 => absurd c13 (mbi_n0.mpr hb))
  refine g_iload_n dX6_of_18 rfl ?_
  refine g_tabOut (tgt := 116) dX6_of_19 (hw) (by decide) ?_
  refine g_bipushv (v := (-2)) dX6_of_116 rfl ?_
  exact g_iret dX6_of_118 rfl
set_option maxHeartbeats 4000000 in
set_option maxRecDepth 100000 in
theorem c_of_0 {L : Nat} {F : Nat → Nat → Int32} {g : Nat → Option Nat} (d : Nat) (n : Nat) (hn : F 7 0 = nI n) (h10 : n ≤ 10) (k : Nat) (hk : k < n) : mCall (d + 3) yX6_of MX6_of [.ref 4, .int (nI k), .int 0] (mHX L F g) (some (.int (F 8 k))) (mHX L F g) := by
  refine mCall_of sX6_of.1 (Nat.le_of_ble_eq_true rfl) ⟨_, rfl, rfl⟩ ?_
  show mGo _ _ (0, [some (.ref 4), some (.int (nI k)), some (.int 0), none], [], _) _
  have hk0 : 0 ≤ nI k ∧ nI k < F 7 0 := ⟨nI_pos' (by omega), by rw [hn]; exact nI_lt hk (by omega)⟩
  refine g_aload_n dX6_of_0 rfl ?_
  refine g_gR (r := 5) dX6_of_1 fl_X6_10 (fun _ _ => rfl) rfl (by decide) rfl ?_
  refine g_gR (r := 7) dX6_of_4 fl_X6_73 (fun _ _ => rfl) rfl (by decide) rfl ?_
  refine g_astore_n dX6_of_7 (by decide) rfl ?_
  refine g_aload_n dX6_of_8 rfl ?_
  refine g_iload_n dX6_of_9 rfl ?_
  refine g_V1i dX6_of_10 ml_X6_77 sX0_isKnown rfl (by decide) (Nat.le_of_ble_eq_true rfl) (c_isKnown (d + 2) (nI k)) ?_
  refine g_if_ne (tgt := 18) dX6_of_13 (by decide) (fun c13 => ?_) (fun c13 => absurd c13 (mbi_n0.mpr hk0))
  refine g_iload_n dX6_of_18 rfl ?_
  refine g_tabIn (off := 41) (tgt := 60) dX6_of_19 (by decide) (by decide) rfl (by decide) ?_
  refine g_aload_n dX6_of_60 rfl ?_
  refine g_gR (r := 8) dX6_of_61 fl_X6_83 (fun _ _ => rfl) rfl (by decide) rfl ?_
  refine g_iload_n dX6_of_64 rfl ?_
  refine g_ialdN (gx := k) dX6_of_65 rfl (by decide) rfl (by omega) (by decide) ?_
  exact g_iret dX6_of_66 rfl
set_option maxHeartbeats 4000000 in
set_option maxRecDepth 100000 in
theorem c_of_1 {L : Nat} {F : Nat → Nat → Int32} {g : Nat → Option Nat} (d : Nat) (n : Nat) (hn : F 7 0 = nI n) (h10 : n ≤ 10) (k : Nat) (hk : k < n) : mCall (d + 3) yX6_of MX6_of [.ref 4, .int (nI k), .int 1] (mHX L F g) (some (.int (F 9 k))) (mHX L F g) := by
  refine mCall_of sX6_of.1 (Nat.le_of_ble_eq_true rfl) ⟨_, rfl, rfl⟩ ?_
  show mGo _ _ (0, [some (.ref 4), some (.int (nI k)), some (.int 1), none], [], _) _
  have hk0 : 0 ≤ nI k ∧ nI k < F 7 0 := ⟨nI_pos' (by omega), by rw [hn]; exact nI_lt hk (by omega)⟩
  refine g_aload_n dX6_of_0 rfl ?_
  refine g_gR (r := 5) dX6_of_1 fl_X6_10 (fun _ _ => rfl) rfl (by decide) rfl ?_
  refine g_gR (r := 7) dX6_of_4 fl_X6_73 (fun _ _ => rfl) rfl (by decide) rfl ?_
  refine g_astore_n dX6_of_7 (by decide) rfl ?_
  refine g_aload_n dX6_of_8 rfl ?_
  refine g_iload_n dX6_of_9 rfl ?_
  refine g_V1i dX6_of_10 ml_X6_77 sX0_isKnown rfl (by decide) (Nat.le_of_ble_eq_true rfl) (c_isKnown (d + 2) (nI k)) ?_
  refine g_if_ne (tgt := 18) dX6_of_13 (by decide) (fun c13 => ?_) (fun c13 => absurd c13 (mbi_n0.mpr hk0))
  refine g_iload_n dX6_of_18 rfl ?_
  refine g_tabIn (off := 48) (tgt := 67) dX6_of_19 (by decide) (by decide) rfl (by decide) ?_
  refine g_aload_n dX6_of_67 rfl ?_
  refine g_gR (r := 9) dX6_of_68 fl_X6_87 (fun _ _ => rfl) rfl (by decide) rfl ?_
  refine g_iload_n dX6_of_71 rfl ?_
  refine g_ialdN (gx := k) dX6_of_72 rfl (by decide) rfl (by omega) (by decide) ?_
  exact g_iret dX6_of_73 rfl
set_option maxHeartbeats 4000000 in
set_option maxRecDepth 100000 in
theorem c_of_2 {L : Nat} {F : Nat → Nat → Int32} {g : Nat → Option Nat} (d : Nat) (n : Nat) (hn : F 7 0 = nI n) (h10 : n ≤ 10) (k : Nat) (hk : k < n) : mCall (d + 3) yX6_of MX6_of [.ref 4, .int (nI k), .int 2] (mHX L F g) (some (.int (F 10 k))) (mHX L F g) := by
  refine mCall_of sX6_of.1 (Nat.le_of_ble_eq_true rfl) ⟨_, rfl, rfl⟩ ?_
  show mGo _ _ (0, [some (.ref 4), some (.int (nI k)), some (.int 2), none], [], _) _
  have hk0 : 0 ≤ nI k ∧ nI k < F 7 0 := ⟨nI_pos' (by omega), by rw [hn]; exact nI_lt hk (by omega)⟩
  refine g_aload_n dX6_of_0 rfl ?_
  refine g_gR (r := 5) dX6_of_1 fl_X6_10 (fun _ _ => rfl) rfl (by decide) rfl ?_
  refine g_gR (r := 7) dX6_of_4 fl_X6_73 (fun _ _ => rfl) rfl (by decide) rfl ?_
  refine g_astore_n dX6_of_7 (by decide) rfl ?_
  refine g_aload_n dX6_of_8 rfl ?_
  refine g_iload_n dX6_of_9 rfl ?_
  refine g_V1i dX6_of_10 ml_X6_77 sX0_isKnown rfl (by decide) (Nat.le_of_ble_eq_true rfl) (c_isKnown (d + 2) (nI k)) ?_
  refine g_if_ne (tgt := 18) dX6_of_13 (by decide) (fun c13 => ?_) (fun c13 => absurd c13 (mbi_n0.mpr hk0))
  refine g_iload_n dX6_of_18 rfl ?_
  refine g_tabIn (off := 55) (tgt := 74) dX6_of_19 (by decide) (by decide) rfl (by decide) ?_
  refine g_aload_n dX6_of_74 rfl ?_
  refine g_gR (r := 10) dX6_of_75 fl_X6_90 (fun _ _ => rfl) rfl (by decide) rfl ?_
  refine g_iload_n dX6_of_78 rfl ?_
  refine g_ialdN (gx := k) dX6_of_79 rfl (by decide) rfl (by omega) (by decide) ?_
  exact g_iret dX6_of_80 rfl
set_option maxHeartbeats 4000000 in
set_option maxRecDepth 100000 in
theorem c_of_3 {L : Nat} {F : Nat → Nat → Int32} {g : Nat → Option Nat} (d : Nat) (n : Nat) (hn : F 7 0 = nI n) (h10 : n ≤ 10) (k : Nat) (hk : k < n) : mCall (d + 3) yX6_of MX6_of [.ref 4, .int (nI k), .int 3] (mHX L F g) (some (.int (F 11 k))) (mHX L F g) := by
  refine mCall_of sX6_of.1 (Nat.le_of_ble_eq_true rfl) ⟨_, rfl, rfl⟩ ?_
  show mGo _ _ (0, [some (.ref 4), some (.int (nI k)), some (.int 3), none], [], _) _
  have hk0 : 0 ≤ nI k ∧ nI k < F 7 0 := ⟨nI_pos' (by omega), by rw [hn]; exact nI_lt hk (by omega)⟩
  refine g_aload_n dX6_of_0 rfl ?_
  refine g_gR (r := 5) dX6_of_1 fl_X6_10 (fun _ _ => rfl) rfl (by decide) rfl ?_
  refine g_gR (r := 7) dX6_of_4 fl_X6_73 (fun _ _ => rfl) rfl (by decide) rfl ?_
  refine g_astore_n dX6_of_7 (by decide) rfl ?_
  refine g_aload_n dX6_of_8 rfl ?_
  refine g_iload_n dX6_of_9 rfl ?_
  refine g_V1i dX6_of_10 ml_X6_77 sX0_isKnown rfl (by decide) (Nat.le_of_ble_eq_true rfl) (c_isKnown (d + 2) (nI k)) ?_
  refine g_if_ne (tgt := 18) dX6_of_13 (by decide) (fun c13 => ?_) (fun c13 => absurd c13 (mbi_n0.mpr hk0))
  refine g_iload_n dX6_of_18 rfl ?_
  refine g_tabIn (off := 62) (tgt := 81) dX6_of_19 (by decide) (by decide) rfl (by decide) ?_
  refine g_aload_n dX6_of_81 rfl ?_
  refine g_gR (r := 11) dX6_of_82 fl_X6_93 (fun _ _ => rfl) rfl (by decide) rfl ?_
  refine g_iload_n dX6_of_85 rfl ?_
  refine g_ialdN (gx := k) dX6_of_86 rfl (by decide) rfl (by omega) (by decide) ?_
  exact g_iret dX6_of_87 rfl
set_option maxHeartbeats 4000000 in
set_option maxRecDepth 100000 in
theorem c_of_5 {L : Nat} {F : Nat → Nat → Int32} {g : Nat → Option Nat} (d : Nat) (n : Nat) (hn : F 7 0 = nI n) (h10 : n ≤ 10) (k : Nat) (hk : k < n) : mCall (d + 3) yX6_of MX6_of [.ref 4, .int (nI k), .int 5] (mHX L F g) (some (.int (F 12 k))) (mHX L F g) := by
  refine mCall_of sX6_of.1 (Nat.le_of_ble_eq_true rfl) ⟨_, rfl, rfl⟩ ?_
  show mGo _ _ (0, [some (.ref 4), some (.int (nI k)), some (.int 5), none], [], _) _
  have hk0 : 0 ≤ nI k ∧ nI k < F 7 0 := ⟨nI_pos' (by omega), by rw [hn]; exact nI_lt hk (by omega)⟩
  refine g_aload_n dX6_of_0 rfl ?_
  refine g_gR (r := 5) dX6_of_1 fl_X6_10 (fun _ _ => rfl) rfl (by decide) rfl ?_
  refine g_gR (r := 7) dX6_of_4 fl_X6_73 (fun _ _ => rfl) rfl (by decide) rfl ?_
  refine g_astore_n dX6_of_7 (by decide) rfl ?_
  refine g_aload_n dX6_of_8 rfl ?_
  refine g_iload_n dX6_of_9 rfl ?_
  refine g_V1i dX6_of_10 ml_X6_77 sX0_isKnown rfl (by decide) (Nat.le_of_ble_eq_true rfl) (c_isKnown (d + 2) (nI k)) ?_
  refine g_if_ne (tgt := 18) dX6_of_13 (by decide) (fun c13 => ?_) (fun c13 => absurd c13 (mbi_n0.mpr hk0))
  refine g_iload_n dX6_of_18 rfl ?_
  refine g_tabIn (off := 83) (tgt := 102) dX6_of_19 (by decide) (by decide) rfl (by decide) ?_
  refine g_aload_n dX6_of_102 rfl ?_
  refine g_gR (r := 12) dX6_of_103 fl_X6_99 (fun _ _ => rfl) rfl (by decide) rfl ?_
  refine g_iload_n dX6_of_106 rfl ?_
  refine g_ialdN (gx := k) dX6_of_107 rfl (by decide) rfl (by omega) (by decide) ?_
  exact g_iret dX6_of_108 rfl
set_option maxHeartbeats 4000000 in
set_option maxRecDepth 100000 in
theorem c_of_6 {L : Nat} {F : Nat → Nat → Int32} {g : Nat → Option Nat} (d : Nat) (n : Nat) (hn : F 7 0 = nI n) (h10 : n ≤ 10) (k : Nat) (hk : k < n) : mCall (d + 3) yX6_of MX6_of [.ref 4, .int (nI k), .int 6] (mHX L F g) (some (.int (F 13 k))) (mHX L F g) := by
  refine mCall_of sX6_of.1 (Nat.le_of_ble_eq_true rfl) ⟨_, rfl, rfl⟩ ?_
  show mGo _ _ (0, [some (.ref 4), some (.int (nI k)), some (.int 6), none], [], _) _
  have hk0 : 0 ≤ nI k ∧ nI k < F 7 0 := ⟨nI_pos' (by omega), by rw [hn]; exact nI_lt hk (by omega)⟩
  refine g_aload_n dX6_of_0 rfl ?_
  refine g_gR (r := 5) dX6_of_1 fl_X6_10 (fun _ _ => rfl) rfl (by decide) rfl ?_
  refine g_gR (r := 7) dX6_of_4 fl_X6_73 (fun _ _ => rfl) rfl (by decide) rfl ?_
  refine g_astore_n dX6_of_7 (by decide) rfl ?_
  refine g_aload_n dX6_of_8 rfl ?_
  refine g_iload_n dX6_of_9 rfl ?_
  refine g_V1i dX6_of_10 ml_X6_77 sX0_isKnown rfl (by decide) (Nat.le_of_ble_eq_true rfl) (c_isKnown (d + 2) (nI k)) ?_
  refine g_if_ne (tgt := 18) dX6_of_13 (by decide) (fun c13 => ?_) (fun c13 => absurd c13 (mbi_n0.mpr hk0))
  refine g_iload_n dX6_of_18 rfl ?_
  refine g_tabIn (off := 90) (tgt := 109) dX6_of_19 (by decide) (by decide) rfl (by decide) ?_
  refine g_aload_n dX6_of_109 rfl ?_
  refine g_gR (r := 13) dX6_of_110 fl_X6_102 (fun _ _ => rfl) rfl (by decide) rfl ?_
  refine g_iload_n dX6_of_113 rfl ?_
  refine g_ialdN (gx := k) dX6_of_114 rfl (by decide) rfl (by omega) (by decide) ?_
  exact g_iret dX6_of_115 rfl
set_option maxHeartbeats 4000000 in
set_option maxRecDepth 100000 in
theorem c_of_4 {L : Nat} {F : Nat → Nat → Int32} {g : Nat → Option Nat} (d : Nat) (n : Nat) (hn : F 7 0 = nI n) (h10 : n ≤ 10) (k : Nat) (hk : k < n) : mCall (d + 3) yX6_of MX6_of [.ref 4, .int (nI k), .int 4] (mHX L F g) (some (.int (mbi (¬ F 8 k = (-6) ∧ sHost (F 8) (F 9) (F 8 k) n = nI k)))) (mHX L F g) := by
  refine mCall_of sX6_of.1 (Nat.le_of_ble_eq_true rfl) ⟨_, rfl, rfl⟩ ?_
  show mGo _ _ (0, [some (.ref 4), some (.int (nI k)), some (.int 4), none], [], _) _
  have hk0 : 0 ≤ nI k ∧ nI k < F 7 0 := ⟨nI_pos' (by omega), by rw [hn]; exact nI_lt hk (by omega)⟩
  refine g_aload_n dX6_of_0 rfl ?_
  refine g_gR (r := 5) dX6_of_1 fl_X6_10 (fun _ _ => rfl) rfl (by decide) rfl ?_
  refine g_gR (r := 7) dX6_of_4 fl_X6_73 (fun _ _ => rfl) rfl (by decide) rfl ?_
  refine g_astore_n dX6_of_7 (by decide) rfl ?_
  refine g_aload_n dX6_of_8 rfl ?_
  refine g_iload_n dX6_of_9 rfl ?_
  refine g_V1i dX6_of_10 ml_X6_77 sX0_isKnown rfl (by decide) (Nat.le_of_ble_eq_true rfl) (c_isKnown (d + 2) (nI k)) ?_
  refine g_if_ne (tgt := 18) dX6_of_13 (by decide) (fun c13 => ?_) (fun c13 => absurd c13 (mbi_n0.mpr hk0))
  refine g_iload_n dX6_of_18 rfl ?_
  refine g_tabIn (off := 69) (tgt := 88) dX6_of_19 (by decide) (by decide) rfl (by decide) ?_
  refine g_aload_n dX6_of_88 rfl ?_
  refine g_iload_n dX6_of_89 rfl ?_
  refine g_V1i dX6_of_90 ml_X6_96 sX0_isHost rfl (by decide) (Nat.le_of_ble_eq_true rfl) (c_isHost (d + 1) n hn h10 k hk) ?_
  refine g_if_eq (tgt := 100) dX6_of_93 (by decide) (fun c93 => ?_) (fun c93 => ?_)
  · skip
    refine g_iconstv (v := 0) dX6_of_100 rfl ?_
    exact g_iret dX6_of_101 (m_ret (by first | exact c93 | exact c93.symm | exact mbi_t (mbi_n0.mp c93) | exact (mbi_t (mbi_n0.mp c93)).symm | exact mbi_t (Decidable.not_not.mp (fun q => c93 (mbi_f q))) | exact (mbi_t (Decidable.not_not.mp (fun q => c93 (mbi_f q)))).symm))
  · skip
    refine g_iconstv (v := 1) dX6_of_96 rfl ?_
    refine g_goto (tgt := 101) dX6_of_97 (by decide) ?_
    exact g_iret dX6_of_101 (m_ret (by first | exact c93 | exact c93.symm | exact mbi_t (mbi_n0.mp c93) | exact (mbi_t (mbi_n0.mp c93)).symm | exact mbi_t (Decidable.not_not.mp (fun q => c93 (mbi_f q))) | exact (mbi_t (Decidable.not_not.mp (fun q => c93 (mbi_f q)))).symm))
set_option maxHeartbeats 4000000 in
set_option maxRecDepth 100000 in
theorem c_tab_no {L : Nat} {F : Nat → Nat → Int32} {g : Nat → Option Nat} (d : Nat) (x w : Int32) (hb : ¬ (0 ≤ x ∧ x < 3)) : mCall (d + 3) yX6_table MX6_table [.ref 4, .int x, .int w] (mHX L F g) (some (.int (-1))) (mHX L F g) := by
  refine mCall_of sX6_table.1 (Nat.le_of_ble_eq_true rfl) ⟨_, rfl, rfl⟩ ?_
  show mGo _ _ (0, [some (.ref 4), some (.int x), some (.int w)], [], _) _
  refine g_iload_n dX6_table_0 rfl ?_
  refine g_S1i dX6_table_1 ml_X6_105 sX6_isTable (Nat.le_of_ble_eq_true rfl) (c_isTable (d + 2) x) ?_
  refine g_if_ne (tgt := 9) dX6_table_4 (by decide) (fun c4 => absurd (mbi_f hb) c4) (fun c4 => ?_)
  refine g_iconstv (v := (-1)) dX6_table_7 rfl ?_
  exact g_iret dX6_table_8 rfl
set_option maxHeartbeats 4000000 in
set_option maxRecDepth 100000 in
theorem c_tab_bad {L : Nat} {F : Nat → Nat → Int32} {g : Nat → Option Nat} (d : Nat) (x w : Int32) (hb : 0 ≤ x ∧ x < 3) (hw : w.toInt < 0 ∨ 5 < w.toInt) : mCall (d + 3) yX6_table MX6_table [.ref 4, .int x, .int w] (mHX L F g) (some (.int (-2))) (mHX L F g) := by
  refine mCall_of sX6_table.1 (Nat.le_of_ble_eq_true rfl) ⟨_, rfl, rfl⟩ ?_
  show mGo _ _ (0, [some (.ref 4), some (.int x), some (.int w)], [], _) _
  refine g_iload_n dX6_table_0 rfl ?_
  refine g_S1i dX6_table_1 ml_X6_105 sX6_isTable (Nat.le_of_ble_eq_true rfl) (c_isTable (d + 2) x) ?_
  refine g_if_ne (tgt := 9) dX6_table_4 (by decide) (fun c4 => ?_) (fun c4 => absurd c4 (mbi_n0.mpr hb))
  refine g_iload_n dX6_table_9 rfl ?_
  refine g_tabOut (tgt := 136) dX6_table_10 (hw) (by decide) ?_
  refine g_bipushv (v := (-2)) dX6_table_136 rfl ?_
  exact g_iret dX6_table_138 rfl
set_option maxHeartbeats 4000000 in
set_option maxRecDepth 100000 in
theorem c_tab_0 {L : Nat} {F : Nat → Nat → Int32} {g : Nat → Option Nat} (d : Nat) (n : Nat) (hn : F 7 0 = nI n) (h10 : n ≤ 10) (t : Nat) (ht : t < 3) : mCall (d + 3) yX6_table MX6_table [.ref 4, .int (nI t), .int 0] (mHX L F g) (some (.int (sSet (F 8) (nI t) n))) (mHX L F g) := by
  refine mCall_of sX6_table.1 (Nat.le_of_ble_eq_true rfl) ⟨_, rfl, rfl⟩ ?_
  show mGo _ _ (0, [some (.ref 4), some (.int (nI t)), some (.int 0)], [], _) _
  have ht0 : 0 ≤ nI t ∧ nI t < 3 := ⟨nI_pos' (by omega), nI_lt (b := 3) ht (by decide)⟩
  refine g_iload_n dX6_table_0 rfl ?_
  refine g_S1i dX6_table_1 ml_X6_105 sX6_isTable (Nat.le_of_ble_eq_true rfl) (c_isTable (d + 2) (nI t)) ?_
  refine g_if_ne (tgt := 9) dX6_table_4 (by decide) (fun c4 => ?_) (fun c4 => absurd c4 (mbi_n0.mpr ht0))
  refine g_iload_n dX6_table_9 rfl ?_
  refine g_tabIn (off := 38) (tgt := 48) dX6_table_10 (by decide) (by decide) rfl (by decide) ?_
  refine g_aload_n dX6_table_48 rfl ?_
  refine g_gR (r := 5) dX6_table_49 fl_X6_10 (fun _ _ => rfl) rfl (by decide) rfl ?_
  refine g_gR (r := 7) dX6_table_52 fl_X6_73 (fun _ _ => rfl) rfl (by decide) rfl ?_
  refine g_iload_n dX6_table_55 rfl ?_
  refine g_V1i dX6_table_56 ml_X6_108 sX0_setAt rfl (by decide) (Nat.le_of_ble_eq_true rfl) (c_setAt (d + 2) n hn h10 (nI t)) ?_
  exact g_iret dX6_table_59 rfl
set_option maxHeartbeats 4000000 in
set_option maxRecDepth 100000 in
theorem c_tab_1 {L : Nat} {F : Nat → Nat → Int32} {g : Nat → Option Nat} (d : Nat) (n : Nat) (hn : F 7 0 = nI n) (h10 : n ≤ 10) (t : Nat) (ht : t < 3) : mCall (d + 3) yX6_table MX6_table [.ref 4, .int (nI t), .int 1] (mHX L F g) (some (.int (sHost (F 8) (F 9) (nI t) n))) (mHX L F g) := by
  refine mCall_of sX6_table.1 (Nat.le_of_ble_eq_true rfl) ⟨_, rfl, rfl⟩ ?_
  show mGo _ _ (0, [some (.ref 4), some (.int (nI t)), some (.int 1)], [], _) _
  have ht0 : 0 ≤ nI t ∧ nI t < 3 := ⟨nI_pos' (by omega), nI_lt (b := 3) ht (by decide)⟩
  refine g_iload_n dX6_table_0 rfl ?_
  refine g_S1i dX6_table_1 ml_X6_105 sX6_isTable (Nat.le_of_ble_eq_true rfl) (c_isTable (d + 2) (nI t)) ?_
  refine g_if_ne (tgt := 9) dX6_table_4 (by decide) (fun c4 => ?_) (fun c4 => absurd c4 (mbi_n0.mpr ht0))
  refine g_iload_n dX6_table_9 rfl ?_
  refine g_tabIn (off := 50) (tgt := 60) dX6_table_10 (by decide) (by decide) rfl (by decide) ?_
  refine g_aload_n dX6_table_60 rfl ?_
  refine g_gR (r := 5) dX6_table_61 fl_X6_10 (fun _ _ => rfl) rfl (by decide) rfl ?_
  refine g_gR (r := 7) dX6_table_64 fl_X6_73 (fun _ _ => rfl) rfl (by decide) rfl ?_
  refine g_iload_n dX6_table_67 rfl ?_
  refine g_V1i dX6_table_68 ml_X6_111 sX0_hostOf rfl (by decide) (Nat.le_of_ble_eq_true rfl) (c_hostOf (d + 2) n hn h10 (nI t)) ?_
  exact g_iret dX6_table_71 rfl
set_option maxHeartbeats 4000000 in
set_option maxRecDepth 100000 in
theorem c_tab_2 {L : Nat} {F : Nat → Nat → Int32} {g : Nat → Option Nat} (d : Nat) (n : Nat) (hn : F 7 0 = nI n) (h10 : n ≤ 10) (t : Nat) (ht : t < 3) : mCall (d + 3) yX6_table MX6_table [.ref 4, .int (nI t), .int 2] (mHX L F g) (some (.int (sComp (F 8) (F 9) (nI t) (-6) n))) (mHX L F g) := by
  refine mCall_of sX6_table.1 (Nat.le_of_ble_eq_true rfl) ⟨_, rfl, rfl⟩ ?_
  show mGo _ _ (0, [some (.ref 4), some (.int (nI t)), some (.int 2)], [], _) _
  have ht0 : 0 ≤ nI t ∧ nI t < 3 := ⟨nI_pos' (by omega), nI_lt (b := 3) ht (by decide)⟩
  refine g_iload_n dX6_table_0 rfl ?_
  refine g_S1i dX6_table_1 ml_X6_105 sX6_isTable (Nat.le_of_ble_eq_true rfl) (c_isTable (d + 2) (nI t)) ?_
  refine g_if_ne (tgt := 9) dX6_table_4 (by decide) (fun c4 => ?_) (fun c4 => absurd c4 (mbi_n0.mpr ht0))
  refine g_iload_n dX6_table_9 rfl ?_
  refine g_tabIn (off := 62) (tgt := 72) dX6_table_10 (by decide) (by decide) rfl (by decide) ?_
  refine g_aload_n dX6_table_72 rfl ?_
  refine g_gR (r := 5) dX6_table_73 fl_X6_10 (fun _ _ => rfl) rfl (by decide) rfl ?_
  refine g_gR (r := 7) dX6_table_76 fl_X6_73 (fun _ _ => rfl) rfl (by decide) rfl ?_
  refine g_iload_n dX6_table_79 rfl ?_
  refine g_bipushv (v := (-6)) dX6_table_80 rfl ?_
  refine g_V2i dX6_table_82 ml_X6_114 sX0_companyOf rfl (by decide) (Nat.le_of_ble_eq_true rfl) (c_companyOf (d + 2) n hn h10 (nI t) (-6)) ?_
  exact g_iret dX6_table_85 rfl
set_option maxHeartbeats 4000000 in
set_option maxRecDepth 100000 in
theorem c_tab_3 {L : Nat} {F : Nat → Nat → Int32} {g : Nat → Option Nat} (d : Nat) (t : Nat) (ht : t < 3) : mCall (d + 3) yX6_table MX6_table [.ref 4, .int (nI t), .int 3] (mHX L F g) (some (.int (F 19 t))) (mHX L F g) := by
  refine mCall_of sX6_table.1 (Nat.le_of_ble_eq_true rfl) ⟨_, rfl, rfl⟩ ?_
  show mGo _ _ (0, [some (.ref 4), some (.int (nI t)), some (.int 3)], [], _) _
  have ht0 : 0 ≤ nI t ∧ nI t < 3 := ⟨nI_pos' (by omega), nI_lt (b := 3) ht (by decide)⟩
  refine g_iload_n dX6_table_0 rfl ?_
  refine g_S1i dX6_table_1 ml_X6_105 sX6_isTable (Nat.le_of_ble_eq_true rfl) (c_isTable (d + 2) (nI t)) ?_
  refine g_if_ne (tgt := 9) dX6_table_4 (by decide) (fun c4 => ?_) (fun c4 => absurd c4 (mbi_n0.mpr ht0))
  refine g_iload_n dX6_table_9 rfl ?_
  refine g_tabIn (off := 76) (tgt := 86) dX6_table_10 (by decide) (by decide) rfl (by decide) ?_
  refine g_aload_n dX6_table_86 rfl ?_
  refine g_gR (r := 5) dX6_table_87 fl_X6_10 (fun _ _ => rfl) rfl (by decide) rfl ?_
  refine g_gR (r := 19) dX6_table_90 fl_X6_117 (fun _ _ => rfl) rfl (by decide) rfl ?_
  refine g_iload_n dX6_table_93 rfl ?_
  refine g_ialdN (gx := t) dX6_table_94 rfl (by decide) rfl (by omega) (by decide) ?_
  exact g_iret dX6_table_95 rfl
set_option maxHeartbeats 4000000 in
set_option maxRecDepth 100000 in
theorem c_tab_4q {L : Nat} {F : Nat → Nat → Int32} {g : Nat → Option Nat} (d : Nat) (t : Nat) (ht : t < 3) (hq : F 19 t = (-6)) : mCall (d + 3) yX6_table MX6_table [.ref 4, .int (nI t), .int 4] (mHX L F g) (some (.int (-6))) (mHX L F g) := by
  refine mCall_of sX6_table.1 (Nat.le_of_ble_eq_true rfl) ⟨_, rfl, rfl⟩ ?_
  show mGo _ _ (0, [some (.ref 4), some (.int (nI t)), some (.int 4)], [], _) _
  have ht0 : 0 ≤ nI t ∧ nI t < 3 := ⟨nI_pos' (by omega), nI_lt (b := 3) ht (by decide)⟩
  refine g_iload_n dX6_table_0 rfl ?_
  refine g_S1i dX6_table_1 ml_X6_105 sX6_isTable (Nat.le_of_ble_eq_true rfl) (c_isTable (d + 2) (nI t)) ?_
  refine g_if_ne (tgt := 9) dX6_table_4 (by decide) (fun c4 => ?_) (fun c4 => absurd c4 (mbi_n0.mpr ht0))
  refine g_iload_n dX6_table_9 rfl ?_
  refine g_tabIn (off := 86) (tgt := 96) dX6_table_10 (by decide) (by decide) rfl (by decide) ?_
  refine g_aload_n dX6_table_96 rfl ?_
  refine g_gR (r := 5) dX6_table_97 fl_X6_10 (fun _ _ => rfl) rfl (by decide) rfl ?_
  refine g_gR (r := 19) dX6_table_100 fl_X6_117 (fun _ _ => rfl) rfl (by decide) rfl ?_
  refine g_iload_n dX6_table_103 rfl ?_
  refine g_ialdN (gx := t) dX6_table_104 rfl (by decide) rfl (by omega) (by decide) ?_
  refine g_bipushv (v := (-6)) dX6_table_105 rfl ?_
  refine g_icmp_ne (tgt := 115) dX6_table_107 (by decide) (fun c107 => absurd hq c107) (fun c107 => ?_)
  refine g_bipushv (v := (-6)) dX6_table_110 rfl ?_
  refine g_goto (tgt := 125) dX6_table_112 (by decide) ?_
  exact g_iret dX6_table_125 rfl
set_option maxHeartbeats 4000000 in
set_option maxRecDepth 100000 in
theorem c_tab_4 {L : Nat} {F : Nat → Nat → Int32} {g : Nat → Option Nat} (d : Nat) (n : Nat) (hn : F 7 0 = nI n) (h10 : n ≤ 10) (h3 : F 3 = mMB) (t : Nat) (ht : t < 3) (c : Nat) (hc : c ≤ 4) (ec : sComp (F 8) (F 9) (nI t) (-6) n = nI c) (hq : ¬ F 19 t = (-6)) : mCall (d + 3) yX6_table MX6_table [.ref 4, .int (nI t), .int 4] (mHX L F g) (some (.int (sMean (F 6) c (F 19 t)))) (mHX L F g) := by
  refine mCall_of sX6_table.1 (Nat.le_of_ble_eq_true rfl) ⟨_, rfl, rfl⟩ ?_
  show mGo _ _ (0, [some (.ref 4), some (.int (nI t)), some (.int 4)], [], _) _
  have ht0 : 0 ≤ nI t ∧ nI t < 3 := ⟨nI_pos' (by omega), nI_lt (b := 3) ht (by decide)⟩
  refine g_iload_n dX6_table_0 rfl ?_
  refine g_S1i dX6_table_1 ml_X6_105 sX6_isTable (Nat.le_of_ble_eq_true rfl) (c_isTable (d + 2) (nI t)) ?_
  refine g_if_ne (tgt := 9) dX6_table_4 (by decide) (fun c4 => ?_) (fun c4 => absurd c4 (mbi_n0.mpr ht0))
  refine g_iload_n dX6_table_9 rfl ?_
  refine g_tabIn (off := 86) (tgt := 96) dX6_table_10 (by decide) (by decide) rfl (by decide) ?_
  refine g_aload_n dX6_table_96 rfl ?_
  refine g_gR (r := 5) dX6_table_97 fl_X6_10 (fun _ _ => rfl) rfl (by decide) rfl ?_
  refine g_gR (r := 19) dX6_table_100 fl_X6_117 (fun _ _ => rfl) rfl (by decide) rfl ?_
  refine g_iload_n dX6_table_103 rfl ?_
  refine g_ialdN (gx := t) dX6_table_104 rfl (by decide) rfl (by omega) (by decide) ?_
  refine g_bipushv (v := (-6)) dX6_table_105 rfl ?_
  refine g_icmp_ne (tgt := 115) dX6_table_107 (by decide) (fun c107 => ?_) (fun c107 => absurd c107 hq)
  refine g_aload_n dX6_table_115 rfl ?_
  refine g_gR (r := 5) dX6_table_116 fl_X6_10 (fun _ _ => rfl) rfl (by decide) rfl ?_
  refine g_iload_n dX6_table_119 rfl ?_
  refine g_bipushv (v := (-6)) dX6_table_120 rfl ?_
  refine g_V2i dX6_table_122 ml_X6_120 sX4_meaningNow rfl (by decide) (Nat.le_of_ble_eq_true rfl) (c_meaningNow d n hn h10 h3 t ht (-6) c hc ec) ?_
  exact g_iret dX6_table_125 rfl
set_option maxHeartbeats 4000000 in
set_option maxRecDepth 100000 in
theorem c_tab_5 {L : Nat} {F : Nat → Nat → Int32} {g : Nat → Option Nat} (d : Nat) (t : Nat) (ht : t < 3) : mCall (d + 3) yX6_table MX6_table [.ref 4, .int (nI t), .int 5] (mHX L F g) (some (.int (F 20 t))) (mHX L F g) := by
  refine mCall_of sX6_table.1 (Nat.le_of_ble_eq_true rfl) ⟨_, rfl, rfl⟩ ?_
  show mGo _ _ (0, [some (.ref 4), some (.int (nI t)), some (.int 5)], [], _) _
  have ht0 : 0 ≤ nI t ∧ nI t < 3 := ⟨nI_pos' (by omega), nI_lt (b := 3) ht (by decide)⟩
  refine g_iload_n dX6_table_0 rfl ?_
  refine g_S1i dX6_table_1 ml_X6_105 sX6_isTable (Nat.le_of_ble_eq_true rfl) (c_isTable (d + 2) (nI t)) ?_
  refine g_if_ne (tgt := 9) dX6_table_4 (by decide) (fun c4 => ?_) (fun c4 => absurd c4 (mbi_n0.mpr ht0))
  refine g_iload_n dX6_table_9 rfl ?_
  refine g_tabIn (off := 116) (tgt := 126) dX6_table_10 (by decide) (by decide) rfl (by decide) ?_
  refine g_aload_n dX6_table_126 rfl ?_
  refine g_gR (r := 5) dX6_table_127 fl_X6_10 (fun _ _ => rfl) rfl (by decide) rfl ?_
  refine g_gR (r := 20) dX6_table_130 fl_X6_123 (fun _ _ => rfl) rfl (by decide) rfl ?_
  refine g_iload_n dX6_table_133 rfl ?_
  refine g_ialdN (gx := t) dX6_table_134 rfl (by decide) rfl (by omega) (by decide) ?_
  exact g_iret dX6_table_135 rfl
set_option maxHeartbeats 4000000 in
set_option maxRecDepth 100000 in
theorem c_mng_no {L : Nat} {F : Nat → Nat → Int32} {g : Nat → Option Nat} (d : Nat) (x w : Int32) (hb : ¬ (1 ≤ x ∧ x ≤ 11)) : mCall (d + 3) yX6_meaning MX6_meaning [.ref 4, .int x, .int w] (mHX L F g) (some (.int (-1))) (mHX L F g) := by
  refine mCall_of sX6_meaning.1 (Nat.le_of_ble_eq_true rfl) ⟨_, rfl, rfl⟩ ?_
  show mGo _ _ (0, [some (.ref 4), some (.int x), some (.int w)], [], _) _
  refine g_iload_n dX6_meaning_0 rfl ?_
  refine g_iconstv (v := 1) dX6_meaning_1 rfl ?_
  refine g_icmp_lt (tgt := 11) dX6_meaning_2 (by decide) (fun c2 => ?_) (fun c2 => ?_)
  · skip
    refine g_iconstv (v := (-1)) dX6_meaning_11 rfl ?_
    exact g_iret dX6_meaning_12 rfl
  · skip
    refine g_iload_n dX6_meaning_5 rfl ?_
    refine g_bipushv (v := 11) dX6_meaning_6 rfl ?_
    refine g_icmp_le (tgt := 13) dX6_meaning_8 (by decide) (fun c8 => absurd c8 (fun q => hb ⟨Int32.not_lt.mp c2, q⟩)) (fun c8 => ?_)
    refine g_iconstv (v := (-1)) dX6_meaning_11 rfl ?_
    exact g_iret dX6_meaning_12 rfl
set_option maxHeartbeats 4000000 in
set_option maxRecDepth 100000 in
theorem c_mng_bad {L : Nat} {F : Nat → Nat → Int32} {g : Nat → Option Nat} (d : Nat) (m : Nat) (h1 : 1 ≤ m) (h11 : m ≤ 11) (w : Int32) (hw : ¬ w.toInt = 0 ∧ ¬ w.toInt = 1) : mCall (d + 3) yX6_meaning MX6_meaning [.ref 4, .int (nI m), .int w] (mHX L F g) (some (.int (-2))) (mHX L F g) := by
  refine mCall_of sX6_meaning.1 (Nat.le_of_ble_eq_true rfl) ⟨_, rfl, rfl⟩ ?_
  show mGo _ _ (0, [some (.ref 4), some (.int (nI m)), some (.int w)], [], _) _
  refine g_iload_n dX6_meaning_0 rfl ?_
  refine g_iconstv (v := 1) dX6_meaning_1 rfl ?_
  refine g_icmp_lt (tgt := 11) dX6_meaning_2 (by decide) (fun c2 => absurd c2 (nI_nlt (a := m) (b := 1) (by omega) (by omega))) (fun c2 => ?_)
  refine g_iload_n dX6_meaning_5 rfl ?_
  refine g_bipushv (v := 11) dX6_meaning_6 rfl ?_
  refine g_icmp_le (tgt := 13) dX6_meaning_8 (by decide) (fun c8 => ?_) (fun c8 => absurd (nI_le (a := m) (b := 11) (by omega) (by omega)) c8)
  refine g_iload_n dX6_meaning_13 rfl ?_
  refine g_lookup (off := 52) (tgt := 66) dX6_meaning_14 (by decide) (by rw [show (#[((0 : Int), (26 : Int)), (1, 39)] : Array (Int × Int)).toList = [(0, 26), (1, 39)] from rfl, Op.lookupswitch.offset_cons, if_neg (fun q => hw.1 q.symm), Op.lookupswitch.offset_cons, if_neg (fun q => hw.2 q.symm)]; rfl) (by decide) ?_
  refine g_bipushv (v := (-2)) dX6_meaning_66 rfl ?_
  exact g_iret dX6_meaning_68 rfl
set_option maxHeartbeats 4000000 in
set_option maxRecDepth 100000 in
theorem c_mng_0 {L : Nat} {F : Nat → Nat → Int32} {g : Nat → Option Nat} (d : Nat) (m : Nat) (h1 : 1 ≤ m) (h11 : m ≤ 11) : mCall (d + 3) yX6_meaning MX6_meaning [.ref 4, .int (nI m), .int 0] (mHX L F g) (some (.int (F 15 m))) (mHX L F g) := by
  refine mCall_of sX6_meaning.1 (Nat.le_of_ble_eq_true rfl) ⟨_, rfl, rfl⟩ ?_
  show mGo _ _ (0, [some (.ref 4), some (.int (nI m)), some (.int 0)], [], _) _
  refine g_iload_n dX6_meaning_0 rfl ?_
  refine g_iconstv (v := 1) dX6_meaning_1 rfl ?_
  refine g_icmp_lt (tgt := 11) dX6_meaning_2 (by decide) (fun c2 => absurd c2 (nI_nlt (a := m) (b := 1) (by omega) (by omega))) (fun c2 => ?_)
  refine g_iload_n dX6_meaning_5 rfl ?_
  refine g_bipushv (v := 11) dX6_meaning_6 rfl ?_
  refine g_icmp_le (tgt := 13) dX6_meaning_8 (by decide) (fun c8 => ?_) (fun c8 => absurd (nI_le (a := m) (b := 11) (by omega) (by omega)) c8)
  refine g_iload_n dX6_meaning_13 rfl ?_
  refine g_lookup (off := 26) (tgt := 40) dX6_meaning_14 (by decide) (rfl) (by decide) ?_
  refine g_aload_n dX6_meaning_40 rfl ?_
  refine g_gR (r := 5) dX6_meaning_41 fl_X6_10 (fun _ _ => rfl) rfl (by decide) rfl ?_
  refine g_gR (r := 14) dX6_meaning_44 fl_X6_126 (fun _ _ => rfl) rfl (by decide) rfl ?_
  refine g_gR (r := 15) dX6_meaning_47 fl_X6_130 (fun _ _ => rfl) rfl (by decide) rfl ?_
  refine g_iload_n dX6_meaning_50 rfl ?_
  refine g_ialdN (gx := m) dX6_meaning_51 rfl (by decide) rfl (by omega) (by decide) ?_
  exact g_iret dX6_meaning_52 rfl
set_option maxHeartbeats 4000000 in
set_option maxRecDepth 100000 in
theorem c_mng_1 {L : Nat} {F : Nat → Nat → Int32} {g : Nat → Option Nat} (d : Nat) (m : Nat) (h1 : 1 ≤ m) (h11 : m ≤ 11) : mCall (d + 3) yX6_meaning MX6_meaning [.ref 4, .int (nI m), .int 1] (mHX L F g) (some (.int (F 16 m))) (mHX L F g) := by
  refine mCall_of sX6_meaning.1 (Nat.le_of_ble_eq_true rfl) ⟨_, rfl, rfl⟩ ?_
  show mGo _ _ (0, [some (.ref 4), some (.int (nI m)), some (.int 1)], [], _) _
  refine g_iload_n dX6_meaning_0 rfl ?_
  refine g_iconstv (v := 1) dX6_meaning_1 rfl ?_
  refine g_icmp_lt (tgt := 11) dX6_meaning_2 (by decide) (fun c2 => absurd c2 (nI_nlt (a := m) (b := 1) (by omega) (by omega))) (fun c2 => ?_)
  refine g_iload_n dX6_meaning_5 rfl ?_
  refine g_bipushv (v := 11) dX6_meaning_6 rfl ?_
  refine g_icmp_le (tgt := 13) dX6_meaning_8 (by decide) (fun c8 => ?_) (fun c8 => absurd (nI_le (a := m) (b := 11) (by omega) (by omega)) c8)
  refine g_iload_n dX6_meaning_13 rfl ?_
  refine g_lookup (off := 39) (tgt := 53) dX6_meaning_14 (by decide) (rfl) (by decide) ?_
  refine g_aload_n dX6_meaning_53 rfl ?_
  refine g_gR (r := 5) dX6_meaning_54 fl_X6_10 (fun _ _ => rfl) rfl (by decide) rfl ?_
  refine g_gR (r := 14) dX6_meaning_57 fl_X6_126 (fun _ _ => rfl) rfl (by decide) rfl ?_
  refine g_gR (r := 16) dX6_meaning_60 fl_X6_135 (fun _ _ => rfl) rfl (by decide) rfl ?_
  refine g_iload_n dX6_meaning_63 rfl ?_
  refine g_ialdN (gx := m) dX6_meaning_64 rfl (by decide) rfl (by omega) (by decide) ?_
  exact g_iret dX6_meaning_65 rfl
set_option maxHeartbeats 4000000 in
set_option maxRecDepth 100000 in
theorem c_tel_no {L : Nat} {F : Nat → Nat → Int32} {g : Nat → Option Nat} (d : Nat) (x w : Int32) (hb : ¬ (0 ≤ x ∧ x < F 14 4)) : mCall (d + 3) yX6_end MX6_end [.ref 4, .int x, .int w] (mHX L F g) (some (.int (-1))) (mHX L F g) := by
  refine mCall_of sX6_end.1 (Nat.le_of_ble_eq_true rfl) ⟨_, rfl, rfl⟩ ?_
  show mGo _ _ (0, [some (.ref 4), some (.int x), some (.int w)], [], _) _
  refine g_iload_n dX6_end_0 rfl ?_
  refine g_if_lt (tgt := 18) dX6_end_1 (by decide) (fun c1 => ?_) (fun c1 => ?_)
  · skip
    refine g_iconstv (v := (-1)) dX6_end_18 rfl ?_
    exact g_iret dX6_end_19 rfl
  · skip
    refine g_iload_n dX6_end_4 rfl ?_
    refine g_aload_n dX6_end_5 rfl ?_
    refine g_gR (r := 5) dX6_end_6 fl_X6_10 (fun _ _ => rfl) rfl (by decide) rfl ?_
    refine g_gR (r := 14) dX6_end_9 fl_X6_126 (fun _ _ => rfl) rfl (by decide) rfl ?_
    refine g_gI dX6_end_12 fl_X6_138 (fun _ _ => rfl) rfl (by decide) ?_
    refine g_icmp_lt (tgt := 20) dX6_end_15 (by decide) (fun c15 => absurd c15 (fun q => hb ⟨Int32.not_lt.mp c1, q⟩)) (fun c15 => ?_)
    refine g_iconstv (v := (-1)) dX6_end_18 rfl ?_
    exact g_iret dX6_end_19 rfl
set_option maxHeartbeats 4000000 in
set_option maxRecDepth 100000 in
theorem c_tel_bad {L : Nat} {F : Nat → Nat → Int32} {g : Nat → Option Nat} (d : Nat) (t : Nat) (et : F 14 4 = nI t) (h10 : t ≤ 10) (r : Nat) (hr : r < t) (w : Int32) (hw : ¬ (0 ≤ w ∧ w < 5)) : mCall (d + 3) yX6_end MX6_end [.ref 4, .int (nI r), .int w] (mHX L F g) (some (.int (-2))) (mHX L F g) := by
  refine mCall_of sX6_end.1 (Nat.le_of_ble_eq_true rfl) ⟨_, rfl, rfl⟩ ?_
  show mGo _ _ (0, [some (.ref 4), some (.int (nI r)), some (.int w)], [], _) _
  refine g_iload_n dX6_end_0 rfl ?_
  refine g_if_lt (tgt := 18) dX6_end_1 (by decide) (fun c1 => absurd c1 (nI_pos (by omega))) (fun c1 => ?_)
  refine g_iload_n dX6_end_4 rfl ?_
  refine g_aload_n dX6_end_5 rfl ?_
  refine g_gR (r := 5) dX6_end_6 fl_X6_10 (fun _ _ => rfl) rfl (by decide) rfl ?_
  refine g_gR (r := 14) dX6_end_9 fl_X6_126 (fun _ _ => rfl) rfl (by decide) rfl ?_
  refine g_gI dX6_end_12 fl_X6_138 (fun _ _ => rfl) rfl (by decide) ?_
  refine g_icmp_lt (tgt := 20) dX6_end_15 (by decide) (fun c15 => ?_) (fun c15 => absurd (by rw [et]; exact nI_lt hr (by omega)) c15)
  refine g_iload_n dX6_end_20 rfl ?_
  refine g_if_lt (tgt := 29) dX6_end_21 (by decide) (fun c21 => ?_) (fun c21 => ?_)
  · skip
    refine g_bipushv (v := (-2)) dX6_end_29 rfl ?_
    exact g_iret dX6_end_31 rfl
  · skip
    refine g_iload_n dX6_end_24 rfl ?_
    refine g_iconstv (v := 5) dX6_end_25 rfl ?_
    refine g_icmp_lt (tgt := 32) dX6_end_26 (by decide) (fun c26 => absurd c26 (fun q => hw ⟨Int32.not_lt.mp c21, q⟩)) (fun c26 => ?_)
    refine g_bipushv (v := (-2)) dX6_end_29 rfl ?_
    exact g_iret dX6_end_31 rfl
set_option maxHeartbeats 4000000 in
set_option maxRecDepth 100000 in
theorem c_tel_ok {L : Nat} {F : Nat → Nat → Int32} {g : Nat → Option Nat} (d : Nat) (t : Nat) (et : F 14 4 = nI t) (h10 : t ≤ 10) (r : Nat) (hr : r < t) (w : Nat) (hw : w < 5) : mCall (d + 3) yX6_end MX6_end [.ref 4, .int (nI r), .int (nI w)] (mHX L F g) (some (.int (F 18 (r * 5 + w)))) (mHX L F g) := by
  refine mCall_of sX6_end.1 (Nat.le_of_ble_eq_true rfl) ⟨_, rfl, rfl⟩ ?_
  show mGo _ _ (0, [some (.ref 4), some (.int (nI r)), some (.int (nI w))], [], _) _
  refine g_iload_n dX6_end_0 rfl ?_
  refine g_if_lt (tgt := 18) dX6_end_1 (by decide) (fun c1 => absurd c1 (nI_pos (by omega))) (fun c1 => ?_)
  refine g_iload_n dX6_end_4 rfl ?_
  refine g_aload_n dX6_end_5 rfl ?_
  refine g_gR (r := 5) dX6_end_6 fl_X6_10 (fun _ _ => rfl) rfl (by decide) rfl ?_
  refine g_gR (r := 14) dX6_end_9 fl_X6_126 (fun _ _ => rfl) rfl (by decide) rfl ?_
  refine g_gI dX6_end_12 fl_X6_138 (fun _ _ => rfl) rfl (by decide) ?_
  refine g_icmp_lt (tgt := 20) dX6_end_15 (by decide) (fun c15 => ?_) (fun c15 => absurd (by rw [et]; exact nI_lt hr (by omega)) c15)
  refine g_iload_n dX6_end_20 rfl ?_
  refine g_if_lt (tgt := 29) dX6_end_21 (by decide) (fun c21 => absurd c21 (nI_pos (by omega))) (fun c21 => ?_)
  refine g_iload_n dX6_end_24 rfl ?_
  refine g_iconstv (v := 5) dX6_end_25 rfl ?_
  refine g_icmp_lt (tgt := 32) dX6_end_26 (by decide) (fun c26 => ?_) (fun c26 => absurd (nI_lt (a := w) (b := 5) hw (by decide)) c26)
  refine g_aload_n dX6_end_32 rfl ?_
  refine g_gR (r := 5) dX6_end_33 fl_X6_10 (fun _ _ => rfl) rfl (by decide) rfl ?_
  refine g_gR (r := 14) dX6_end_36 fl_X6_126 (fun _ _ => rfl) rfl (by decide) rfl ?_
  refine g_gR (r := 18) dX6_end_39 fl_X6_142 (fun _ _ => rfl) rfl (by decide) rfl ?_
  refine g_iload_n dX6_end_42 rfl ?_
  refine g_iconstv (v := 5) dX6_end_43 rfl ?_
  refine g_imul dX6_end_44 ?_
  refine g_iload_n dX6_end_45 rfl ?_
  refine g_iadd dX6_end_46 ?_
  refine g_ialdN (gx := (r * 5 + w)) dX6_end_47 rfl (by decide) (by rw [show (5 : Int32) = nI 5 from rfl, pk_mul, nI_add]) (by omega) (by decide) ?_
  exact g_iret dX6_end_48 rfl
set_option maxHeartbeats 4000000 in
set_option maxRecDepth 100000 in
theorem c_cnt_bad {L : Nat} {F : Nat → Nat → Int32} {g : Nat → Option Nat} (d : Nat) (w : Int32) (hw : w.toInt < 0 ∨ 14 < w.toInt) : mCall (d + 3) yX6_count MX6_count [.ref 4, .int w] (mHX L F g) (some (.int (-2))) (mHX L F g) := by
  refine mCall_of sX6_count.1 (Nat.le_of_ble_eq_true rfl) ⟨_, rfl, rfl⟩ ?_
  show mGo _ _ (0, [some (.ref 4), some (.int w)], [], _) _
  refine g_iload_n dX6_count_0 rfl ?_
  refine g_tabOut (tgt := 231) dX6_count_1 (hw) (by decide) ?_
  refine g_bipushv (v := (-2)) dX6_count_231 rfl ?_
  exact g_iret dX6_count_233 rfl
set_option maxHeartbeats 4000000 in
set_option maxRecDepth 100000 in
theorem c_cnt_0 {L : Nat} {F : Nat → Nat → Int32} {g : Nat → Option Nat} (d : Nat)  : mCall (d + 3) yX6_count MX6_count [.ref 4, .int 0] (mHX L F g) (some (.int (F 5 0))) (mHX L F g) := by
  refine mCall_of sX6_count.1 (Nat.le_of_ble_eq_true rfl) ⟨_, rfl, rfl⟩ ?_
  show mGo _ _ (0, [some (.ref 4), some (.int 0)], [], _) _
  refine g_iload_n dX6_count_0 rfl ?_
  refine g_tabIn (off := 75) (tgt := 76) dX6_count_1 (by decide) (by decide) rfl (by decide) ?_
  refine g_aload_n dX6_count_76 rfl ?_
  refine g_gR (r := 5) dX6_count_77 fl_X6_10 (fun _ _ => rfl) rfl (by decide) rfl ?_
  refine g_gI dX6_count_80 fl_X6_145 (fun _ _ => rfl) rfl (by decide) ?_
  exact g_iret dX6_count_83 rfl
set_option maxHeartbeats 4000000 in
set_option maxRecDepth 100000 in
theorem c_cnt_1 {L : Nat} {F : Nat → Nat → Int32} {g : Nat → Option Nat} (d : Nat) (n : Nat) (hn : F 7 0 = nI n) (h10 : n ≤ 10) : mCall (d + 3) yX6_count MX6_count [.ref 4, .int 1] (mHX L F g) (some (.int (((0 ||| sSet (F 8) 0 n) ||| sSet (F 8) 1 n) ||| sSet (F 8) 2 n))) (mHX L F g) := by
  refine mCall_of sX6_count.1 (Nat.le_of_ble_eq_true rfl) ⟨_, rfl, rfl⟩ ?_
  show mGo _ _ (0, [some (.ref 4), some (.int 1)], [], _) _
  refine g_iload_n dX6_count_0 rfl ?_
  refine g_tabIn (off := 83) (tgt := 84) dX6_count_1 (by decide) (by decide) rfl (by decide) ?_
  refine g_aload_n dX6_count_84 rfl ?_
  refine g_gR (r := 5) dX6_count_85 fl_X6_10 (fun _ _ => rfl) rfl (by decide) rfl ?_
  refine g_gR (r := 7) dX6_count_88 fl_X6_73 (fun _ _ => rfl) rfl (by decide) rfl ?_
  refine g_V0i dX6_count_91 ml_X6_148 sX0_setOfThoseHere rfl (by decide) (Nat.le_of_ble_eq_true rfl) (c_setOfThoseHere (d + 1) n hn h10) ?_
  exact g_iret dX6_count_94 rfl
set_option maxHeartbeats 4000000 in
set_option maxRecDepth 100000 in
theorem c_cnt_2 {L : Nat} {F : Nat → Nat → Int32} {g : Nat → Option Nat} (d : Nat)  : mCall (d + 3) yX6_count MX6_count [.ref 4, .int 2] (mHX L F g) (some (.int (sGo (F 19)))) (mHX L F g) := by
  refine mCall_of sX6_count.1 (Nat.le_of_ble_eq_true rfl) ⟨_, rfl, rfl⟩ ?_
  show mGo _ _ (0, [some (.ref 4), some (.int 2)], [], _) _
  refine g_iload_n dX6_count_0 rfl ?_
  refine g_tabIn (off := 94) (tgt := 95) dX6_count_1 (by decide) (by decide) rfl (by decide) ?_
  refine g_aload_n dX6_count_95 rfl ?_
  refine g_gR (r := 5) dX6_count_96 fl_X6_10 (fun _ _ => rfl) rfl (by decide) rfl ?_
  refine g_V0i dX6_count_99 ml_X6_152 sX4_pausesThatGoOn rfl (by decide) (Nat.le_of_ble_eq_true rfl) (c_pauses (d + 2)) ?_
  exact g_iret dX6_count_102 rfl
set_option maxHeartbeats 4000000 in
set_option maxRecDepth 100000 in
theorem c_cnt_3 {L : Nat} {F : Nat → Nat → Int32} {g : Nat → Option Nat} (d : Nat)  : mCall (d + 3) yX6_count MX6_count [.ref 4, .int 3] (mHX L F g) (some (.int (F 17 0))) (mHX L F g) := by
  refine mCall_of sX6_count.1 (Nat.le_of_ble_eq_true rfl) ⟨_, rfl, rfl⟩ ?_
  show mGo _ _ (0, [some (.ref 4), some (.int 3)], [], _) _
  refine g_iload_n dX6_count_0 rfl ?_
  refine g_tabIn (off := 102) (tgt := 103) dX6_count_1 (by decide) (by decide) rfl (by decide) ?_
  refine g_aload_n dX6_count_103 rfl ?_
  refine g_gR (r := 5) dX6_count_104 fl_X6_10 (fun _ _ => rfl) rfl (by decide) rfl ?_
  refine g_gR (r := 14) dX6_count_107 fl_X6_126 (fun _ _ => rfl) rfl (by decide) rfl ?_
  refine g_gR (r := 17) dX6_count_110 fl_X6_155 (fun _ _ => rfl) rfl (by decide) rfl ?_
  refine g_iconstv (v := 0) dX6_count_113 rfl ?_
  refine g_ialdN (gx := 0) dX6_count_114 rfl (by decide) rfl (by omega) (by decide) ?_
  exact g_iret dX6_count_115 rfl
set_option maxHeartbeats 4000000 in
set_option maxRecDepth 100000 in
theorem c_cnt_4 {L : Nat} {F : Nat → Nat → Int32} {g : Nat → Option Nat} (d : Nat)  : mCall (d + 3) yX6_count MX6_count [.ref 4, .int 4] (mHX L F g) (some (.int (F 17 1))) (mHX L F g) := by
  refine mCall_of sX6_count.1 (Nat.le_of_ble_eq_true rfl) ⟨_, rfl, rfl⟩ ?_
  show mGo _ _ (0, [some (.ref 4), some (.int 4)], [], _) _
  refine g_iload_n dX6_count_0 rfl ?_
  refine g_tabIn (off := 115) (tgt := 116) dX6_count_1 (by decide) (by decide) rfl (by decide) ?_
  refine g_aload_n dX6_count_116 rfl ?_
  refine g_gR (r := 5) dX6_count_117 fl_X6_10 (fun _ _ => rfl) rfl (by decide) rfl ?_
  refine g_gR (r := 14) dX6_count_120 fl_X6_126 (fun _ _ => rfl) rfl (by decide) rfl ?_
  refine g_gR (r := 17) dX6_count_123 fl_X6_155 (fun _ _ => rfl) rfl (by decide) rfl ?_
  refine g_iconstv (v := 1) dX6_count_126 rfl ?_
  refine g_ialdN (gx := 1) dX6_count_127 rfl (by decide) rfl (by omega) (by decide) ?_
  exact g_iret dX6_count_128 rfl
set_option maxHeartbeats 4000000 in
set_option maxRecDepth 100000 in
theorem c_cnt_5 {L : Nat} {F : Nat → Nat → Int32} {g : Nat → Option Nat} (d : Nat)  : mCall (d + 3) yX6_count MX6_count [.ref 4, .int 5] (mHX L F g) (some (.int (F 17 2))) (mHX L F g) := by
  refine mCall_of sX6_count.1 (Nat.le_of_ble_eq_true rfl) ⟨_, rfl, rfl⟩ ?_
  show mGo _ _ (0, [some (.ref 4), some (.int 5)], [], _) _
  refine g_iload_n dX6_count_0 rfl ?_
  refine g_tabIn (off := 128) (tgt := 129) dX6_count_1 (by decide) (by decide) rfl (by decide) ?_
  refine g_aload_n dX6_count_129 rfl ?_
  refine g_gR (r := 5) dX6_count_130 fl_X6_10 (fun _ _ => rfl) rfl (by decide) rfl ?_
  refine g_gR (r := 14) dX6_count_133 fl_X6_126 (fun _ _ => rfl) rfl (by decide) rfl ?_
  refine g_gR (r := 17) dX6_count_136 fl_X6_155 (fun _ _ => rfl) rfl (by decide) rfl ?_
  refine g_iconstv (v := 2) dX6_count_139 rfl ?_
  refine g_ialdN (gx := 2) dX6_count_140 rfl (by decide) rfl (by omega) (by decide) ?_
  exact g_iret dX6_count_141 rfl
set_option maxHeartbeats 4000000 in
set_option maxRecDepth 100000 in
theorem c_cnt_6 {L : Nat} {F : Nat → Nat → Int32} {g : Nat → Option Nat} (d : Nat) (n : Nat) (hn : F 7 0 = nI n) (h10 : n ≤ 10) : mCall (d + 3) yX6_count MX6_count [.ref 4, .int 6] (mHX L F g) (some (.int (sSum (F 10) n))) (mHX L F g) := by
  refine mCall_of sX6_count.1 (Nat.le_of_ble_eq_true rfl) ⟨_, rfl, rfl⟩ ?_
  show mGo _ _ (0, [some (.ref 4), some (.int 6)], [], _) _
  refine g_iload_n dX6_count_0 rfl ?_
  refine g_tabIn (off := 141) (tgt := 142) dX6_count_1 (by decide) (by decide) rfl (by decide) ?_
  refine g_aload_n dX6_count_142 rfl ?_
  refine g_gR (r := 5) dX6_count_143 fl_X6_10 (fun _ _ => rfl) rfl (by decide) rfl ?_
  refine g_gR (r := 7) dX6_count_146 fl_X6_73 (fun _ _ => rfl) rfl (by decide) rfl ?_
  refine g_V0i dX6_count_149 ml_X6_158 sX0_faultsOfAll rfl (by decide) (Nat.le_of_ble_eq_true rfl) (c_faultsOfAll (d + 2) n hn h10) ?_
  exact g_iret dX6_count_152 rfl
set_option maxHeartbeats 4000000 in
set_option maxRecDepth 100000 in
theorem c_cnt_7 {L : Nat} {F : Nat → Nat → Int32} {g : Nat → Option Nat} (d : Nat)  : mCall (d + 3) yX6_count MX6_count [.ref 4, .int 7] (mHX L F g) (some (.int (sMeant (F 15)))) (mHX L F g) := by
  refine mCall_of sX6_count.1 (Nat.le_of_ble_eq_true rfl) ⟨_, rfl, rfl⟩ ?_
  show mGo _ _ (0, [some (.ref 4), some (.int 7)], [], _) _
  refine g_iload_n dX6_count_0 rfl ?_
  refine g_tabIn (off := 152) (tgt := 153) dX6_count_1 (by decide) (by decide) rfl (by decide) ?_
  refine g_aload_n dX6_count_153 rfl ?_
  refine g_gR (r := 5) dX6_count_154 fl_X6_10 (fun _ _ => rfl) rfl (by decide) rfl ?_
  refine g_gR (r := 14) dX6_count_157 fl_X6_126 (fun _ _ => rfl) rfl (by decide) rfl ?_
  refine g_V0i dX6_count_160 ml_X6_161 sX2_setOfMeant rfl (by decide) (Nat.le_of_ble_eq_true rfl) (c_setOfMeant (d + 2)) ?_
  exact g_iret dX6_count_163 rfl
set_option maxHeartbeats 4000000 in
set_option maxRecDepth 100000 in
theorem c_cnt_8 {L : Nat} {F : Nat → Nat → Int32} {g : Nat → Option Nat} (d : Nat) (n : Nat) (hn : F 7 0 = nI n) (h10 : n ≤ 10) : mCall (d + 3) yX6_count MX6_count [.ref 4, .int 8] (mHX L F g) (some (.int (sSumHere (F 8) (F 11) n))) (mHX L F g) := by
  refine mCall_of sX6_count.1 (Nat.le_of_ble_eq_true rfl) ⟨_, rfl, rfl⟩ ?_
  show mGo _ _ (0, [some (.ref 4), some (.int 8)], [], _) _
  refine g_iload_n dX6_count_0 rfl ?_
  refine g_tabIn (off := 163) (tgt := 164) dX6_count_1 (by decide) (by decide) rfl (by decide) ?_
  refine g_aload_n dX6_count_164 rfl ?_
  refine g_gR (r := 5) dX6_count_165 fl_X6_10 (fun _ _ => rfl) rfl (by decide) rfl ?_
  refine g_gR (r := 7) dX6_count_168 fl_X6_73 (fun _ _ => rfl) rfl (by decide) rfl ?_
  refine g_V0i dX6_count_171 ml_X6_164 sX0_coughsOfThoseHere rfl (by decide) (Nat.le_of_ble_eq_true rfl) (c_coughsOfThoseHere (d + 2) n hn h10) ?_
  exact g_iret dX6_count_174 rfl
set_option maxHeartbeats 4000000 in
set_option maxRecDepth 100000 in
theorem c_cnt_9 {L : Nat} {F : Nat → Nat → Int32} {g : Nat → Option Nat} (d : Nat)  : mCall (d + 3) yX6_count MX6_count [.ref 4, .int 9] (mHX L F g) (some (.int (F 6 0))) (mHX L F g) := by
  refine mCall_of sX6_count.1 (Nat.le_of_ble_eq_true rfl) ⟨_, rfl, rfl⟩ ?_
  show mGo _ _ (0, [some (.ref 4), some (.int 9)], [], _) _
  refine g_iload_n dX6_count_0 rfl ?_
  refine g_tabIn (off := 174) (tgt := 175) dX6_count_1 (by decide) (by decide) rfl (by decide) ?_
  refine g_aload_n dX6_count_175 rfl ?_
  refine g_gR (r := 5) dX6_count_176 fl_X6_10 (fun _ _ => rfl) rfl (by decide) rfl ?_
  refine g_gR (r := 6) dX6_count_179 fl_X6_167 (fun _ _ => rfl) rfl (by decide) rfl ?_
  refine g_iconstv (v := 0) dX6_count_182 rfl ?_
  refine g_ialdN (gx := 0) dX6_count_183 rfl (by decide) rfl (by omega) (by decide) ?_
  exact g_iret dX6_count_184 rfl
set_option maxHeartbeats 4000000 in
set_option maxRecDepth 100000 in
theorem c_cnt_10 {L : Nat} {F : Nat → Nat → Int32} {g : Nat → Option Nat} (d : Nat)  : mCall (d + 3) yX6_count MX6_count [.ref 4, .int 10] (mHX L F g) (some (.int (F 6 1))) (mHX L F g) := by
  refine mCall_of sX6_count.1 (Nat.le_of_ble_eq_true rfl) ⟨_, rfl, rfl⟩ ?_
  show mGo _ _ (0, [some (.ref 4), some (.int 10)], [], _) _
  refine g_iload_n dX6_count_0 rfl ?_
  refine g_tabIn (off := 184) (tgt := 185) dX6_count_1 (by decide) (by decide) rfl (by decide) ?_
  refine g_aload_n dX6_count_185 rfl ?_
  refine g_gR (r := 5) dX6_count_186 fl_X6_10 (fun _ _ => rfl) rfl (by decide) rfl ?_
  refine g_gR (r := 6) dX6_count_189 fl_X6_167 (fun _ _ => rfl) rfl (by decide) rfl ?_
  refine g_iconstv (v := 1) dX6_count_192 rfl ?_
  refine g_ialdN (gx := 1) dX6_count_193 rfl (by decide) rfl (by omega) (by decide) ?_
  exact g_iret dX6_count_194 rfl
set_option maxHeartbeats 4000000 in
set_option maxRecDepth 100000 in
theorem c_cnt_11 {L : Nat} {F : Nat → Nat → Int32} {g : Nat → Option Nat} (d : Nat)  : mCall (d + 3) yX6_count MX6_count [.ref 4, .int 11] (mHX L F g) (some (.int (F 6 2))) (mHX L F g) := by
  refine mCall_of sX6_count.1 (Nat.le_of_ble_eq_true rfl) ⟨_, rfl, rfl⟩ ?_
  show mGo _ _ (0, [some (.ref 4), some (.int 11)], [], _) _
  refine g_iload_n dX6_count_0 rfl ?_
  refine g_tabIn (off := 194) (tgt := 195) dX6_count_1 (by decide) (by decide) rfl (by decide) ?_
  refine g_aload_n dX6_count_195 rfl ?_
  refine g_gR (r := 5) dX6_count_196 fl_X6_10 (fun _ _ => rfl) rfl (by decide) rfl ?_
  refine g_gR (r := 6) dX6_count_199 fl_X6_167 (fun _ _ => rfl) rfl (by decide) rfl ?_
  refine g_iconstv (v := 2) dX6_count_202 rfl ?_
  refine g_ialdN (gx := 2) dX6_count_203 rfl (by decide) rfl (by omega) (by decide) ?_
  exact g_iret dX6_count_204 rfl
set_option maxHeartbeats 4000000 in
set_option maxRecDepth 100000 in
theorem c_cnt_12 {L : Nat} {F : Nat → Nat → Int32} {g : Nat → Option Nat} (d : Nat)  : mCall (d + 3) yX6_count MX6_count [.ref 4, .int 12] (mHX L F g) (some (.int (F 6 3))) (mHX L F g) := by
  refine mCall_of sX6_count.1 (Nat.le_of_ble_eq_true rfl) ⟨_, rfl, rfl⟩ ?_
  show mGo _ _ (0, [some (.ref 4), some (.int 12)], [], _) _
  refine g_iload_n dX6_count_0 rfl ?_
  refine g_tabIn (off := 204) (tgt := 205) dX6_count_1 (by decide) (by decide) rfl (by decide) ?_
  refine g_aload_n dX6_count_205 rfl ?_
  refine g_gR (r := 5) dX6_count_206 fl_X6_10 (fun _ _ => rfl) rfl (by decide) rfl ?_
  refine g_gR (r := 6) dX6_count_209 fl_X6_167 (fun _ _ => rfl) rfl (by decide) rfl ?_
  refine g_iconstv (v := 3) dX6_count_212 rfl ?_
  refine g_ialdN (gx := 3) dX6_count_213 rfl (by decide) rfl (by omega) (by decide) ?_
  exact g_iret dX6_count_214 rfl
set_option maxHeartbeats 4000000 in
set_option maxRecDepth 100000 in
theorem c_cnt_13 {L : Nat} {F : Nat → Nat → Int32} {g : Nat → Option Nat} (d : Nat)  : mCall (d + 3) yX6_count MX6_count [.ref 4, .int 13] (mHX L F g) (some (.int (F 170 1))) (mHX L F g) := by
  refine mCall_of sX6_count.1 (Nat.le_of_ble_eq_true rfl) ⟨_, rfl, rfl⟩ ?_
  show mGo _ _ (0, [some (.ref 4), some (.int 13)], [], _) _
  refine g_iload_n dX6_count_0 rfl ?_
  refine g_tabIn (off := 214) (tgt := 215) dX6_count_1 (by decide) (by decide) rfl (by decide) ?_
  refine g_aload_n dX6_count_215 rfl ?_
  refine g_gR (r := 170) dX6_count_216 fl_X6_33 (fun _ _ => rfl) rfl (by decide) rfl ?_
  refine g_gI dX6_count_219 fl_X6_170 (fun _ _ => rfl) rfl (by decide) ?_
  exact g_iret dX6_count_222 rfl
set_option maxHeartbeats 4000000 in
set_option maxRecDepth 100000 in
theorem c_cnt_14 {L : Nat} {F : Nat → Nat → Int32} {g : Nat → Option Nat} (d : Nat)  : mCall (d + 3) yX6_count MX6_count [.ref 4, .int 14] (mHX L F g) (some (.int (F 21 1))) (mHX L F g) := by
  refine mCall_of sX6_count.1 (Nat.le_of_ble_eq_true rfl) ⟨_, rfl, rfl⟩ ?_
  show mGo _ _ (0, [some (.ref 4), some (.int 14)], [], _) _
  refine g_iload_n dX6_count_0 rfl ?_
  refine g_tabIn (off := 222) (tgt := 223) dX6_count_1 (by decide) (by decide) rfl (by decide) ?_
  refine g_aload_n dX6_count_223 rfl ?_
  refine g_gR (r := 21) dX6_count_224 fl_X6_19 (fun _ _ => rfl) rfl (by decide) rfl ?_
  refine g_gI dX6_count_227 fl_X6_173 (fun _ _ => rfl) rfl (by decide) ?_
  exact g_iret dX6_count_230 rfl
set_option maxHeartbeats 4000000 in
set_option maxRecDepth 100000 in
theorem c_wm_no {L : Nat} {F : Nat → Nat → Int32} {g : Nat → Option Nat} (d : Nat) (x w : Int32) (hb : ¬ (0 ≤ x ∧ x < 3)) : mCall (d + 3) yX6_wouldMean MX6_wouldMean [.ref 4, .int x, .int w] (mHX L F g) (some (.int (-1))) (mHX L F g) := by
  refine mCall_of sX6_wouldMean.1 (Nat.le_of_ble_eq_true rfl) ⟨_, rfl, rfl⟩ ?_
  show mGo _ _ (0, [some (.ref 4), some (.int x), some (.int w)], [], _) _
  refine g_iload_n dX6_wouldMean_0 rfl ?_
  refine g_S1i dX6_wouldMean_1 ml_X6_105 sX6_isTable (Nat.le_of_ble_eq_true rfl) (c_isTable (d + 2) x) ?_
  refine g_if_ne (tgt := 9) dX6_wouldMean_4 (by decide) (fun c4 => absurd (mbi_f hb) c4) (fun c4 => ?_)
  refine g_iconstv (v := (-1)) dX6_wouldMean_7 rfl ?_
  exact g_iret dX6_wouldMean_8 rfl
set_option maxHeartbeats 4000000 in
set_option maxRecDepth 100000 in
theorem c_wm_bad {L : Nat} {F : Nat → Nat → Int32} {g : Nat → Option Nat} (d : Nat) (x w : Int32) (hb : 0 ≤ x ∧ x < 3) (hw : ¬ (0 ≤ w ∧ w ≤ 999)) : mCall (d + 3) yX6_wouldMean MX6_wouldMean [.ref 4, .int x, .int w] (mHX L F g) (some (.int (-2))) (mHX L F g) := by
  refine mCall_of sX6_wouldMean.1 (Nat.le_of_ble_eq_true rfl) ⟨_, rfl, rfl⟩ ?_
  show mGo _ _ (0, [some (.ref 4), some (.int x), some (.int w)], [], _) _
  refine g_iload_n dX6_wouldMean_0 rfl ?_
  refine g_S1i dX6_wouldMean_1 ml_X6_105 sX6_isTable (Nat.le_of_ble_eq_true rfl) (c_isTable (d + 2) x) ?_
  refine g_if_ne (tgt := 9) dX6_wouldMean_4 (by decide) (fun c4 => ?_) (fun c4 => absurd c4 (mbi_n0.mpr hb))
  refine g_iload_n dX6_wouldMean_9 rfl ?_
  refine g_if_lt (tgt := 20) dX6_wouldMean_10 (by decide) (fun c10 => ?_) (fun c10 => ?_)
  · skip
    refine g_bipushv (v := (-2)) dX6_wouldMean_20 rfl ?_
    exact g_iret dX6_wouldMean_22 rfl
  · skip
    refine g_iload_n dX6_wouldMean_13 rfl ?_
    refine g_sipushv (v := 999) dX6_wouldMean_14 rfl ?_
    refine g_icmp_le (tgt := 23) dX6_wouldMean_17 (by decide) (fun c17 => absurd c17 (fun q => hw ⟨Int32.not_lt.mp c10, q⟩)) (fun c17 => ?_)
    refine g_bipushv (v := (-2)) dX6_wouldMean_20 rfl ?_
    exact g_iret dX6_wouldMean_22 rfl
set_option maxHeartbeats 4000000 in
set_option maxRecDepth 100000 in
theorem c_wm_ok {L : Nat} {F : Nat → Nat → Int32} {g : Nat → Option Nat} (d : Nat) (n : Nat) (hn : F 7 0 = nI n) (h10 : n ≤ 10) (h3 : F 3 = mMB) (t : Nat) (ht : t < 3) (c : Nat) (hc : c ≤ 4) (ec : sComp (F 8) (F 9) (nI t) (-6) n = nI c) (w : Int32) (hw : 0 ≤ w ∧ w ≤ 999) : mCall (d + 3) yX6_wouldMean MX6_wouldMean [.ref 4, .int (nI t), .int w] (mHX L F g) (some (.int (sMean (F 6) c w))) (mHX L F g) := by
  refine mCall_of sX6_wouldMean.1 (Nat.le_of_ble_eq_true rfl) ⟨_, rfl, rfl⟩ ?_
  show mGo _ _ (0, [some (.ref 4), some (.int (nI t)), some (.int w)], [], _) _
  have ht0 : 0 ≤ nI t ∧ nI t < 3 := ⟨nI_pos' (by omega), nI_lt (b := 3) ht (by decide)⟩
  refine g_iload_n dX6_wouldMean_0 rfl ?_
  refine g_S1i dX6_wouldMean_1 ml_X6_105 sX6_isTable (Nat.le_of_ble_eq_true rfl) (c_isTable (d + 2) (nI t)) ?_
  refine g_if_ne (tgt := 9) dX6_wouldMean_4 (by decide) (fun c4 => ?_) (fun c4 => absurd c4 (mbi_n0.mpr ht0))
  refine g_iload_n dX6_wouldMean_9 rfl ?_
  refine g_if_lt (tgt := 20) dX6_wouldMean_10 (by decide) (fun c10 => absurd c10 (Int32.not_lt.mpr hw.1)) (fun c10 => ?_)
  refine g_iload_n dX6_wouldMean_13 rfl ?_
  refine g_sipushv (v := 999) dX6_wouldMean_14 rfl ?_
  refine g_icmp_le (tgt := 23) dX6_wouldMean_17 (by decide) (fun c17 => ?_) (fun c17 => absurd hw.2 c17)
  refine g_aload_n dX6_wouldMean_23 rfl ?_
  refine g_gR (r := 5) dX6_wouldMean_24 fl_X6_10 (fun _ _ => rfl) rfl (by decide) rfl ?_
  refine g_aload_n dX6_wouldMean_27 rfl ?_
  refine g_gR (r := 5) dX6_wouldMean_28 fl_X6_10 (fun _ _ => rfl) rfl (by decide) rfl ?_
  refine g_gR (r := 7) dX6_wouldMean_31 fl_X6_73 (fun _ _ => rfl) rfl (by decide) rfl ?_
  refine g_iload_n dX6_wouldMean_34 rfl ?_
  refine g_bipushv (v := (-6)) dX6_wouldMean_35 rfl ?_
  refine g_V2i dX6_wouldMean_37 ml_X6_114 sX0_companyOf rfl (by decide) (Nat.le_of_ble_eq_true rfl) (c_companyOf (d + 2) n hn h10 (nI t) (-6)) ?_
  rw [ec]
  refine g_iload_n dX6_wouldMean_40 rfl ?_
  refine g_V2i dX6_wouldMean_41 ml_X6_176 sX4_meaningFor rfl (by decide) (Nat.le_of_ble_eq_true rfl) (c_meaningFor (d + 1) c hc h3 w) ?_
  exact g_iret dX6_wouldMean_44 rfl
set_option maxHeartbeats 4000000 in
set_option maxRecDepth 100000 in
theorem c_ti_no {L : Nat} {F : Nat → Nat → Int32} {g : Nat → Option Nat} (d : Nat) (x : Int32) (hb : ¬ (0 ≤ x ∧ x < 3)) : mCall (d + 3) yX6_turnsIn MX6_turnsIn [.ref 4, .int x] (mHX L F g) (some (.int (-1))) (mHX L F g) := by
  refine mCall_of sX6_turnsIn.1 (Nat.le_of_ble_eq_true rfl) ⟨_, rfl, rfl⟩ ?_
  show mGo _ _ (0, [some (.ref 4), some (.int x)], [], _) _
  refine g_iload_n dX6_turnsIn_0 rfl ?_
  refine g_S1i dX6_turnsIn_1 ml_X6_105 sX6_isTable (Nat.le_of_ble_eq_true rfl) (c_isTable (d + 2) x) ?_
  refine g_if_ne (tgt := 9) dX6_turnsIn_4 (by decide) (fun c4 => absurd (mbi_f hb) c4) (fun c4 => ?_)
  refine g_iconstv (v := (-1)) dX6_turnsIn_7 rfl ?_
  exact g_iret dX6_turnsIn_8 rfl
set_option maxHeartbeats 4000000 in
set_option maxRecDepth 100000 in
theorem c_ti_none {L : Nat} {F : Nat → Nat → Int32} {g : Nat → Option Nat} (d : Nat) (t : Nat) (ht : t < 3) (hq : F 19 t = (-6)) : mCall (d + 3) yX6_turnsIn MX6_turnsIn [.ref 4, .int (nI t)] (mHX L F g) (some (.int (-5))) (mHX L F g) := by
  refine mCall_of sX6_turnsIn.1 (Nat.le_of_ble_eq_true rfl) ⟨_, rfl, rfl⟩ ?_
  show mGo _ _ (0, [some (.ref 4), some (.int (nI t))], [], _) _
  have ht0 : 0 ≤ nI t ∧ nI t < 3 := ⟨nI_pos' (by omega), nI_lt (b := 3) ht (by decide)⟩
  refine g_iload_n dX6_turnsIn_0 rfl ?_
  refine g_S1i dX6_turnsIn_1 ml_X6_105 sX6_isTable (Nat.le_of_ble_eq_true rfl) (c_isTable (d + 2) (nI t)) ?_
  refine g_if_ne (tgt := 9) dX6_turnsIn_4 (by decide) (fun c4 => ?_) (fun c4 => absurd c4 (mbi_n0.mpr ht0))
  refine g_aload_n dX6_turnsIn_9 rfl ?_
  refine g_gR (r := 5) dX6_turnsIn_10 fl_X6_10 (fun _ _ => rfl) rfl (by decide) rfl ?_
  refine g_gR (r := 19) dX6_turnsIn_13 fl_X6_117 (fun _ _ => rfl) rfl (by decide) rfl ?_
  refine g_iload_n dX6_turnsIn_16 rfl ?_
  refine g_ialdN (gx := t) dX6_turnsIn_17 rfl (by decide) rfl (by omega) (by decide) ?_
  refine g_bipushv (v := (-6)) dX6_turnsIn_18 rfl ?_
  refine g_icmp_ne (tgt := 28) dX6_turnsIn_20 (by decide) (fun c20 => absurd hq c20) (fun c20 => ?_)
  refine g_bipushv (v := (-5)) dX6_turnsIn_23 rfl ?_
  refine g_goto (tgt := 36) dX6_turnsIn_25 (by decide) ?_
  exact g_iret dX6_turnsIn_36 rfl
set_option maxHeartbeats 4000000 in
set_option maxRecDepth 100000 in
theorem c_ti_ok {L : Nat} {F : Nat → Nat → Int32} {g : Nat → Option Nat} (d : Nat) (n : Nat) (hn : F 7 0 = nI n) (h10 : n ≤ 10) (h3 : F 3 = mMB) (t : Nat) (ht : t < 3) (c : Nat) (hc : c ≤ 4) (ec : sComp (F 8) (F 9) (nI t) (-6) n = nI c) (hq : ¬ F 19 t = (-6)) : mCall (d + 3) yX6_turnsIn MX6_turnsIn [.ref 4, .int (nI t)] (mHX L F g) (some (.int (sTurn (F 6) c (F 19 t) 0 4))) (mHX L F g) := by
  refine mCall_of sX6_turnsIn.1 (Nat.le_of_ble_eq_true rfl) ⟨_, rfl, rfl⟩ ?_
  show mGo _ _ (0, [some (.ref 4), some (.int (nI t))], [], _) _
  have ht0 : 0 ≤ nI t ∧ nI t < 3 := ⟨nI_pos' (by omega), nI_lt (b := 3) ht (by decide)⟩
  refine g_iload_n dX6_turnsIn_0 rfl ?_
  refine g_S1i dX6_turnsIn_1 ml_X6_105 sX6_isTable (Nat.le_of_ble_eq_true rfl) (c_isTable (d + 2) (nI t)) ?_
  refine g_if_ne (tgt := 9) dX6_turnsIn_4 (by decide) (fun c4 => ?_) (fun c4 => absurd c4 (mbi_n0.mpr ht0))
  refine g_aload_n dX6_turnsIn_9 rfl ?_
  refine g_gR (r := 5) dX6_turnsIn_10 fl_X6_10 (fun _ _ => rfl) rfl (by decide) rfl ?_
  refine g_gR (r := 19) dX6_turnsIn_13 fl_X6_117 (fun _ _ => rfl) rfl (by decide) rfl ?_
  refine g_iload_n dX6_turnsIn_16 rfl ?_
  refine g_ialdN (gx := t) dX6_turnsIn_17 rfl (by decide) rfl (by omega) (by decide) ?_
  refine g_bipushv (v := (-6)) dX6_turnsIn_18 rfl ?_
  refine g_icmp_ne (tgt := 28) dX6_turnsIn_20 (by decide) (fun c20 => ?_) (fun c20 => absurd c20 hq)
  refine g_aload_n dX6_turnsIn_28 rfl ?_
  refine g_gR (r := 5) dX6_turnsIn_29 fl_X6_10 (fun _ _ => rfl) rfl (by decide) rfl ?_
  refine g_iload_n dX6_turnsIn_32 rfl ?_
  refine g_V1i dX6_turnsIn_33 ml_X6_179 sX4_secondsToTurn rfl (by decide) (Nat.le_of_ble_eq_true rfl) (c_turn d n hn h10 h3 t ht c hc ec) ?_
  exact g_iret dX6_turnsIn_36 rfl
set_option maxHeartbeats 4000000 in
set_option maxRecDepth 100000 in
theorem c_len_no {L : Nat} {F : Nat → Nat → Int32} {g : Nat → Option Nat} (d : Nat) (x : Int32) (hb : ¬ (0 ≤ x ∧ x < F 7 0)) : mCall (d + 3) yX6_lender MX6_lender [.ref 4, .int x] (mHX L F g) (some (.int (-1))) (mHX L F g) := by
  refine mCall_of sX6_lender.1 (Nat.le_of_ble_eq_true rfl) ⟨_, rfl, rfl⟩ ?_
  show mGo _ _ (0, [some (.ref 4), some (.int x), none], [], _) _
  refine g_aload_n dX6_lender_0 rfl ?_
  refine g_gR (r := 5) dX6_lender_1 fl_X6_10 (fun _ _ => rfl) rfl (by decide) rfl ?_
  refine g_gR (r := 7) dX6_lender_4 fl_X6_73 (fun _ _ => rfl) rfl (by decide) rfl ?_
  refine g_iload_n dX6_lender_7 rfl ?_
  refine g_V1i dX6_lender_8 ml_X6_77 sX0_isKnown rfl (by decide) (Nat.le_of_ble_eq_true rfl) (c_isKnown (d + 2) x) ?_
  refine g_if_ne (tgt := 16) dX6_lender_11 (by decide) (fun c11 => absurd (mbi_f hb) c11) (fun c11 => ?_)
  refine g_iconstv (v := (-1)) dX6_lender_14 rfl ?_
  exact g_iret dX6_lender_15 rfl
set_option maxHeartbeats 4000000 in
set_option maxRecDepth 100000 in
theorem c_len_none {L : Nat} {F : Nat → Nat → Int32} {g : Nat → Option Nat} (d : Nat) (n : Nat) (hn : F 7 0 = nI n) (h10 : n ≤ 10) (k : Nat) (hk : k < n) (hs : F 8 k = (-6)) : mCall (d + 3) yX6_lender MX6_lender [.ref 4, .int (nI k)] (mHX L F g) (some (.int (-5))) (mHX L F g) := by
  refine mCall_of sX6_lender.1 (Nat.le_of_ble_eq_true rfl) ⟨_, rfl, rfl⟩ ?_
  show mGo _ _ (0, [some (.ref 4), some (.int (nI k)), none], [], _) _
  have hk0 : 0 ≤ nI k ∧ nI k < F 7 0 := ⟨nI_pos' (by omega), by rw [hn]; exact nI_lt hk (by omega)⟩
  refine g_aload_n dX6_lender_0 rfl ?_
  refine g_gR (r := 5) dX6_lender_1 fl_X6_10 (fun _ _ => rfl) rfl (by decide) rfl ?_
  refine g_gR (r := 7) dX6_lender_4 fl_X6_73 (fun _ _ => rfl) rfl (by decide) rfl ?_
  refine g_iload_n dX6_lender_7 rfl ?_
  refine g_V1i dX6_lender_8 ml_X6_77 sX0_isKnown rfl (by decide) (Nat.le_of_ble_eq_true rfl) (c_isKnown (d + 2) (nI k)) ?_
  refine g_if_ne (tgt := 16) dX6_lender_11 (by decide) (fun c11 => ?_) (fun c11 => absurd c11 (mbi_n0.mpr hk0))
  refine g_aload_n dX6_lender_16 rfl ?_
  refine g_gR (r := 5) dX6_lender_17 fl_X6_10 (fun _ _ => rfl) rfl (by decide) rfl ?_
  refine g_gR (r := 7) dX6_lender_20 fl_X6_73 (fun _ _ => rfl) rfl (by decide) rfl ?_
  refine g_gR (r := 8) dX6_lender_23 fl_X6_83 (fun _ _ => rfl) rfl (by decide) rfl ?_
  refine g_iload_n dX6_lender_26 rfl ?_
  refine g_ialdN (gx := k) dX6_lender_27 rfl (by decide) rfl (by omega) (by decide) ?_
  refine g_istore_n dX6_lender_28 (by decide) rfl ?_
  refine g_iload_n dX6_lender_29 rfl ?_
  refine g_bipushv (v := (-6)) dX6_lender_30 rfl ?_
  refine g_icmp_ne (tgt := 40) dX6_lender_32 (by decide) (fun c32 => absurd hs c32) (fun c32 => ?_)
  refine g_bipushv (v := (-5)) dX6_lender_35 rfl ?_
  refine g_goto (tgt := 52) dX6_lender_37 (by decide) ?_
  exact g_iret dX6_lender_52 rfl
set_option maxHeartbeats 4000000 in
set_option maxRecDepth 100000 in
theorem c_len_ok {L : Nat} {F : Nat → Nat → Int32} {g : Nat → Option Nat} (d : Nat) (n : Nat) (hn : F 7 0 = nI n) (h10 : n ≤ 10) (k : Nat) (hk : k < n) (hs : ¬ F 8 k = (-6)) : mCall (d + 3) yX6_lender MX6_lender [.ref 4, .int (nI k)] (mHX L F g) (some (.int (sLend (F 8) (F 9) (F 11) (nI k) (F 8 k) n))) (mHX L F g) := by
  refine mCall_of sX6_lender.1 (Nat.le_of_ble_eq_true rfl) ⟨_, rfl, rfl⟩ ?_
  show mGo _ _ (0, [some (.ref 4), some (.int (nI k)), none], [], _) _
  have hk0 : 0 ≤ nI k ∧ nI k < F 7 0 := ⟨nI_pos' (by omega), by rw [hn]; exact nI_lt hk (by omega)⟩
  refine g_aload_n dX6_lender_0 rfl ?_
  refine g_gR (r := 5) dX6_lender_1 fl_X6_10 (fun _ _ => rfl) rfl (by decide) rfl ?_
  refine g_gR (r := 7) dX6_lender_4 fl_X6_73 (fun _ _ => rfl) rfl (by decide) rfl ?_
  refine g_iload_n dX6_lender_7 rfl ?_
  refine g_V1i dX6_lender_8 ml_X6_77 sX0_isKnown rfl (by decide) (Nat.le_of_ble_eq_true rfl) (c_isKnown (d + 2) (nI k)) ?_
  refine g_if_ne (tgt := 16) dX6_lender_11 (by decide) (fun c11 => ?_) (fun c11 => absurd c11 (mbi_n0.mpr hk0))
  refine g_aload_n dX6_lender_16 rfl ?_
  refine g_gR (r := 5) dX6_lender_17 fl_X6_10 (fun _ _ => rfl) rfl (by decide) rfl ?_
  refine g_gR (r := 7) dX6_lender_20 fl_X6_73 (fun _ _ => rfl) rfl (by decide) rfl ?_
  refine g_gR (r := 8) dX6_lender_23 fl_X6_83 (fun _ _ => rfl) rfl (by decide) rfl ?_
  refine g_iload_n dX6_lender_26 rfl ?_
  refine g_ialdN (gx := k) dX6_lender_27 rfl (by decide) rfl (by omega) (by decide) ?_
  refine g_istore_n dX6_lender_28 (by decide) rfl ?_
  refine g_iload_n dX6_lender_29 rfl ?_
  refine g_bipushv (v := (-6)) dX6_lender_30 rfl ?_
  refine g_icmp_ne (tgt := 40) dX6_lender_32 (by decide) (fun c32 => ?_) (fun c32 => absurd c32 hs)
  refine g_aload_n dX6_lender_40 rfl ?_
  refine g_gR (r := 5) dX6_lender_41 fl_X6_10 (fun _ _ => rfl) rfl (by decide) rfl ?_
  refine g_gR (r := 7) dX6_lender_44 fl_X6_73 (fun _ _ => rfl) rfl (by decide) rfl ?_
  refine g_iload_n dX6_lender_47 rfl ?_
  refine g_iload_n dX6_lender_48 rfl ?_
  refine g_V2i dX6_lender_49 ml_X6_182 sX0_lenderTo rfl (by decide) (Nat.le_of_ble_eq_true rfl) (c_lenderTo (d + 2) n hn h10 (nI k) (F 8 k)) ?_
  exact g_iret dX6_lender_52 rfl
set_option maxHeartbeats 4000000 in
set_option maxRecDepth 100000 in
theorem c_usual {L : Nat} {F : Nat → Nat → Int32} {g : Nat → Option Nat} (d : Nat)  : mCall (d + 3) yX6_usual MX6_usual [.ref 4] (mHX L F g) (some (.int (sMost (F 15)))) (mHX L F g) := by
  refine mCall_of sX6_usual.1 (Nat.le_of_ble_eq_true rfl) ⟨_, rfl, rfl⟩ ?_
  show mGo _ _ (0, [some (.ref 4)], [], _) _
  refine g_aload_n dX6_usual_0 rfl ?_
  refine g_gR (r := 5) dX6_usual_1 fl_X6_10 (fun _ _ => rfl) rfl (by decide) rfl ?_
  refine g_gR (r := 14) dX6_usual_4 fl_X6_126 (fun _ _ => rfl) rfl (by decide) rfl ?_
  refine g_V0i dX6_usual_7 ml_X6_188 sX2_mostMeant rfl (by decide) (Nat.le_of_ble_eq_true rfl) (c_mostMeant (d + 2)) ?_
  exact g_iret dX6_usual_10 rfl
set_option maxHeartbeats 4000000 in
set_option maxRecDepth 100000 in
theorem c_x_undo {L : Nat} {F : Nat → Nat → Int32} {g : Nat → Option Nat} (d : Nat) (r : Int32) (hp1 : mHp) (H : mCall (d + 3) yX1_takeBack MX1_takeBack [.ref 21, .ref 5] (mHX L F g) (some (.int r)) hp1) : mCall (d + 4) yX6_undo MX6_undo [.ref 4] (mHX L F g) (some (.int r)) (hp1) := by
  refine mCall_of sX6_undo.1 (Nat.le_of_ble_eq_true rfl) ⟨_, rfl, rfl⟩ ?_
  show mGo _ _ (0, [some (.ref 4)], [], _) _
  refine g_aload_n dX6_undo_0 rfl ?_
  refine g_gR (r := 21) dX6_undo_1 fl_X6_19 (fun _ _ => rfl) rfl (by decide) rfl ?_
  refine g_aload_n dX6_undo_4 rfl ?_
  refine g_gR (r := 5) dX6_undo_5 fl_X6_10 (fun _ _ => rfl) rfl (by decide) rfl ?_
  refine g_V1i dX6_undo_8 ml_X6_207 sX1_takeBack rfl (by decide) (Nat.le_of_ble_eq_true rfl) (H) ?_
  exact g_iret dX6_undo_11 rfl
set_option maxHeartbeats 4000000 in
set_option maxRecDepth 100000 in
theorem c_x_save {L : Nat} {F : Nat → Nat → Int32} {g : Nat → Option Nat} (d : Nat) (x r : Int32) (hp1 : mHp) (H : mCall (d + 3) yX5_keep MX5_keep [.ref 135, .int x, .ref 5] (mHX L F g) (some (.int r)) hp1) : mCall (d + 4) yX6_save MX6_save [.ref 4, .int x] (mHX L F g) (some (.int r)) (hp1) := by
  refine mCall_of sX6_save.1 (Nat.le_of_ble_eq_true rfl) ⟨_, rfl, rfl⟩ ?_
  show mGo _ _ (0, [some (.ref 4), some (.int x)], [], _) _
  refine g_aload_n dX6_save_0 rfl ?_
  refine g_gR (r := 135) dX6_save_1 fl_X6_26 (fun _ _ => rfl) rfl (by decide) rfl ?_
  refine g_iload_n dX6_save_4 rfl ?_
  refine g_aload_n dX6_save_5 rfl ?_
  refine g_gR (r := 5) dX6_save_6 fl_X6_10 (fun _ _ => rfl) rfl (by decide) rfl ?_
  refine g_V2i dX6_save_9 ml_X6_211 sX5_keep rfl (by decide) (Nat.le_of_ble_eq_true rfl) (H) ?_
  exact g_iret dX6_save_12 rfl
set_option maxHeartbeats 4000000 in
set_option maxRecDepth 100000 in
theorem c_isError {hp : mHp} (d : Nat) (x : Int32) : mCall (d) yX6_isError MX6_isError [.int x] (hp) (some (.int (mbi (x ≤ (-1) ∧ (-5) ≤ x)))) (hp) := by
  refine mCall_of sX6_isError.1 (Nat.le_of_ble_eq_true rfl) ⟨_, rfl, mbi_ok⟩ ?_
  show mGo _ _ (0, [some (.int x)], [], _) _
  refine g_iload_n dX6_isError_0 rfl ?_
  refine g_iconstv (v := (-1)) dX6_isError_1 rfl ?_
  refine g_icmp_gt (tgt := 15) dX6_isError_2 (by decide) (fun c2 => ?_) (fun c2 => ?_)
  · skip
    refine g_iconstv (v := 0) dX6_isError_15 rfl ?_
    exact g_iret dX6_isError_16 (m_ret (by unfold mbi; split <;> first | rfl | (exfalso; simp only [i_eq, i_lt, i_le, show (-1 : Int32).toInt = -1 from by decide, show (-5 : Int32).toInt = -5 from by decide] at *; omega)))
  · skip
    refine g_iload_n dX6_isError_5 rfl ?_
    refine g_bipushv (v := (-5)) dX6_isError_6 rfl ?_
    refine g_icmp_lt (tgt := 15) dX6_isError_8 (by decide) (fun c8 => ?_) (fun c8 => ?_)
    · skip
      refine g_iconstv (v := 0) dX6_isError_15 rfl ?_
      exact g_iret dX6_isError_16 (m_ret (by unfold mbi; split <;> first | rfl | (exfalso; simp only [i_eq, i_lt, i_le, show (-1 : Int32).toInt = -1 from by decide, show (-5 : Int32).toInt = -5 from by decide] at *; omega)))
    · skip
      refine g_iconstv (v := 1) dX6_isError_11 rfl ?_
      refine g_goto (tgt := 16) dX6_isError_12 (by decide) ?_
      exact g_iret dX6_isError_16 (m_ret (by unfold mbi; split <;> first | rfl | (exfalso; simp only [i_eq, i_lt, i_le, show (-1 : Int32).toInt = -1 from by decide, show (-5 : Int32).toInt = -5 from by decide] at *; omega)))
def xKF (F : Nat → Nat → Int32) (k : Nat) : Nat → Nat → Int32 := if k < 6 then pe F 21 1 (F 21 1 + 1) else F
def xKG (g : Nat → Option Nat) (π : Nat → Nat) (k : Nat) : Nat → Option Nat := if k < 6 then g else xRot g π
theorem c_keep {L : Nat} {F : Nat → Nat → Int32} {g : Nat → Option Nat} (d : Nat) (π : Nat → Nat) (hg : ∀ i, i < 7 → g i = some (23 + 16 * π i)) (hπ : ∀ i, i < 7 → π i < 7) (k : Nat) (hk : k < 7) (ek : F 21 1 = nI k) : mCall d yX1_keepNoted MX1_keepNoted [.ref 21] (mHX L F g) none (mHX L (xKF F k) (xKG g π k)) := by
  by_cases h : k < 6
  · simp only [xKF, xKG, if_pos h]
    exact c_keep_lo d k h ek
  · simp only [xKF, xKG, if_neg h]
    exact c_keep_hi d π hg hπ (by rw [ek, show k = 6 by omega])
set_option maxHeartbeats 4000000 in
set_option maxRecDepth 100000 in
theorem c_kept_err {L : Nat} {F : Nat → Nat → Int32} {g : Nat → Option Nat} (d : Nat) (r : Int32) (hr : r ≤ (-1) ∧ (-5) ≤ r) : mCall (d + 1) yX6_keptUnlessError MX6_keptUnlessError [.ref 4, .int r] (mHX L F g) (some (.int r)) (mHX L F g) := by
  refine mCall_of sX6_keptUnlessError.1 (Nat.le_of_ble_eq_true rfl) ⟨_, rfl, rfl⟩ ?_
  show mGo _ _ (0, [some (.ref 4), some (.int r)], [], _) _
  refine g_iload_n dX6_keptUnlessError_0 rfl ?_
  refine g_S1i dX6_keptUnlessError_1 ml_X6_218 sX6_isError (Nat.le_of_ble_eq_true rfl) (c_isError d r) ?_
  refine g_if_ne (tgt := 14) dX6_keptUnlessError_4 (by decide) (fun c4 => ?_) (fun c4 => absurd c4 (mbi_n0.mpr hr))
  refine g_iload_n dX6_keptUnlessError_14 rfl ?_
  exact g_iret dX6_keptUnlessError_15 rfl
set_option maxHeartbeats 4000000 in
set_option maxRecDepth 100000 in
theorem c_kept_ok {L : Nat} {F : Nat → Nat → Int32} {g : Nat → Option Nat} (d : Nat) (π : Nat → Nat) (hg : ∀ i, i < 7 → g i = some (23 + 16 * π i)) (hπ : ∀ i, i < 7 → π i < 7) (k : Nat) (hk : k < 7) (ek : F 21 1 = nI k) (r : Int32) (hr : ¬ (r ≤ (-1) ∧ (-5) ≤ r)) : mCall (d + 1) yX6_keptUnlessError MX6_keptUnlessError [.ref 4, .int r] (mHX L F g) (some (.int r)) (mHX L (xKF F k) (xKG g π k)) := by
  refine mCall_of sX6_keptUnlessError.1 (Nat.le_of_ble_eq_true rfl) ⟨_, rfl, rfl⟩ ?_
  show mGo _ _ (0, [some (.ref 4), some (.int r)], [], _) _
  refine g_iload_n dX6_keptUnlessError_0 rfl ?_
  refine g_S1i dX6_keptUnlessError_1 ml_X6_218 sX6_isError (Nat.le_of_ble_eq_true rfl) (c_isError d r) ?_
  refine g_if_ne (tgt := 14) dX6_keptUnlessError_4 (by decide) (fun c4 => absurd (mbi_f hr) c4) (fun c4 => ?_)
  refine g_aload_n dX6_keptUnlessError_7 rfl ?_
  refine g_gR (r := 21) dX6_keptUnlessError_8 fl_X6_19 (fun _ _ => rfl) rfl (by decide) rfl ?_
  refine g_V0v dX6_keptUnlessError_11 ml_X6_204 sX1_keepNoted rfl (by decide) (Nat.le_of_ble_eq_true rfl) (c_keep d π hg hπ k hk ek) ?_
  refine g_iload_n dX6_keptUnlessError_14 rfl ?_
  exact g_iret dX6_keptUnlessError_15 rfl
set_option maxHeartbeats 4000000 in
set_option maxRecDepth 100000 in
theorem c_x_set {L : Nat} {F : Nat → Nat → Int32} {g : Nat → Option Nat} (d : Nat) (π : Nat → Nat) (hg : ∀ i, i < 7 → g i = some (23 + 16 * π i)) (hπ : ∀ i, i < 7 → π i < 7) (k : Nat) (hk : k < 7) (ek : F 21 1 = nI k) (a b : Int32) (r : Int32) (F1 : Nat → Nat → Int32) (hp2 : mHp) (H : mCall (d + 3) yX4_changeSetting MX4_changeSetting [.ref 5, .int a, .int b] (mHX L (xCopyR F (23 + 16 * π k) 5) g) (some (.int r)) (mHX L F1 g)) (HK : mCall (d + 3) yX6_keptUnlessError MX6_keptUnlessError [.ref 4, .int r] (mHX L F1 g) (some (.int r)) hp2) : mCall (d + 4) yX6_set MX6_set [.ref 4, .int a, .int b] (mHX L F g) (some (.int r)) (hp2) := by
  refine mCall_of sX6_set.1 (Nat.le_of_ble_eq_true rfl) ⟨_, rfl, rfl⟩ ?_
  show mGo _ _ (0, [some (.ref 4), some (.int a), some (.int b)], [], _) _
  refine g_aload_n dX6_set_0 rfl ?_
  refine g_gR (r := 21) dX6_set_1 fl_X6_19 (fun _ _ => rfl) rfl (by decide) rfl ?_
  refine g_aload_n dX6_set_4 rfl ?_
  refine g_gR (r := 5) dX6_set_5 fl_X6_10 (fun _ _ => rfl) rfl (by decide) rfl ?_
  refine g_V1v dX6_set_8 ml_X6_37 sX1_noteBefore rfl (by decide) (Nat.le_of_ble_eq_true rfl) (c_note (d) π hg hπ k hk ek) ?_
  refine g_aload_n dX6_set_11 rfl ?_
  refine g_aload_n dX6_set_12 rfl ?_
  refine g_gR (r := 5) dX6_set_13 fl_X6_10 (fun _ _ => rfl) rfl (by decide) rfl ?_
  refine g_iload_n dX6_set_16 rfl ?_
  refine g_iload_n dX6_set_17 rfl ?_
  refine g_V2i dX6_set_18 ml_X6_41 sX4_changeSetting rfl (by decide) (Nat.le_of_ble_eq_true rfl) (H) ?_
  refine g_V1i dX6_set_21 ml_X6_45 sX6_keptUnlessError rfl (by decide) (Nat.le_of_ble_eq_true rfl) (HK) ?_
  exact g_iret dX6_set_24 rfl
set_option maxHeartbeats 4000000 in
set_option maxRecDepth 100000 in
theorem c_x_guest {L : Nat} {F : Nat → Nat → Int32} {g : Nat → Option Nat} (d : Nat) (π : Nat → Nat) (hg : ∀ i, i < 7 → g i = some (23 + 16 * π i)) (hπ : ∀ i, i < 7 → π i < 7) (k : Nat) (hk : k < 7) (ek : F 21 1 = nI k) (a b : Int32) (r : Int32) (F1 : Nat → Nat → Int32) (hp2 : mHp) (H : mCall (d + 3) yX4_welcome MX4_welcome [.ref 5, .int a, .int b] (mHX L (xCopyR F (23 + 16 * π k) 5) g) (some (.int r)) (mHX L F1 g)) (HK : mCall (d + 3) yX6_keptUnlessError MX6_keptUnlessError [.ref 4, .int r] (mHX L F1 g) (some (.int r)) hp2) : mCall (d + 4) yX6_guest MX6_guest [.ref 4, .int a, .int b] (mHX L F g) (some (.int r)) (hp2) := by
  refine mCall_of sX6_guest.1 (Nat.le_of_ble_eq_true rfl) ⟨_, rfl, rfl⟩ ?_
  show mGo _ _ (0, [some (.ref 4), some (.int a), some (.int b)], [], _) _
  refine g_aload_n dX6_guest_0 rfl ?_
  refine g_gR (r := 21) dX6_guest_1 fl_X6_19 (fun _ _ => rfl) rfl (by decide) rfl ?_
  refine g_aload_n dX6_guest_4 rfl ?_
  refine g_gR (r := 5) dX6_guest_5 fl_X6_10 (fun _ _ => rfl) rfl (by decide) rfl ?_
  refine g_V1v dX6_guest_8 ml_X6_37 sX1_noteBefore rfl (by decide) (Nat.le_of_ble_eq_true rfl) (c_note (d) π hg hπ k hk ek) ?_
  refine g_aload_n dX6_guest_11 rfl ?_
  refine g_aload_n dX6_guest_12 rfl ?_
  refine g_gR (r := 5) dX6_guest_13 fl_X6_10 (fun _ _ => rfl) rfl (by decide) rfl ?_
  refine g_iload_n dX6_guest_16 rfl ?_
  refine g_iload_n dX6_guest_17 rfl ?_
  refine g_V2i dX6_guest_18 ml_X6_49 sX4_welcome rfl (by decide) (Nat.le_of_ble_eq_true rfl) (H) ?_
  refine g_V1i dX6_guest_21 ml_X6_45 sX6_keptUnlessError rfl (by decide) (Nat.le_of_ble_eq_true rfl) (HK) ?_
  exact g_iret dX6_guest_24 rfl
set_option maxHeartbeats 4000000 in
set_option maxRecDepth 100000 in
theorem c_x_leave {L : Nat} {F : Nat → Nat → Int32} {g : Nat → Option Nat} (d : Nat) (π : Nat → Nat) (hg : ∀ i, i < 7 → g i = some (23 + 16 * π i)) (hπ : ∀ i, i < 7 → π i < 7) (k : Nat) (hk : k < 7) (ek : F 21 1 = nI k) (a : Int32) (r : Int32) (F1 : Nat → Nat → Int32) (hp2 : mHp) (H : mCall (d + 3) yX4_seeOff MX4_seeOff [.ref 5, .int a] (mHX L (xCopyR F (23 + 16 * π k) 5) g) (some (.int r)) (mHX L F1 g)) (HK : mCall (d + 3) yX6_keptUnlessError MX6_keptUnlessError [.ref 4, .int r] (mHX L F1 g) (some (.int r)) hp2) : mCall (d + 4) yX6_leave MX6_leave [.ref 4, .int a] (mHX L F g) (some (.int r)) (hp2) := by
  refine mCall_of sX6_leave.1 (Nat.le_of_ble_eq_true rfl) ⟨_, rfl, rfl⟩ ?_
  show mGo _ _ (0, [some (.ref 4), some (.int a)], [], _) _
  refine g_aload_n dX6_leave_0 rfl ?_
  refine g_gR (r := 21) dX6_leave_1 fl_X6_19 (fun _ _ => rfl) rfl (by decide) rfl ?_
  refine g_aload_n dX6_leave_4 rfl ?_
  refine g_gR (r := 5) dX6_leave_5 fl_X6_10 (fun _ _ => rfl) rfl (by decide) rfl ?_
  refine g_V1v dX6_leave_8 ml_X6_37 sX1_noteBefore rfl (by decide) (Nat.le_of_ble_eq_true rfl) (c_note (d) π hg hπ k hk ek) ?_
  refine g_aload_n dX6_leave_11 rfl ?_
  refine g_aload_n dX6_leave_12 rfl ?_
  refine g_gR (r := 5) dX6_leave_13 fl_X6_10 (fun _ _ => rfl) rfl (by decide) rfl ?_
  refine g_iload_n dX6_leave_16 rfl ?_
  refine g_V1i dX6_leave_17 ml_X6_52 sX4_seeOff rfl (by decide) (Nat.le_of_ble_eq_true rfl) (H) ?_
  refine g_V1i dX6_leave_20 ml_X6_45 sX6_keptUnlessError rfl (by decide) (Nat.le_of_ble_eq_true rfl) (HK) ?_
  exact g_iret dX6_leave_23 rfl
set_option maxHeartbeats 4000000 in
set_option maxRecDepth 100000 in
theorem c_x_move {L : Nat} {F : Nat → Nat → Int32} {g : Nat → Option Nat} (d : Nat) (π : Nat → Nat) (hg : ∀ i, i < 7 → g i = some (23 + 16 * π i)) (hπ : ∀ i, i < 7 → π i < 7) (k : Nat) (hk : k < 7) (ek : F 21 1 = nI k) (a b : Int32) (r : Int32) (F1 : Nat → Nat → Int32) (hp2 : mHp) (H : mCall (d + 3) yX4_reseat MX4_reseat [.ref 5, .int a, .int b] (mHX L (xCopyR F (23 + 16 * π k) 5) g) (some (.int r)) (mHX L F1 g)) (HK : mCall (d + 3) yX6_keptUnlessError MX6_keptUnlessError [.ref 4, .int r] (mHX L F1 g) (some (.int r)) hp2) : mCall (d + 4) yX6_move MX6_move [.ref 4, .int a, .int b] (mHX L F g) (some (.int r)) (hp2) := by
  refine mCall_of sX6_move.1 (Nat.le_of_ble_eq_true rfl) ⟨_, rfl, rfl⟩ ?_
  show mGo _ _ (0, [some (.ref 4), some (.int a), some (.int b)], [], _) _
  refine g_aload_n dX6_move_0 rfl ?_
  refine g_gR (r := 21) dX6_move_1 fl_X6_19 (fun _ _ => rfl) rfl (by decide) rfl ?_
  refine g_aload_n dX6_move_4 rfl ?_
  refine g_gR (r := 5) dX6_move_5 fl_X6_10 (fun _ _ => rfl) rfl (by decide) rfl ?_
  refine g_V1v dX6_move_8 ml_X6_37 sX1_noteBefore rfl (by decide) (Nat.le_of_ble_eq_true rfl) (c_note (d) π hg hπ k hk ek) ?_
  refine g_aload_n dX6_move_11 rfl ?_
  refine g_aload_n dX6_move_12 rfl ?_
  refine g_gR (r := 5) dX6_move_13 fl_X6_10 (fun _ _ => rfl) rfl (by decide) rfl ?_
  refine g_iload_n dX6_move_16 rfl ?_
  refine g_iload_n dX6_move_17 rfl ?_
  refine g_V2i dX6_move_18 ml_X6_55 sX4_reseat rfl (by decide) (Nat.le_of_ble_eq_true rfl) (H) ?_
  refine g_V1i dX6_move_21 ml_X6_45 sX6_keptUnlessError rfl (by decide) (Nat.le_of_ble_eq_true rfl) (HK) ?_
  exact g_iret dX6_move_24 rfl
set_option maxHeartbeats 4000000 in
set_option maxRecDepth 100000 in
theorem c_x_pause {L : Nat} {F : Nat → Nat → Int32} {g : Nat → Option Nat} (d : Nat) (π : Nat → Nat) (hg : ∀ i, i < 7 → g i = some (23 + 16 * π i)) (hπ : ∀ i, i < 7 → π i < 7) (k : Nat) (hk : k < 7) (ek : F 21 1 = nI k) (a : Int32) (r : Int32) (F1 : Nat → Nat → Int32) (hp2 : mHp) (H : mCall (d + 3) yX4_beginPause MX4_beginPause [.ref 5, .int a] (mHX L (xCopyR F (23 + 16 * π k) 5) g) (some (.int r)) (mHX L F1 g)) (HK : mCall (d + 3) yX6_keptUnlessError MX6_keptUnlessError [.ref 4, .int r] (mHX L F1 g) (some (.int r)) hp2) : mCall (d + 4) yX6_pause MX6_pause [.ref 4, .int a] (mHX L F g) (some (.int r)) (hp2) := by
  refine mCall_of sX6_pause.1 (Nat.le_of_ble_eq_true rfl) ⟨_, rfl, rfl⟩ ?_
  show mGo _ _ (0, [some (.ref 4), some (.int a)], [], _) _
  refine g_aload_n dX6_pause_0 rfl ?_
  refine g_gR (r := 21) dX6_pause_1 fl_X6_19 (fun _ _ => rfl) rfl (by decide) rfl ?_
  refine g_aload_n dX6_pause_4 rfl ?_
  refine g_gR (r := 5) dX6_pause_5 fl_X6_10 (fun _ _ => rfl) rfl (by decide) rfl ?_
  refine g_V1v dX6_pause_8 ml_X6_37 sX1_noteBefore rfl (by decide) (Nat.le_of_ble_eq_true rfl) (c_note (d) π hg hπ k hk ek) ?_
  refine g_aload_n dX6_pause_11 rfl ?_
  refine g_aload_n dX6_pause_12 rfl ?_
  refine g_gR (r := 5) dX6_pause_13 fl_X6_10 (fun _ _ => rfl) rfl (by decide) rfl ?_
  refine g_iload_n dX6_pause_16 rfl ?_
  refine g_V1i dX6_pause_17 ml_X6_58 sX4_beginPause rfl (by decide) (Nat.le_of_ble_eq_true rfl) (H) ?_
  refine g_V1i dX6_pause_20 ml_X6_45 sX6_keptUnlessError rfl (by decide) (Nat.le_of_ble_eq_true rfl) (HK) ?_
  exact g_iret dX6_pause_23 rfl
set_option maxHeartbeats 4000000 in
set_option maxRecDepth 100000 in
theorem c_x_close {L : Nat} {F : Nat → Nat → Int32} {g : Nat → Option Nat} (d : Nat) (π : Nat → Nat) (hg : ∀ i, i < 7 → g i = some (23 + 16 * π i)) (hπ : ∀ i, i < 7 → π i < 7) (k : Nat) (hk : k < 7) (ek : F 21 1 = nI k) (a : Int32) (r : Int32) (F1 : Nat → Nat → Int32) (hp2 : mHp) (H : mCall (d + 3) yX4_closePause MX4_closePause [.ref 5, .int a] (mHX L (xCopyR F (23 + 16 * π k) 5) g) (some (.int r)) (mHX L F1 g)) (HK : mCall (d + 3) yX6_keptUnlessError MX6_keptUnlessError [.ref 4, .int r] (mHX L F1 g) (some (.int r)) hp2) : mCall (d + 4) yX6_close MX6_close [.ref 4, .int a] (mHX L F g) (some (.int r)) (hp2) := by
  refine mCall_of sX6_close.1 (Nat.le_of_ble_eq_true rfl) ⟨_, rfl, rfl⟩ ?_
  show mGo _ _ (0, [some (.ref 4), some (.int a)], [], _) _
  refine g_aload_n dX6_close_0 rfl ?_
  refine g_gR (r := 21) dX6_close_1 fl_X6_19 (fun _ _ => rfl) rfl (by decide) rfl ?_
  refine g_aload_n dX6_close_4 rfl ?_
  refine g_gR (r := 5) dX6_close_5 fl_X6_10 (fun _ _ => rfl) rfl (by decide) rfl ?_
  refine g_V1v dX6_close_8 ml_X6_37 sX1_noteBefore rfl (by decide) (Nat.le_of_ble_eq_true rfl) (c_note (d) π hg hπ k hk ek) ?_
  refine g_aload_n dX6_close_11 rfl ?_
  refine g_aload_n dX6_close_12 rfl ?_
  refine g_gR (r := 5) dX6_close_13 fl_X6_10 (fun _ _ => rfl) rfl (by decide) rfl ?_
  refine g_iload_n dX6_close_16 rfl ?_
  refine g_V1i dX6_close_17 ml_X6_61 sX4_closePause rfl (by decide) (Nat.le_of_ble_eq_true rfl) (H) ?_
  refine g_V1i dX6_close_20 ml_X6_45 sX6_keptUnlessError rfl (by decide) (Nat.le_of_ble_eq_true rfl) (HK) ?_
  exact g_iret dX6_close_23 rfl
set_option maxHeartbeats 4000000 in
set_option maxRecDepth 100000 in
theorem c_x_word {L : Nat} {F : Nat → Nat → Int32} {g : Nat → Option Nat} (d : Nat) (π : Nat → Nat) (hg : ∀ i, i < 7 → g i = some (23 + 16 * π i)) (hπ : ∀ i, i < 7 → π i < 7) (k : Nat) (hk : k < 7) (ek : F 21 1 = nI k) (a : Int32) (r : Int32) (F1 : Nat → Nat → Int32) (hp2 : mHp) (H : mCall (d + 3) yX4_breakByWord MX4_breakByWord [.ref 5, .int a] (mHX L (xCopyR F (23 + 16 * π k) 5) g) (some (.int r)) (mHX L F1 g)) (HK : mCall (d + 3) yX6_keptUnlessError MX6_keptUnlessError [.ref 4, .int r] (mHX L F1 g) (some (.int r)) hp2) : mCall (d + 4) yX6_word MX6_word [.ref 4, .int a] (mHX L F g) (some (.int r)) (hp2) := by
  refine mCall_of sX6_word.1 (Nat.le_of_ble_eq_true rfl) ⟨_, rfl, rfl⟩ ?_
  show mGo _ _ (0, [some (.ref 4), some (.int a)], [], _) _
  refine g_aload_n dX6_word_0 rfl ?_
  refine g_gR (r := 21) dX6_word_1 fl_X6_19 (fun _ _ => rfl) rfl (by decide) rfl ?_
  refine g_aload_n dX6_word_4 rfl ?_
  refine g_gR (r := 5) dX6_word_5 fl_X6_10 (fun _ _ => rfl) rfl (by decide) rfl ?_
  refine g_V1v dX6_word_8 ml_X6_37 sX1_noteBefore rfl (by decide) (Nat.le_of_ble_eq_true rfl) (c_note (d) π hg hπ k hk ek) ?_
  refine g_aload_n dX6_word_11 rfl ?_
  refine g_aload_n dX6_word_12 rfl ?_
  refine g_gR (r := 5) dX6_word_13 fl_X6_10 (fun _ _ => rfl) rfl (by decide) rfl ?_
  refine g_iload_n dX6_word_16 rfl ?_
  refine g_V1i dX6_word_17 ml_X6_64 sX4_breakByWord rfl (by decide) (Nat.le_of_ble_eq_true rfl) (H) ?_
  refine g_V1i dX6_word_20 ml_X6_45 sX6_keptUnlessError rfl (by decide) (Nat.le_of_ble_eq_true rfl) (HK) ?_
  exact g_iret dX6_word_23 rfl
set_option maxHeartbeats 4000000 in
set_option maxRecDepth 100000 in
theorem c_x_cough {L : Nat} {F : Nat → Nat → Int32} {g : Nat → Option Nat} (d : Nat) (π : Nat → Nat) (hg : ∀ i, i < 7 → g i = some (23 + 16 * π i)) (hπ : ∀ i, i < 7 → π i < 7) (k : Nat) (hk : k < 7) (ek : F 21 1 = nI k) (a : Int32) (r : Int32) (F1 : Nat → Nat → Int32) (hp2 : mHp) (H : mCall (d + 3) yX4_breakByCough MX4_breakByCough [.ref 5, .int a] (mHX L (xCopyR F (23 + 16 * π k) 5) g) (some (.int r)) (mHX L F1 g)) (HK : mCall (d + 3) yX6_keptUnlessError MX6_keptUnlessError [.ref 4, .int r] (mHX L F1 g) (some (.int r)) hp2) : mCall (d + 4) yX6_cough MX6_cough [.ref 4, .int a] (mHX L F g) (some (.int r)) (hp2) := by
  refine mCall_of sX6_cough.1 (Nat.le_of_ble_eq_true rfl) ⟨_, rfl, rfl⟩ ?_
  show mGo _ _ (0, [some (.ref 4), some (.int a)], [], _) _
  refine g_aload_n dX6_cough_0 rfl ?_
  refine g_gR (r := 21) dX6_cough_1 fl_X6_19 (fun _ _ => rfl) rfl (by decide) rfl ?_
  refine g_aload_n dX6_cough_4 rfl ?_
  refine g_gR (r := 5) dX6_cough_5 fl_X6_10 (fun _ _ => rfl) rfl (by decide) rfl ?_
  refine g_V1v dX6_cough_8 ml_X6_37 sX1_noteBefore rfl (by decide) (Nat.le_of_ble_eq_true rfl) (c_note (d) π hg hπ k hk ek) ?_
  refine g_aload_n dX6_cough_11 rfl ?_
  refine g_aload_n dX6_cough_12 rfl ?_
  refine g_gR (r := 5) dX6_cough_13 fl_X6_10 (fun _ _ => rfl) rfl (by decide) rfl ?_
  refine g_iload_n dX6_cough_16 rfl ?_
  refine g_V1i dX6_cough_17 ml_X6_67 sX4_breakByCough rfl (by decide) (Nat.le_of_ble_eq_true rfl) (H) ?_
  refine g_V1i dX6_cough_20 ml_X6_45 sX6_keptUnlessError rfl (by decide) (Nat.le_of_ble_eq_true rfl) (HK) ?_
  exact g_iret dX6_cough_23 rfl
set_option maxHeartbeats 4000000 in
set_option maxRecDepth 100000 in
theorem c_x_pass {L : Nat} {F : Nat → Nat → Int32} {g : Nat → Option Nat} (d : Nat) (π : Nat → Nat) (hg : ∀ i, i < 7 → g i = some (23 + 16 * π i)) (hπ : ∀ i, i < 7 → π i < 7) (k : Nat) (hk : k < 7) (ek : F 21 1 = nI k) (a : Int32) (r : Int32) (F1 : Nat → Nat → Int32) (hp2 : mHp) (H : mCall (d + 3) yX4_letPass MX4_letPass [.ref 5, .int a] (mHX L (xCopyR F (23 + 16 * π k) 5) g) (some (.int r)) (mHX L F1 g)) (HK : mCall (d + 3) yX6_keptUnlessError MX6_keptUnlessError [.ref 4, .int r] (mHX L F1 g) (some (.int r)) hp2) : mCall (d + 4) yX6_pass MX6_pass [.ref 4, .int a] (mHX L F g) (some (.int r)) (hp2) := by
  refine mCall_of sX6_pass.1 (Nat.le_of_ble_eq_true rfl) ⟨_, rfl, rfl⟩ ?_
  show mGo _ _ (0, [some (.ref 4), some (.int a)], [], _) _
  refine g_aload_n dX6_pass_0 rfl ?_
  refine g_gR (r := 21) dX6_pass_1 fl_X6_19 (fun _ _ => rfl) rfl (by decide) rfl ?_
  refine g_aload_n dX6_pass_4 rfl ?_
  refine g_gR (r := 5) dX6_pass_5 fl_X6_10 (fun _ _ => rfl) rfl (by decide) rfl ?_
  refine g_V1v dX6_pass_8 ml_X6_37 sX1_noteBefore rfl (by decide) (Nat.le_of_ble_eq_true rfl) (c_note (d) π hg hπ k hk ek) ?_
  refine g_aload_n dX6_pass_11 rfl ?_
  refine g_aload_n dX6_pass_12 rfl ?_
  refine g_gR (r := 5) dX6_pass_13 fl_X6_10 (fun _ _ => rfl) rfl (by decide) rfl ?_
  refine g_iload_n dX6_pass_16 rfl ?_
  refine g_V1i dX6_pass_17 ml_X6_70 sX4_letPass rfl (by decide) (Nat.le_of_ble_eq_true rfl) (H) ?_
  refine g_V1i dX6_pass_20 ml_X6_45 sX6_keptUnlessError rfl (by decide) (Nat.le_of_ble_eq_true rfl) (HK) ?_
  exact g_iret dX6_pass_23 rfl
set_option maxHeartbeats 4000000 in
set_option maxRecDepth 100000 in
theorem c_x_restore {L : Nat} {F : Nat → Nat → Int32} {g : Nat → Option Nat} (d : Nat) (π : Nat → Nat) (hg : ∀ i, i < 7 → g i = some (23 + 16 * π i)) (hπ : ∀ i, i < 7 → π i < 7) (k : Nat) (hk : k < 7) (ek : F 21 1 = nI k) (a r : Int32) (F1 : Nat → Nat → Int32) (hp2 : mHp) (H : mCall (d + 3) yX5_giveBack MX5_giveBack [.ref 135, .int a, .ref 5] (mHX L (xCopyR F (23 + 16 * π k) 5) g) (some (.int r)) (mHX L F1 g)) (HK : mCall (d + 3) yX6_keptUnlessError MX6_keptUnlessError [.ref 4, .int r] (mHX L F1 g) (some (.int r)) hp2) : mCall (d + 4) yX6_restore MX6_restore [.ref 4, .int a] (mHX L F g) (some (.int r)) (hp2) := by
  refine mCall_of sX6_restore.1 (Nat.le_of_ble_eq_true rfl) ⟨_, rfl, rfl⟩ ?_
  show mGo _ _ (0, [some (.ref 4), some (.int a)], [], _) _
  refine g_aload_n dX6_restore_0 rfl ?_
  refine g_gR (r := 21) dX6_restore_1 fl_X6_19 (fun _ _ => rfl) rfl (by decide) rfl ?_
  refine g_aload_n dX6_restore_4 rfl ?_
  refine g_gR (r := 5) dX6_restore_5 fl_X6_10 (fun _ _ => rfl) rfl (by decide) rfl ?_
  refine g_V1v dX6_restore_8 ml_X6_37 sX1_noteBefore rfl (by decide) (Nat.le_of_ble_eq_true rfl) (c_note (d) π hg hπ k hk ek) ?_
  refine g_aload_n dX6_restore_11 rfl ?_
  refine g_aload_n dX6_restore_12 rfl ?_
  refine g_gR (r := 135) dX6_restore_13 fl_X6_26 (fun _ _ => rfl) rfl (by decide) rfl ?_
  refine g_iload_n dX6_restore_16 rfl ?_
  refine g_aload_n dX6_restore_17 rfl ?_
  refine g_gR (r := 5) dX6_restore_18 fl_X6_10 (fun _ _ => rfl) rfl (by decide) rfl ?_
  refine g_V2i dX6_restore_21 ml_X6_215 sX5_giveBack rfl (by decide) (Nat.le_of_ble_eq_true rfl) (H) ?_
  refine g_V1i dX6_restore_24 ml_X6_45 sX6_keptUnlessError rfl (by decide) (Nat.le_of_ble_eq_true rfl) (HK) ?_
  exact g_iret dX6_restore_27 rfl
end
section
theorem mk_clone {scr : Cell} {cA : ClassId} {N : Nat} {f : Nat → Int32} (hc : scr.cls = cA) (hs : scr.slots.size = N) (hv : ∀ j : Nat, j < N → scr.slots[j]? = some (.int (f j))) : ({ cls := scr.cls, slots := scr.slots } : Cell) = vp_cell cA (N, .inl f) := by
  have e : scr.slots = (arrV cA N (fun j => .int (f j))).slots := by
    apply Array.ext_getElem?
    intro i
    by_cases hi : i < N
    · rw [hv i hi, arrV_read _ _ hi]
    · rw [Array.getElem?_eq_none (by omega), Array.getElem?_eq_none (by rw [arrV_size]; omega)]
  rw [hc, e]
  rfl
set_option maxHeartbeats 4000000 in
/-- a copy of the read-only array at cell 1 -/
theorem g_clone {M : mM} {d pc : Nat} {L : mLs} {st : List Value} {sh : List mShp} {F : Nat → Nat → Int32} {R0 : Nat → Nat → Option Nat} {out : mOut} {idx n N : Nat} (hd : decode M.2.1 pc = .ok (.invokevirtual idx, 3)) (hl : Cond.methodLink M.1 idx ⟨"[I", "clone", "()Ljava/lang/Object;"⟩ ∈ mGW) (hst : st.length ≤ 4) (hlen : sh.length = n) (hN : sh[1]? = some (.inr (3, N))) (k : mGo M (d + 1) (pc + 3, L, .ref n :: st, (sh ++ [.inr (0, N)], va_up F n (F 1), R0)) out) : mGo M (d + 1) (pc, L, .ref 1 :: st, (sh, F, R0)) out := by
  subst hlen
  have k1 := k.1
  simp only [List.length_append, List.length_singleton, mSz_push] at k1
  refine ⟨⟨by show sh.length ≤ _; omega, by show mSz sh ≤ _; omega⟩, ?_⟩
  intro base spa spn spf cm D p l e R s m args below meth c Q cE sE H locs cells slots ls hX hfr hlo hcE hsE hK hc hs hD hS hL
  have hx := hX.1
  have hb := hX.2.1
  have hml := hX.2.2.2.1
  have hown := hX.2.2.2.2.1
  have hts := hX.2.2.2.2.2.2.2.1
  have hSta := hX.2.2.2.2.2.2.2.2
  have hK0 : va_K D mcl (mtys cm) s := hSta.1
  have hNw := hSta.2.1
  have hc' : cells + out.2.1.length = cE + sh.length := hc
  have hs' : slots + mSz out.2.1 = sE + mSz sh := hs
  have hnm : s.vm.findClass "[I" = some (cm 0) := va_nm_int (hK0.2 0 _ rfl).2
  obtain ⟨hlt, scr, hcell0, hof, hkn, hsz, hval⟩ := hSta.2.2.2.2.1 1 (by decide)
  obtain ⟨scr2, hc2, hcl2⟩ := hSta.2.2.2.2.2.2
  obtain rfl : scr = scr2 := Option.some.inj (hcell0.symm.trans hc2)
  have hbase := hSta.2.2.2.1
  have hcellH : H[spa 1]? = some scr := by rw [hS.2.1 _ (Nat.lt_of_lt_of_le hlt hbase) (Nat.not_le.mpr hlt)]; exact hcell0
  obtain ⟨e1, e2⟩ := hD.2.2.2 1 (by decide)
  have eN : spn 1 = N := by
    have := e1.symm.trans hN
    simp only [Option.some.injEq, Sum.inr.injEq, Prod.mk.injEq, true_and] at this
    exact this
  have eF : F 1 = spf 1 := e2
  obtain ⟨c0, t0', f1, f2, f3⟩ := Cond.castable_spec (va_Nw.use (A := args) rfl (hNw _ wc_cast))
  obtain rfl : cm 0 = c0 := Option.some.inj (hnm.symm.trans f1)
  have hcell : ({ cls := scr.cls, slots := scr.slots } : Cell) = vp_cell (cm 0) (N, .inl (F 1)) := by
    rw [eF, ← eN]
    exact mk_clone hcl2 hsz hval
  intro T hT X
  have hcellT : T.heap[spa 1]? = some scr := by rw [hT]; exact hcellH
  obtain ⟨-, kA, hkA, comp, hkind⟩ := State.isArrayOf_alike X.warmed.alike ((hK0.2 0 _ rfl).1 0 (fun _ => .null))
  obtain ⟨-, kS, hkS, compS, hkindS⟩ := (hK0.2 0 _ rfl).1 0 (fun _ => .null)
  have hcat : ((st.map (mtv base spa)).map fun v => v.category).sum ≤ 8 := by
    have hle : ∀ (q : List Value), ((q.map (mtv base spa)).map fun v => v.category).sum ≤ 2 * q.length := by
      intro q
      induction q with
      | nil => simp
      | cons v q ih =>
        have : (mtv base spa v).category ≤ 2 := by cases v <;> simp [mtv, Value.category]
        simp only [List.map_cons, List.sum_cons, List.length_cons]
        omega
    have := hle st
    omega
  obtain ⟨vm', X', sT⟩ := X.cloneArray hx hown (hts _ hl) (hts _ wc_same) (hts _ wc_nat) (hts _ wc_inst) (hts _ wc_sel) (a := spa 1) (cell := scr) hcellT hof.1 hkn (by rw [hcl2]; exact hnm) f2 (by rw [hcl2]; exact f3)
    (fun i v hv => by
      rw [hcl2]
      have hk' : T.vm.classes[cm 0]? = some kA := hkA
      have hi : i < spn 1 := by
        by_cases hi : i < spn 1
        · exact hi
        · rw [Array.getElem?_eq_none (by omega)] at hv
          cases hv
      rw [hval i hi] at hv
      cases hv
      simp [State.fitsSlot, State.slotType?, hk', hkind, fits])
    (g := F0 m pc ls (.ref (spa 1) :: st.map (mtv base spa))) rfl (by rw [hml]; exact hL.1) rfl (by rw [hb]; exact hd) (by omega) (by show 2 * 0 + _ + 14 ≤ _; omega) (by omega) (by rw [hsz, eN]; omega) (hloader := by rw [hcl2]; exact Vm.clonesLoader_of_array hkS hkindS)
  rw [hcell, hsz, eN] at X'
  generalize hH1 : H.push (vp_cell (cm 0) (N, .inl (F 1))) = H1
  have z1 : H1.size = H.size + 1 := by rw [← hH1, Array.size_push]
  have g1 : H1[H.size]? = some (vp_cell (cm 0) (N, .inl (F 1))) := by rw [← hH1, Array.getElem?_push_size]
  have o1 : ∀ q : Nat, q < H.size → H1[q]? = H[q]? := fun q hq => by rw [← hH1, Array.getElem?_push, if_neg (Nat.ne_of_lt hq)]
  have hD1 : mD base spa spn spf cm D (sh ++ [.inr (0, N)], va_up F sh.length (F 1), R0) H1 := by
    refine mD_push hD (fun a ha => va_up_ne _ _ ha) (fun _ _ => rfl) z1 o1 ?_
    rw [mce_int (by decide), va_up_self]
    exact g1
  have h9 := k.2 base spa spn spf cm D p l e R s m args below meth c Q cE sE H1 locs (cells + 1) (slots + N) ls hX hfr hlo hcE hsE hK (by show cells + 1 + out.2.1.length = cE + (sh ++ [_]).length; simp; omega) (by show slots + N + mSz out.2.1 = sE + mSz (sh ++ [_]); rw [mSz_push]; simp only; omega) hD1 (mb_len hS z1 o1 hbase) hL
  have e9 : mtv base spa (.ref sh.length) = .ref H.size := congrArg Value.ref (mad_len hD)
  rw [List.map_cons, e9] at h9
  obtain ⟨t, b1, b2⟩ := h9 ((T.setVm vm').pushCell (vp_cell (cm 0) (N, .inl (F 1)))) (by rw [← hH1, ← hT]; rfl) X'
  refine ⟨t, ?_, b2⟩
  have h10 := sT t
  rw [hcell, hT] at h10
  exact h10 b1
/-- a cast of an array of ints to its own type -/
theorem g_castI {M : mM} {d pc : Nat} {L : mLs} {st : List Value} {hp : mHp} {out : mOut} {idx j N : Nat} (hd : decode M.2.1 pc = .ok (.checkcast idx, 3)) (hl : Cond.classLink M.1 idx "[I" ∈ mGW) (hsh : hp.1[j]? = some (.inr (0, N))) (h4 : 4 ≤ j) (k : mGo M d (pc + 3, L, .ref j :: st, hp) out) : mGo M d (pc, L, .ref j :: st, hp) out := by
  refine ⟨k.1, ?_⟩
  intro base spa spn spf cm D p l e R s m args below meth c Q cE sE H locs cells slots ls hX hfr hlo hcE hsE hK hc hs hD hS hL
  have hx := hX.1
  have hb := hX.2.1
  have hSta := hX.2.2.2.2.2.2.2.2
  have h9 := k.2 base spa spn spf cm D p l e R s m args below meth c Q cE sE H locs cells slots ls hX hfr hlo hcE hsE hK hc hs hD hS hL
  rw [List.map_cons] at h9 ⊢
  rw [show mtv base spa (.ref j) = .ref (base + (j - 4)) from congrArg Value.ref (mad_hi h4)] at h9 ⊢
  exact va_castA hx hb hX.2.2.2.2.1 (hX.2.2.2.2.2.2.2.1 _ hl) hD.2.2.1 (j - 4) (mW_get h4 hsh) (va_nm_int (hSta.1.2 0 _ rfl).2) hd h9
end
section
theorem pe_id {F : Nat → Nat → Int32} {c k : Nat} {v : Int32} (h : F c k = v) : pe F c k v = F := by
  funext a b
  rw [pe_at]
  split
  · next q => rw [q.1, q.2, h]
  · rfl
end
section
theorem m_a {sh t : List mShp} {b : Nat} {s : mShp} (h : sh[b]? = some s) : (sh ++ t)[b]? = some s := by
  rw [List.getElem?_append_left (List.getElem?_eq_some_iff.mp h).1]
  exact h
theorem m_l {sh : List mShp} {x : mShp} {n : Nat} (h : sh.length = n) : (sh ++ [x])[n]? = some x := by
  subst h
  rw [List.getElem?_append_right (Nat.le_refl _), Nat.sub_self]
  rfl
def rW (R : Nat → Nat → Option Nat) (l : List (Nat × Nat × Nat)) : Nat → Nat → Option Nat := l.foldl (fun R q => va_up R q.1 (va_up (R q.1) q.2.1 (some q.2.2))) R
theorem pe_id' {F : Nat → Nat → Int32} {c k : Nat} (h : F c = fun _ => 0) : pe F c k 0 = F := pe_id (congrFun h k)
set_option maxHeartbeats 4000000 in
set_option maxRecDepth 100000 in
theorem c_init_X0 {sh : List mShp} {F : Nat → Nat → Int32} {R : Nat → Nat → Option Nat} (d n b : Nat) (hn : sh.length = n) (hb : sh[b]? = some (.inl 0)) (h4 : 4 ≤ b) (hF0 : F b = fun _ => 0) (hF : ∀ j, n ≤ j → F j = fun _ => 0) : mCall (d + 1) yX0_init MX0_init [.ref b] (sh, F, R) none (sh ++ [.inr (0, 10)] ++ [.inr (0, 10)] ++ [.inr (0, 10)] ++ [.inr (0, 10)] ++ [.inr (0, 10)] ++ [.inr (0, 10)], F, rW R [(b, 1, n), (b, 2, (n + 1)), (b, 3, (n + 2)), (b, 4, (n + 3)), (b, 5, (n + 4)), (b, 6, (n + 5))]) := by
  refine mCall_of sX0_init.1 (Nat.le_of_ble_eq_true rfl) rfl ?_
  show mGo _ _ (0, [some (.ref b)], [], _) _
  refine g_aload_n dX0_init_0 rfl ?_
  refine g_obj dX0_init_1 ml_X0_3 wo_inst wo_code (Nat.le_of_ble_eq_true rfl) ?_
  refine g_aload_n dX0_init_4 rfl ?_
  refine g_iconstv (v := 0) dX0_init_5 rfl ?_
  refine g_pI dX0_init_6 fl_X0_9 (Or.inl rfl) hb (by omega) rfl ?_
  rw [pe_id' hF0]
  refine g_aload_n dX0_init_9 rfl ?_
  refine g_bipushv (v := 10) dX0_init_10 rfl ?_
  refine g_newi (n := n) (N := 10) dX0_init_12 (by decide) rfl (by decide) hn (hF _ (by omega)) wk_int ?_
  refine g_putR dX0_init_14 fl_X0_15 (Or.inr ⟨rfl, rfl, rfl⟩) (m_a hb) (by omega) (fun _ _ => rfl) (fun _ => ⟨rfl, rfl⟩) ?_
  refine g_aload_n dX0_init_17 rfl ?_
  refine g_bipushv (v := 10) dX0_init_18 rfl ?_
  refine g_newi (n := (n + 1)) (N := 10) dX0_init_20 (by decide) rfl (by decide) (by simp [hn]) (hF _ (by omega)) wk_int ?_
  refine g_putR dX0_init_22 fl_X0_19 (Or.inr ⟨rfl, rfl, rfl⟩) (m_a (m_a hb)) (by omega) (fun _ _ => rfl) (fun _ => ⟨rfl, rfl⟩) ?_
  refine g_aload_n dX0_init_25 rfl ?_
  refine g_bipushv (v := 10) dX0_init_26 rfl ?_
  refine g_newi (n := (n + 2)) (N := 10) dX0_init_28 (by decide) rfl (by decide) (by simp [hn]) (hF _ (by omega)) wk_int ?_
  refine g_putR dX0_init_30 fl_X0_22 (Or.inr ⟨rfl, rfl, rfl⟩) (m_a (m_a (m_a hb))) (by omega) (fun _ _ => rfl) (fun _ => ⟨rfl, rfl⟩) ?_
  refine g_aload_n dX0_init_33 rfl ?_
  refine g_bipushv (v := 10) dX0_init_34 rfl ?_
  refine g_newi (n := (n + 3)) (N := 10) dX0_init_36 (by decide) rfl (by decide) (by simp [hn]) (hF _ (by omega)) wk_int ?_
  refine g_putR dX0_init_38 fl_X0_25 (Or.inr ⟨rfl, rfl, rfl⟩) (m_a (m_a (m_a (m_a hb)))) (by omega) (fun _ _ => rfl) (fun _ => ⟨rfl, rfl⟩) ?_
  refine g_aload_n dX0_init_41 rfl ?_
  refine g_bipushv (v := 10) dX0_init_42 rfl ?_
  refine g_newi (n := (n + 4)) (N := 10) dX0_init_44 (by decide) rfl (by decide) (by simp [hn]) (hF _ (by omega)) wk_int ?_
  refine g_putR dX0_init_46 fl_X0_28 (Or.inr ⟨rfl, rfl, rfl⟩) (m_a (m_a (m_a (m_a (m_a hb))))) (by omega) (fun _ _ => rfl) (fun _ => ⟨rfl, rfl⟩) ?_
  refine g_aload_n dX0_init_49 rfl ?_
  refine g_bipushv (v := 10) dX0_init_50 rfl ?_
  refine g_newi (n := (n + 5)) (N := 10) dX0_init_52 (by decide) rfl (by decide) (by simp [hn]) (hF _ (by omega)) wk_int ?_
  refine g_putR dX0_init_54 fl_X0_31 (Or.inr ⟨rfl, rfl, rfl⟩) (m_a (m_a (m_a (m_a (m_a (m_a hb)))))) (by omega) (fun _ _ => rfl) (fun _ => ⟨rfl, rfl⟩) ?_
  exact g_vret dX0_init_57 rfl
set_option maxHeartbeats 4000000 in
set_option maxRecDepth 100000 in
theorem c_init_X2 {sh : List mShp} {F : Nat → Nat → Int32} {R : Nat → Nat → Option Nat} (d n b : Nat) (hn : sh.length = n) (hb : sh[b]? = some (.inl 2)) (h4 : 4 ≤ b) (hF0 : F b = fun _ => 0) (hF : ∀ j, n ≤ j → F j = fun _ => 0) : mCall (d + 1) yX2_init MX2_init [.ref b] (sh, F, R) none (sh ++ [.inr (0, 12)] ++ [.inr (0, 12)] ++ [.inr (0, 3)] ++ [.inr (0, 50)], F, rW R [(b, 0, n), (b, 1, (n + 1)), (b, 2, (n + 2)), (b, 3, (n + 3))]) := by
  refine mCall_of sX2_init.1 (Nat.le_of_ble_eq_true rfl) rfl ?_
  show mGo _ _ (0, [some (.ref b)], [], _) _
  refine g_aload_n dX2_init_0 rfl ?_
  refine g_obj dX2_init_1 ml_X2_3 wo_inst wo_code (Nat.le_of_ble_eq_true rfl) ?_
  refine g_aload_n dX2_init_4 rfl ?_
  refine g_bipushv (v := 12) dX2_init_5 rfl ?_
  refine g_newi (n := n) (N := 12) dX2_init_7 (by decide) rfl (by decide) hn (hF _ (by omega)) wk_int ?_
  refine g_putR dX2_init_9 fl_X2_9 (Or.inr ⟨rfl, rfl, rfl⟩) (m_a hb) (by omega) (fun _ _ => rfl) (fun _ => ⟨rfl, rfl⟩) ?_
  refine g_aload_n dX2_init_12 rfl ?_
  refine g_bipushv (v := 12) dX2_init_13 rfl ?_
  refine g_newi (n := (n + 1)) (N := 12) dX2_init_15 (by decide) rfl (by decide) (by simp [hn]) (hF _ (by omega)) wk_int ?_
  refine g_putR dX2_init_17 fl_X2_15 (Or.inr ⟨rfl, rfl, rfl⟩) (m_a (m_a hb)) (by omega) (fun _ _ => rfl) (fun _ => ⟨rfl, rfl⟩) ?_
  refine g_aload_n dX2_init_20 rfl ?_
  refine g_iconstv (v := 3) dX2_init_21 rfl ?_
  refine g_newi (n := (n + 2)) (N := 3) dX2_init_22 (by decide) rfl (by decide) (by simp [hn]) (hF _ (by omega)) wk_int ?_
  refine g_putR dX2_init_24 fl_X2_18 (Or.inr ⟨rfl, rfl, rfl⟩) (m_a (m_a (m_a hb))) (by omega) (fun _ _ => rfl) (fun _ => ⟨rfl, rfl⟩) ?_
  refine g_aload_n dX2_init_27 rfl ?_
  refine g_bipushv (v := 50) dX2_init_28 rfl ?_
  refine g_newi (n := (n + 3)) (N := 50) dX2_init_30 (by decide) rfl (by decide) (by simp [hn]) (hF _ (by omega)) wk_int ?_
  refine g_putR dX2_init_32 fl_X2_21 (Or.inr ⟨rfl, rfl, rfl⟩) (m_a (m_a (m_a (m_a hb)))) (by omega) (fun _ _ => rfl) (fun _ => ⟨rfl, rfl⟩) ?_
  refine g_aload_n dX2_init_35 rfl ?_
  refine g_iconstv (v := 0) dX2_init_36 rfl ?_
  refine g_pI dX2_init_37 fl_X2_24 (Or.inl rfl) (m_a (m_a (m_a (m_a hb)))) (by omega) rfl ?_
  rw [pe_id' hF0]
  exact g_vret dX2_init_40 rfl
set_option maxHeartbeats 4000000 in
set_option maxRecDepth 100000 in
theorem c_init_X3 {sh : List mShp} {F : Nat → Nat → Int32} {R : Nat → Nat → Option Nat} (d n b : Nat) (hn : sh.length = n) (hb : sh[b]? = some (.inl 3)) (h4 : 4 ≤ b) (hF0 : F b = fun _ => 0) (hF : ∀ j, n ≤ j → F j = fun _ => 0) : mCall (d + 1) yX3_init MX3_init [.ref b] (sh, F, R) none (sh ++ [.inr (0, 80)], F, rW R [(b, 0, n)]) := by
  refine mCall_of sX3_init.1 (Nat.le_of_ble_eq_true rfl) rfl ?_
  show mGo _ _ (0, [some (.ref b)], [], _) _
  refine g_aload_n dX3_init_0 rfl ?_
  refine g_obj dX3_init_1 ml_X3_3 wo_inst wo_code (Nat.le_of_ble_eq_true rfl) ?_
  refine g_aload_n dX3_init_4 rfl ?_
  refine g_bipushv (v := 80) dX3_init_5 rfl ?_
  refine g_newi (n := n) (N := 80) dX3_init_7 (by decide) rfl (by decide) hn (hF _ (by omega)) wk_int ?_
  refine g_putR dX3_init_9 fl_X3_9 (Or.inr ⟨rfl, rfl, rfl⟩) (m_a hb) (by omega) (fun _ _ => rfl) (fun _ => ⟨rfl, rfl⟩) ?_
  refine g_aload_n dX3_init_12 rfl ?_
  refine g_iconstv (v := 0) dX3_init_13 rfl ?_
  refine g_pI dX3_init_14 fl_X3_15 (Or.inl rfl) (m_a hb) (by omega) rfl ?_
  rw [pe_id' hF0]
  exact g_vret dX3_init_17 rfl
def iF (F : Nat → Nat → Int32) (n : Nat) : Nat → Nat → Int32 := (pe (pe (pe (va_up F n (F 1)) (n + 13) 0 (-6)) (n + 13) 1 (-6)) (n + 13) 2 (-6))
def iR (R : Nat → Nat → Option Nat) (n b : Nat) : Nat → Nat → Option Nat := rW R [(b, 1, n), (n + 1, 1, n + 2), (n + 1, 2, n + 3), (n + 1, 3, n + 4), (n + 1, 4, n + 5), (n + 1, 5, n + 6), (n + 1, 6, n + 7), (b, 2, n + 1), (n + 8, 0, n + 9), (n + 8, 1, n + 10), (n + 8, 2, n + 11), (n + 8, 3, n + 12), (b, 3, n + 8), (b, 4, n + 13), (b, 5, n + 14)]
def iS (sh : List mShp) : List mShp := sh ++ [.inr (0, 4)] ++ [.inl 0] ++ [.inr (0, 10)] ++ [.inr (0, 10)] ++ [.inr (0, 10)] ++ [.inr (0, 10)] ++ [.inr (0, 10)] ++ [.inr (0, 10)] ++ [.inl 2] ++ [.inr (0, 12)] ++ [.inr (0, 12)] ++ [.inr (0, 3)] ++ [.inr (0, 50)] ++ [.inr (0, 3)] ++ [.inr (0, 3)]
set_option maxHeartbeats 4000000 in
set_option maxRecDepth 100000 in
theorem c_init_X4 {sh : List mShp} {F : Nat → Nat → Int32} {R : Nat → Nat → Option Nat} (d n b : Nat) (hn : sh.length = n) (hb : sh[b]? = some (.inl 4)) (h4 : 4 ≤ b) (hbn : b < n) (h1 : sh[1]? = some (.inr (3, 4))) (hF0 : F b = fun _ => 0) (hF : ∀ j, n ≤ j → F j = fun _ => 0) (hR : ∀ j, n ≤ j → R j = fun _ => none) : mCall (d + 2) yX4_init MX4_init [.ref b] (sh, F, R) none (iS sh, iF F n, iR R n b) := by
  refine mCall_of sX4_init.1 (Nat.le_of_ble_eq_true rfl) rfl ?_
  show mGo _ _ (0, [some (.ref b)], [], _) _
  refine g_aload_n dX4_init_0 rfl ?_
  refine g_obj dX4_init_1 ml_X4_3 wo_inst wo_code (Nat.le_of_ble_eq_true rfl) ?_
  refine g_aload_n dX4_init_4 rfl ?_
  refine g_iconstv (v := 0) dX4_init_5 rfl ?_
  refine g_pI dX4_init_6 fl_X4_9 (Or.inl rfl) hb (by omega) rfl ?_
  rw [pe_id' hF0]
  refine g_aload_n dX4_init_9 rfl ?_
  refine g_gets (j := 0) dX4_init_10 sl_X4_15 (by decide) ?_
  refine g_clone (n := n) (N := 4) dX4_init_13 ml_X4_19 (Nat.le_of_ble_eq_true rfl) hn h1 ?_
  refine g_castI dX4_init_16 cl_X4_20 (m_l hn) (by omega) ?_
  refine g_putR dX4_init_19 fl_X4_24 (Or.inr ⟨rfl, rfl, rfl⟩) (m_a hb) (by omega) (fun _ _ => rfl) (fun _ => ⟨rfl, rfl⟩) ?_
  refine g_aload_n dX4_init_22 rfl ?_
  refine g_new (n := (n + 1)) dX4_init_23 cl_X4_27 nc_X0 (by simp [hn]) ((va_up_ne _ _ (by omega)).trans (hF _ (by omega))) (by (try simp only [rW, List.foldl_cons, List.foldl_nil]); (repeat (rw [va_up_ne _ _ (by omega)])); exact hR _ (by omega)) ?_
  refine g_dup dX4_init_26 rfl ?_
  refine g_IN0 dX4_init_27 ml_X4_29 sX0_init (Nat.le_of_ble_eq_true rfl) (c_init_X0 d (n + 2) (n + 1) (by simp [hn]) (m_l (by simp [hn])) (by omega) ((va_up_ne _ _ (by omega)).trans (hF _ (by omega))) (fun j hj => ((va_up_ne _ _ (by omega)).trans (hF _ (by omega))))) ?_
  refine g_putR dX4_init_30 fl_X4_30 (Or.inr ⟨rfl, rfl, rfl⟩) (m_a (m_a (m_a (m_a (m_a (m_a (m_a (m_a hb)))))))) (by omega) (fun _ _ => rfl) (fun _ => ⟨rfl, rfl⟩) ?_
  refine g_aload_n dX4_init_33 rfl ?_
  refine g_new (n := (n + 8)) dX4_init_34 cl_X4_34 nc_X2 (by simp [hn]) ((va_up_ne _ _ (by omega)).trans (hF _ (by omega))) (by (try simp only [rW, List.foldl_cons, List.foldl_nil]); (repeat (rw [va_up_ne _ _ (by omega)])); exact hR _ (by omega)) ?_
  refine g_dup dX4_init_37 rfl ?_
  refine g_IN0 dX4_init_38 ml_X4_36 sX2_init (Nat.le_of_ble_eq_true rfl) (c_init_X2 d (n + 9) (n + 8) (by simp [hn]) (m_l (by simp [hn])) (by omega) ((va_up_ne _ _ (by omega)).trans (hF _ (by omega))) (fun j hj => ((va_up_ne _ _ (by omega)).trans (hF _ (by omega))))) ?_
  refine g_putR dX4_init_41 fl_X4_37 (Or.inr ⟨rfl, rfl, rfl⟩) (m_a (m_a (m_a (m_a (m_a (m_a (m_a (m_a (m_a (m_a (m_a (m_a (m_a hb))))))))))))) (by omega) (fun _ _ => rfl) (fun _ => ⟨rfl, rfl⟩) ?_
  refine g_aload_n dX4_init_44 rfl ?_
  refine g_iconstv (v := 3) dX4_init_45 rfl ?_
  refine g_newi (n := (n + 13)) (N := 3) dX4_init_46 (by decide) rfl (by decide) (by simp [hn]) ((va_up_ne _ _ (by omega)).trans (hF _ (by omega))) wk_int ?_
  refine g_dup dX4_init_48 rfl ?_
  refine g_iconstv (v := 0) dX4_init_49 rfl ?_
  refine g_bipushv (v := (-6)) dX4_init_50 rfl ?_
  refine g_iastN (gx := 0) dX4_init_52 (m_l (by simp [hn])) (by omega) rfl (by decide) (by decide) ?_
  refine g_dup dX4_init_53 rfl ?_
  refine g_iconstv (v := 1) dX4_init_54 rfl ?_
  refine g_bipushv (v := (-6)) dX4_init_55 rfl ?_
  refine g_iastN (gx := 1) dX4_init_57 (m_l (by simp [hn])) (by omega) rfl (by decide) (by decide) ?_
  refine g_dup dX4_init_58 rfl ?_
  refine g_iconstv (v := 2) dX4_init_59 rfl ?_
  refine g_bipushv (v := (-6)) dX4_init_60 rfl ?_
  refine g_iastN (gx := 2) dX4_init_62 (m_l (by simp [hn])) (by omega) rfl (by decide) (by decide) ?_
  refine g_putR dX4_init_63 fl_X4_41 (Or.inr ⟨rfl, rfl, rfl⟩) (m_a (m_a (m_a (m_a (m_a (m_a (m_a (m_a (m_a (m_a (m_a (m_a (m_a (m_a hb)))))))))))))) (by omega) (fun _ _ => rfl) (fun _ => ⟨rfl, rfl⟩) ?_
  refine g_aload_n dX4_init_66 rfl ?_
  refine g_iconstv (v := 3) dX4_init_67 rfl ?_
  refine g_newi (n := (n + 14)) (N := 3) dX4_init_68 (by decide) rfl (by decide) (by simp [hn]) (by (repeat (first | rw [pe_row (by omega)] | rw [va_up_ne _ _ (by omega)])); exact hF _ (by omega)) wk_int ?_
  refine g_putR dX4_init_70 fl_X4_44 (Or.inr ⟨rfl, rfl, rfl⟩) (m_a (m_a (m_a (m_a (m_a (m_a (m_a (m_a (m_a (m_a (m_a (m_a (m_a (m_a (m_a hb))))))))))))))) (by omega) (fun _ _ => rfl) (fun _ => ⟨rfl, rfl⟩) ?_
  exact g_vret dX4_init_73 rfl
end
section
theorem m_restC {base : Nat} {spa : Nat → Nat} {st : List Value} (h : (st.map fun v => v.category).sum ≤ 8) : ((st.map (mtv base spa)).map fun v => v.category).sum ≤ 8 := by
  rw [List.map_map, show ((fun v : Value => v.category) ∘ mtv base spa) = (fun v : Value => v.category) from funext (fun v => mtv_cat base spa v)]
  exact h
set_option maxHeartbeats 4000000 in
theorem g_callIN6 {M : mM} {o2 : String} {c2 : ByteArray} {n2 : Nat} {d pc b idx ci n : Nat} {L : mLs} {As rest : List Value} {hp hp1 : mHp} {out : mOut} {r : Option Value} {y : MethodName} {host : String} (hd : decode M.2.1 pc = .ok (.invokespecial idx, 3)) (hl : Cond.methodLinkNest M.1 idx y host ∈ mNW) (hy : mMethI y (o2, c2, n2, (none : Option FieldType), true) n)  (hn : As.length = n) (hst : (rest.map fun v => v.category).sum ≤ 8) (hc0 : mCall d y (o2, c2, n2, (none : Option FieldType), true) (.ref b :: As) hp r hp1) (k : mGo M (d + 1) (pc + 3, L, r.toList ++ rest, hp1) out) : mGo M (d + 1) (pc, L, As.reverse ++ .ref b :: rest, hp) out := by
  have k0 := hc0.1
  have k1 := k.1
  have j1 : hp.1.length ≤ hp1.1.length := k0.1
  have j2 : mSz hp.1 ≤ mSz hp1.1 := k0.2.1
  have j3 : hp1.1.length ≤ out.2.1.length := k1.1
  have j4 : mSz hp1.1 ≤ mSz out.2.1 := k1.2
  refine ⟨⟨Nat.le_trans j1 j3, Nat.le_trans j2 j4⟩, ?_⟩
  intro base spa spn spf cm D p l e R s m args below meth c Q cE sE H locs cells slots ls hX hfr hlo hcE hsE hK hc hs hD hS hL
  have hx := hX.1
  have hb := hX.2.1
  have hts := hX.2.2.2.2.2.2.2.1
  have hK0 : va_K D mcl (mtys cm) s := hX.2.2.2.2.2.2.2.2.1
  have hSt := hX.2.2.2.2.2.2.2.2
  have h8 := m_restC (base := base) (spa := spa) hst
  have hc' : cells + out.2.1.length = cE + hp.1.length := hc
  have hs' : slots + mSz out.2.1 = sE + mSz hp.1 := hs
  have hcall := hc0.2 l base spa spn spf cm D
  have hbm := hy.1
  have hR : d + 1 ≤ R.frames ∧ 8 + (n2 + 11) + 40 * d ≤ R.locals := ⟨hfr, by have h7 : n2 ≤ 21 := hbm.2.2.2.2.2.2; omega⟩
  have hPU : ∀ U : State, U.heap = H → s.WarmedH U.vm → va_Pc ((.ref b :: As).map (mtv base spa)) (fun U => mD base spa spn spf cm D hp U.heap ∧ mSta base spa spn spf cm D U U.heap) ((.ref b :: As).map (mtv base spa)).toArray U := fun U hU hW => ⟨rfl, by rw [hU]; exact hD, by rw [hU]; exact mSta_moved (mSta_kept hSt hS) hW.alike (mNW_warm hW)⟩

  refine m_after (rest := rest.map (mtv base spa)) (va_runIN (As := As.map (mtv base spa)) (rest := rest.map (mtv base spa)) ⟨hx, hb, hX.2.2.2.1, hX.2.2.2.2.1, hts⟩ hcall ⟨va_cnB n hts (m_good hbm) rfl rfl rfl (hX.2.2.2.2.2.2.2.2.2.1 _ hl) (hts _ hbm.2.2.2.2.1) hbm.2.2.2.2.2.1 hR, hbm.2.2.1 rfl, hts _ hy.2⟩ ⟨mBlind, hPU⟩ rfl (by rw [List.length_map]; exact hn) hL.1 (by first | exact m_stk | (show List.map _ _ = _; simp)) (lv_room (by omega)) hd ⟨by omega, by omega⟩) hS (fun H1 locs1 hD1 hS1 => ?_)
  have h9 := k.2 base spa spn spf cm D p l e R s m args below meth c Q cE sE H1 locs1 (cells + (hp1.1.length - hp.1.length)) (slots + (mSz hp1.1 - mSz hp.1)) ls hX hfr hlo hcE hsE hK (by show cells + _ + out.2.1.length = cE + hp1.1.length; omega) (by show slots + _ + mSz out.2.1 = sE + mSz hp1.1; omega) hD1 hS1 hL
  have e9 : List.map (mtv base spa) (r.toList ++ rest) = r.toList ++ rest.map (mtv base spa) := by
    cases r with
    | none => rfl
    | some v =>
      cases v with
      | ref a =>
        exact (k0.2.2 a rfl).elim
      | _ => rfl
  have h10 : W p l e R s m args below meth c H1 locs1 (cells + (hp1.1.length - hp.1.length)) (slots + (mSz hp1.1 - mSz hp.1)) Q (F0 m (pc + 3) ls (List.map (mtv base spa) (r.toList ++ rest))) := h9
  rw [e9] at h10
  exact h10
theorem rW1 {R : Nat → Nat → Option Nat} {c k v j : Nat} (h : j ≠ c) : rW R [(c, k, v)] j = R j := va_up_ne _ _ h
theorem iF_hi {F : Nat → Nat → Int32} {n j : Nat} (h : n + 15 ≤ j) : iF F n j = F j := by
  unfold iF
  rw [pe_row (by omega), pe_row (by omega), pe_row (by omega), va_up_ne _ _ (by omega)]
theorem iF_lo {F : Nat → Nat → Int32} {n j : Nat} (h : j < n) : iF F n j = F j := by
  unfold iF
  rw [pe_row (by omega), pe_row (by omega), pe_row (by omega), va_up_ne _ _ (by omega)]
theorem rW_ne {R : Nat → Nat → Option Nat} {l : List (Nat × Nat × Nat)} {j : Nat} (h : ∀ q ∈ l, j ≠ q.1) : rW R l j = R j := by
  induction l generalizing R with
  | nil => rfl
  | cons q l ih =>
    show rW (va_up R q.1 (va_up (R q.1) q.2.1 (some q.2.2))) l j = R j
    rw [ih (fun r hr => h r (List.mem_cons_of_mem _ hr))]
    exact va_up_ne _ _ (h q List.mem_cons_self)
theorem iR_hi {R : Nat → Nat → Option Nat} {n b j : Nat} (h : n + 15 ≤ j) (hb : b < n) : iR R n b j = R j := by
  unfold iR
  apply rW_ne
  intro q hq
  simp only [List.mem_cons, List.not_mem_nil, or_false] at hq
  rcases hq with rfl | rfl | rfl | rfl | rfl | rfl | rfl | rfl | rfl | rfl | rfl | rfl | rfl | rfl | rfl <;> (simp only; omega)
theorem g_putW {M : mM} {d pc : Nat} {L : mLs} {st : List Value} {sh : List mShp} {F : Nat → Nat → Int32} {R0 : Nat → Nat → Option Nat} {out : mOut} {idx ci f j r : Nat} (hd : decode M.2.1 pc = .ok (.putfield idx, 3)) (hf : mFL M.1 idx ci f) (hfin : mfin ci f = false ∨ (mfin ci f = true ∧ M.2.2.2.2 = true ∧ mdc ci = M.1)) (hsh : sh[j]? = some (.inl ci)) (h4 : 4 ≤ j) (ht : ∀ i r, mfv (mty ci f) i r = va_rf r) (hnf : ∀ x, narrow (mty ci f) (.ref x) = .ref x ∧ fits (mty ci f) (.ref x) = true)
    (k : mGo M d (pc + 3, L, st, (sh, F, rW R0 [(j, f, r)])) out) : mGo M d (pc, L, .ref r :: .ref j :: st, (sh, F, R0)) out := g_putR hd hf hfin hsh h4 ht hnf k
theorem g_aastW {M : mM} {d pc : Nat} {L : mLs} {st : List Value} {sh : List mShp} {F : Nat → Nat → Int32} {R0 : Nat → Nat → Option Nat} {out : mOut} {j n : Nat} {i : Int32} {v ci : Nat} (gx : Nat) (hd : decode M.2.1 pc = .ok (.aastore, 1)) (hsh : sh[j]? = some (.inr (2, n))) (h4 : 4 ≤ j) (hi : i = nI gx) (hg : gx < n) (hn : n < 2 ^ 31) (hv : sh[v]? = some (.inl ci)) (hv4 : 4 ≤ v) (hci : mcl[ci]?.map (fun q => q.1) = some RX4) (k : mGo M d (pc + 1, L, st, (sh, F, rW R0 [(j, gx, v)])) out) : mGo M d (pc, L, .ref v :: .int i :: .ref j :: st, (sh, F, R0)) out := g_aastN gx hd hsh h4 hi hg hn hv hv4 hci k
theorem c_roomN {L : Nat} (d n b : Nat) (F : Nat → Nat → Int32) (R : Nat → Nat → Option Nat) (hn : ((mSH L).take n).length = n) (hb : ((mSH L).take n)[b]? = some (.inl 4)) (hS : iS ((mSH L).take n) = (mSH L).take (n + 15)) (h1 : ((mSH L).take n)[1]? = some (.inr (3, 4))) (h4 : 4 ≤ b) (hbn : b < n) (hF0 : F b = fun _ => 0) (hF : ∀ j, n ≤ j → F j = fun _ => 0) (hR : ∀ j, n ≤ j → R j = fun _ => none) : mCall (d + 2) yX4_init MX4_init [.ref b] ((mSH L).take n, F, R) none ((mSH L).take (n + 15), iF F n, iR R n b) := by
  rw [← hS]
  exact c_init_X4 d n b hn hb h4 hbn h1 hF0 hF hR
def f1 (F : Nat → Nat → Int32) : Nat → Nat → Int32 := (iF (iF (iF (iF (iF (iF (iF F 24) 40) 56) 72) 88) 104) 120)
def r1 (R : Nat → Nat → Option Nat) : Nat → Nat → Option Nat := (rW (iR (rW (iR (rW (iR (rW (iR (rW (iR (rW (iR (rW (iR (rW R [(21, 0, 22)]) 24 23) [(22, 0, 23)]) 40 39) [(22, 1, 39)]) 56 55) [(22, 2, 55)]) 72 71) [(22, 3, 71)]) 88 87) [(22, 4, 87)]) 104 103) [(22, 5, 103)]) 120 119) [(22, 6, 119)])
theorem f1_hi {F : Nat → Nat → Int32} {j : Nat} (h : 135 ≤ j) : f1 F j = F j := by
  unfold f1
  repeat (first | rw [iF_hi (by omega)] | rw [pe_row (by omega)])
theorem r1_hi {R : Nat → Nat → Option Nat} {j : Nat} (h : 135 ≤ j) : r1 R j = R j := by
  unfold r1
  repeat (first | rw [rW1 (by omega)] | rw [iR_hi (by omega) (by omega)])
set_option maxHeartbeats 4000000 in
set_option maxRecDepth 100000 in
theorem c_init_X1 {L : Nat} (d : Nat) (F : Nat → Nat → Int32) (R : Nat → Nat → Option Nat) (hF0 : F 21 = fun _ => 0) (hF : ∀ j, 22 ≤ j → F j = fun _ => 0) (hR : ∀ j, 22 ≤ j → R j = fun _ => none) : mCall (d + 3) yX1_init MX1_init [.ref 21] ((mSH L).take 22, F, R) none ((mSH L).take 135, f1 F, r1 R) := by
  refine mCall_of sX1_init.1 (Nat.le_of_ble_eq_true rfl) rfl ?_
  show mGo _ _ (0, [some (.ref 21), none], [], _) _
  refine g_aload_n dX1_init_0 rfl ?_
  refine g_obj dX1_init_1 ml_X1_3 wo_inst wo_code (Nat.le_of_ble_eq_true rfl) ?_
  refine g_aload_n dX1_init_4 rfl ?_
  refine g_bipushv (v := 7) dX1_init_5 rfl ?_
  refine g_newq (n := 22) (N := 7) dX1_init_7 cl_X1_9 (by decide) rfl (by decide) rfl (by (repeat (first | rw [rW1 (by omega)] | rw [iR_hi (by omega) (by omega)] | rw [r1_hi (by omega)] | rw [r5_hi (by omega)] | rw [r3_hi (by omega)])); exact hR _ (by omega)) ?_
  rw [show (mSH L).take 22 ++ [.inr (2, 7)] = (mSH L).take 23 from rfl]
  refine g_putW dX1_init_10 fl_X1_11 (Or.inr ⟨rfl, rfl, rfl⟩) rfl (by decide) (fun _ _ => rfl) (fun _ => ⟨rfl, rfl⟩) ?_
  refine g_aload_n dX1_init_13 rfl ?_
  refine g_iconstv (v := 0) dX1_init_14 rfl ?_
  refine g_pI dX1_init_15 fl_X1_17 (Or.inl rfl) rfl (by decide) rfl ?_
  rw [pe_id' hF0]
  refine g_iconstv (v := 0) dX1_init_18 rfl ?_
  refine g_istore_n dX1_init_19 (by decide) rfl ?_
  refine g_iload_n dX1_init_20 rfl ?_
  refine g_aload_n dX1_init_21 rfl ?_
  refine g_gR (r := 22) dX1_init_22 fl_X1_11 (fun _ _ => rfl) rfl (by decide) rfl ?_
  refine g_alen (n := 7) dX1_init_25 rfl (by decide) (by decide) ?_
  refine g_icmp_ge (tgt := 48) dX1_init_26 (by decide) (fun c => absurd c (by decide)) (fun c => ?_)
  refine g_aload_n dX1_init_29 rfl ?_
  refine g_gR (r := 22) dX1_init_30 fl_X1_11 (fun _ _ => rfl) rfl (by decide) rfl ?_
  refine g_iload_n dX1_init_33 rfl ?_
  refine g_new (n := 23) dX1_init_34 cl_X1_9 nc_X4 rfl (by (repeat (first | rw [iF_hi (by omega)] | rw [f1_hi (by omega)] | rw [f5_hi (by omega)])); exact hF _ (by omega)) (by (repeat (first | rw [rW1 (by omega)] | rw [iR_hi (by omega) (by omega)] | rw [r1_hi (by omega)] | rw [r5_hi (by omega)] | rw [r3_hi (by omega)])); exact hR _ (by omega)) ?_
  rw [show (mSH L).take 23 ++ [.inl 4] = (mSH L).take 24 from rfl]
  refine g_dup dX1_init_37 rfl ?_
  refine g_IN0 dX1_init_38 ml_X1_21 sX4_init (Nat.le_of_ble_eq_true rfl) (c_roomN (L := L) (d) 24 23 _ _ rfl rfl rfl rfl (by decide) (by decide) (by (repeat (first | rw [iF_hi (by omega)] | rw [f1_hi (by omega)] | rw [f5_hi (by omega)])); exact hF _ (by omega)) (fun j hj => (by (repeat (first | rw [iF_hi (by omega)] | rw [f1_hi (by omega)] | rw [f5_hi (by omega)])); exact hF j (by omega))) (fun j hj => (by (repeat (first | rw [rW1 (by omega)] | rw [iR_hi (by omega) (by omega)] | rw [r1_hi (by omega)] | rw [r5_hi (by omega)] | rw [r3_hi (by omega)])); exact hR j (by omega)))) ?_
  refine g_aastW (gx := 0) dX1_init_41 rfl (by decide) rfl (by decide) (by decide) rfl (by decide) rfl ?_
  refine g_iincv (v := 1) dX1_init_42 rfl rfl (by decide) rfl ?_
  refine g_goto (tgt := 20) dX1_init_45 (by decide) ?_
  refine g_iload_n dX1_init_20 rfl ?_
  refine g_aload_n dX1_init_21 rfl ?_
  refine g_gR (r := 22) dX1_init_22 fl_X1_11 (fun _ _ => rfl) rfl (by decide) rfl ?_
  refine g_alen (n := 7) dX1_init_25 rfl (by decide) (by decide) ?_
  refine g_icmp_ge (tgt := 48) dX1_init_26 (by decide) (fun c => absurd c (by decide)) (fun c => ?_)
  refine g_aload_n dX1_init_29 rfl ?_
  refine g_gR (r := 22) dX1_init_30 fl_X1_11 (fun _ _ => rfl) rfl (by decide) rfl ?_
  refine g_iload_n dX1_init_33 rfl ?_
  refine g_new (n := 39) dX1_init_34 cl_X1_9 nc_X4 rfl (by (repeat (first | rw [iF_hi (by omega)] | rw [f1_hi (by omega)] | rw [f5_hi (by omega)])); exact hF _ (by omega)) (by (repeat (first | rw [rW1 (by omega)] | rw [iR_hi (by omega) (by omega)] | rw [r1_hi (by omega)] | rw [r5_hi (by omega)] | rw [r3_hi (by omega)])); exact hR _ (by omega)) ?_
  rw [show (mSH L).take 39 ++ [.inl 4] = (mSH L).take 40 from rfl]
  refine g_dup dX1_init_37 rfl ?_
  refine g_IN0 dX1_init_38 ml_X1_21 sX4_init (Nat.le_of_ble_eq_true rfl) (c_roomN (L := L) (d) 40 39 _ _ rfl rfl rfl rfl (by decide) (by decide) (by (repeat (first | rw [iF_hi (by omega)] | rw [f1_hi (by omega)] | rw [f5_hi (by omega)])); exact hF _ (by omega)) (fun j hj => (by (repeat (first | rw [iF_hi (by omega)] | rw [f1_hi (by omega)] | rw [f5_hi (by omega)])); exact hF j (by omega))) (fun j hj => (by (repeat (first | rw [rW1 (by omega)] | rw [iR_hi (by omega) (by omega)] | rw [r1_hi (by omega)] | rw [r5_hi (by omega)] | rw [r3_hi (by omega)])); exact hR j (by omega)))) ?_
  refine g_aastW (gx := 1) dX1_init_41 rfl (by decide) rfl (by decide) (by decide) rfl (by decide) rfl ?_
  refine g_iincv (v := 2) dX1_init_42 rfl rfl (by decide) rfl ?_
  refine g_goto (tgt := 20) dX1_init_45 (by decide) ?_
  refine g_iload_n dX1_init_20 rfl ?_
  refine g_aload_n dX1_init_21 rfl ?_
  refine g_gR (r := 22) dX1_init_22 fl_X1_11 (fun _ _ => rfl) rfl (by decide) rfl ?_
  refine g_alen (n := 7) dX1_init_25 rfl (by decide) (by decide) ?_
  refine g_icmp_ge (tgt := 48) dX1_init_26 (by decide) (fun c => absurd c (by decide)) (fun c => ?_)
  refine g_aload_n dX1_init_29 rfl ?_
  refine g_gR (r := 22) dX1_init_30 fl_X1_11 (fun _ _ => rfl) rfl (by decide) rfl ?_
  refine g_iload_n dX1_init_33 rfl ?_
  refine g_new (n := 55) dX1_init_34 cl_X1_9 nc_X4 rfl (by (repeat (first | rw [iF_hi (by omega)] | rw [f1_hi (by omega)] | rw [f5_hi (by omega)])); exact hF _ (by omega)) (by (repeat (first | rw [rW1 (by omega)] | rw [iR_hi (by omega) (by omega)] | rw [r1_hi (by omega)] | rw [r5_hi (by omega)] | rw [r3_hi (by omega)])); exact hR _ (by omega)) ?_
  rw [show (mSH L).take 55 ++ [.inl 4] = (mSH L).take 56 from rfl]
  refine g_dup dX1_init_37 rfl ?_
  refine g_IN0 dX1_init_38 ml_X1_21 sX4_init (Nat.le_of_ble_eq_true rfl) (c_roomN (L := L) (d) 56 55 _ _ rfl rfl rfl rfl (by decide) (by decide) (by (repeat (first | rw [iF_hi (by omega)] | rw [f1_hi (by omega)] | rw [f5_hi (by omega)])); exact hF _ (by omega)) (fun j hj => (by (repeat (first | rw [iF_hi (by omega)] | rw [f1_hi (by omega)] | rw [f5_hi (by omega)])); exact hF j (by omega))) (fun j hj => (by (repeat (first | rw [rW1 (by omega)] | rw [iR_hi (by omega) (by omega)] | rw [r1_hi (by omega)] | rw [r5_hi (by omega)] | rw [r3_hi (by omega)])); exact hR j (by omega)))) ?_
  refine g_aastW (gx := 2) dX1_init_41 rfl (by decide) rfl (by decide) (by decide) rfl (by decide) rfl ?_
  refine g_iincv (v := 3) dX1_init_42 rfl rfl (by decide) rfl ?_
  refine g_goto (tgt := 20) dX1_init_45 (by decide) ?_
  refine g_iload_n dX1_init_20 rfl ?_
  refine g_aload_n dX1_init_21 rfl ?_
  refine g_gR (r := 22) dX1_init_22 fl_X1_11 (fun _ _ => rfl) rfl (by decide) rfl ?_
  refine g_alen (n := 7) dX1_init_25 rfl (by decide) (by decide) ?_
  refine g_icmp_ge (tgt := 48) dX1_init_26 (by decide) (fun c => absurd c (by decide)) (fun c => ?_)
  refine g_aload_n dX1_init_29 rfl ?_
  refine g_gR (r := 22) dX1_init_30 fl_X1_11 (fun _ _ => rfl) rfl (by decide) rfl ?_
  refine g_iload_n dX1_init_33 rfl ?_
  refine g_new (n := 71) dX1_init_34 cl_X1_9 nc_X4 rfl (by (repeat (first | rw [iF_hi (by omega)] | rw [f1_hi (by omega)] | rw [f5_hi (by omega)])); exact hF _ (by omega)) (by (repeat (first | rw [rW1 (by omega)] | rw [iR_hi (by omega) (by omega)] | rw [r1_hi (by omega)] | rw [r5_hi (by omega)] | rw [r3_hi (by omega)])); exact hR _ (by omega)) ?_
  rw [show (mSH L).take 71 ++ [.inl 4] = (mSH L).take 72 from rfl]
  refine g_dup dX1_init_37 rfl ?_
  refine g_IN0 dX1_init_38 ml_X1_21 sX4_init (Nat.le_of_ble_eq_true rfl) (c_roomN (L := L) (d) 72 71 _ _ rfl rfl rfl rfl (by decide) (by decide) (by (repeat (first | rw [iF_hi (by omega)] | rw [f1_hi (by omega)] | rw [f5_hi (by omega)])); exact hF _ (by omega)) (fun j hj => (by (repeat (first | rw [iF_hi (by omega)] | rw [f1_hi (by omega)] | rw [f5_hi (by omega)])); exact hF j (by omega))) (fun j hj => (by (repeat (first | rw [rW1 (by omega)] | rw [iR_hi (by omega) (by omega)] | rw [r1_hi (by omega)] | rw [r5_hi (by omega)] | rw [r3_hi (by omega)])); exact hR j (by omega)))) ?_
  refine g_aastW (gx := 3) dX1_init_41 rfl (by decide) rfl (by decide) (by decide) rfl (by decide) rfl ?_
  refine g_iincv (v := 4) dX1_init_42 rfl rfl (by decide) rfl ?_
  refine g_goto (tgt := 20) dX1_init_45 (by decide) ?_
  refine g_iload_n dX1_init_20 rfl ?_
  refine g_aload_n dX1_init_21 rfl ?_
  refine g_gR (r := 22) dX1_init_22 fl_X1_11 (fun _ _ => rfl) rfl (by decide) rfl ?_
  refine g_alen (n := 7) dX1_init_25 rfl (by decide) (by decide) ?_
  refine g_icmp_ge (tgt := 48) dX1_init_26 (by decide) (fun c => absurd c (by decide)) (fun c => ?_)
  refine g_aload_n dX1_init_29 rfl ?_
  refine g_gR (r := 22) dX1_init_30 fl_X1_11 (fun _ _ => rfl) rfl (by decide) rfl ?_
  refine g_iload_n dX1_init_33 rfl ?_
  refine g_new (n := 87) dX1_init_34 cl_X1_9 nc_X4 rfl (by (repeat (first | rw [iF_hi (by omega)] | rw [f1_hi (by omega)] | rw [f5_hi (by omega)])); exact hF _ (by omega)) (by (repeat (first | rw [rW1 (by omega)] | rw [iR_hi (by omega) (by omega)] | rw [r1_hi (by omega)] | rw [r5_hi (by omega)] | rw [r3_hi (by omega)])); exact hR _ (by omega)) ?_
  rw [show (mSH L).take 87 ++ [.inl 4] = (mSH L).take 88 from rfl]
  refine g_dup dX1_init_37 rfl ?_
  refine g_IN0 dX1_init_38 ml_X1_21 sX4_init (Nat.le_of_ble_eq_true rfl) (c_roomN (L := L) (d) 88 87 _ _ rfl rfl rfl rfl (by decide) (by decide) (by (repeat (first | rw [iF_hi (by omega)] | rw [f1_hi (by omega)] | rw [f5_hi (by omega)])); exact hF _ (by omega)) (fun j hj => (by (repeat (first | rw [iF_hi (by omega)] | rw [f1_hi (by omega)] | rw [f5_hi (by omega)])); exact hF j (by omega))) (fun j hj => (by (repeat (first | rw [rW1 (by omega)] | rw [iR_hi (by omega) (by omega)] | rw [r1_hi (by omega)] | rw [r5_hi (by omega)] | rw [r3_hi (by omega)])); exact hR j (by omega)))) ?_
  refine g_aastW (gx := 4) dX1_init_41 rfl (by decide) rfl (by decide) (by decide) rfl (by decide) rfl ?_
  refine g_iincv (v := 5) dX1_init_42 rfl rfl (by decide) rfl ?_
  refine g_goto (tgt := 20) dX1_init_45 (by decide) ?_
  refine g_iload_n dX1_init_20 rfl ?_
  refine g_aload_n dX1_init_21 rfl ?_
  refine g_gR (r := 22) dX1_init_22 fl_X1_11 (fun _ _ => rfl) rfl (by decide) rfl ?_
  refine g_alen (n := 7) dX1_init_25 rfl (by decide) (by decide) ?_
  refine g_icmp_ge (tgt := 48) dX1_init_26 (by decide) (fun c => absurd c (by decide)) (fun c => ?_)
  refine g_aload_n dX1_init_29 rfl ?_
  refine g_gR (r := 22) dX1_init_30 fl_X1_11 (fun _ _ => rfl) rfl (by decide) rfl ?_
  refine g_iload_n dX1_init_33 rfl ?_
  refine g_new (n := 103) dX1_init_34 cl_X1_9 nc_X4 rfl (by (repeat (first | rw [iF_hi (by omega)] | rw [f1_hi (by omega)] | rw [f5_hi (by omega)])); exact hF _ (by omega)) (by (repeat (first | rw [rW1 (by omega)] | rw [iR_hi (by omega) (by omega)] | rw [r1_hi (by omega)] | rw [r5_hi (by omega)] | rw [r3_hi (by omega)])); exact hR _ (by omega)) ?_
  rw [show (mSH L).take 103 ++ [.inl 4] = (mSH L).take 104 from rfl]
  refine g_dup dX1_init_37 rfl ?_
  refine g_IN0 dX1_init_38 ml_X1_21 sX4_init (Nat.le_of_ble_eq_true rfl) (c_roomN (L := L) (d) 104 103 _ _ rfl rfl rfl rfl (by decide) (by decide) (by (repeat (first | rw [iF_hi (by omega)] | rw [f1_hi (by omega)] | rw [f5_hi (by omega)])); exact hF _ (by omega)) (fun j hj => (by (repeat (first | rw [iF_hi (by omega)] | rw [f1_hi (by omega)] | rw [f5_hi (by omega)])); exact hF j (by omega))) (fun j hj => (by (repeat (first | rw [rW1 (by omega)] | rw [iR_hi (by omega) (by omega)] | rw [r1_hi (by omega)] | rw [r5_hi (by omega)] | rw [r3_hi (by omega)])); exact hR j (by omega)))) ?_
  refine g_aastW (gx := 5) dX1_init_41 rfl (by decide) rfl (by decide) (by decide) rfl (by decide) rfl ?_
  refine g_iincv (v := 6) dX1_init_42 rfl rfl (by decide) rfl ?_
  refine g_goto (tgt := 20) dX1_init_45 (by decide) ?_
  refine g_iload_n dX1_init_20 rfl ?_
  refine g_aload_n dX1_init_21 rfl ?_
  refine g_gR (r := 22) dX1_init_22 fl_X1_11 (fun _ _ => rfl) rfl (by decide) rfl ?_
  refine g_alen (n := 7) dX1_init_25 rfl (by decide) (by decide) ?_
  refine g_icmp_ge (tgt := 48) dX1_init_26 (by decide) (fun c => absurd c (by decide)) (fun c => ?_)
  refine g_aload_n dX1_init_29 rfl ?_
  refine g_gR (r := 22) dX1_init_30 fl_X1_11 (fun _ _ => rfl) rfl (by decide) rfl ?_
  refine g_iload_n dX1_init_33 rfl ?_
  refine g_new (n := 119) dX1_init_34 cl_X1_9 nc_X4 rfl (by (repeat (first | rw [iF_hi (by omega)] | rw [f1_hi (by omega)] | rw [f5_hi (by omega)])); exact hF _ (by omega)) (by (repeat (first | rw [rW1 (by omega)] | rw [iR_hi (by omega) (by omega)] | rw [r1_hi (by omega)] | rw [r5_hi (by omega)] | rw [r3_hi (by omega)])); exact hR _ (by omega)) ?_
  rw [show (mSH L).take 119 ++ [.inl 4] = (mSH L).take 120 from rfl]
  refine g_dup dX1_init_37 rfl ?_
  refine g_IN0 dX1_init_38 ml_X1_21 sX4_init (Nat.le_of_ble_eq_true rfl) (c_roomN (L := L) (d) 120 119 _ _ rfl rfl rfl rfl (by decide) (by decide) (by (repeat (first | rw [iF_hi (by omega)] | rw [f1_hi (by omega)] | rw [f5_hi (by omega)])); exact hF _ (by omega)) (fun j hj => (by (repeat (first | rw [iF_hi (by omega)] | rw [f1_hi (by omega)] | rw [f5_hi (by omega)])); exact hF j (by omega))) (fun j hj => (by (repeat (first | rw [rW1 (by omega)] | rw [iR_hi (by omega) (by omega)] | rw [r1_hi (by omega)] | rw [r5_hi (by omega)] | rw [r3_hi (by omega)])); exact hR j (by omega)))) ?_
  refine g_aastW (gx := 6) dX1_init_41 rfl (by decide) rfl (by decide) (by decide) rfl (by decide) rfl ?_
  refine g_iincv (v := 7) dX1_init_42 rfl rfl (by decide) rfl ?_
  refine g_goto (tgt := 20) dX1_init_45 (by decide) ?_
  refine g_iload_n dX1_init_20 rfl ?_
  refine g_aload_n dX1_init_21 rfl ?_
  refine g_gR (r := 22) dX1_init_22 fl_X1_11 (fun _ _ => rfl) rfl (by decide) rfl ?_
  refine g_alen (n := 7) dX1_init_25 rfl (by decide) (by decide) ?_
  refine g_icmp_ge (tgt := 48) dX1_init_26 (by decide) (fun c => ?_) (fun c => absurd (by decide) c)
  exact g_vret dX1_init_48 rfl
def f5 (F : Nat → Nat → Int32) : Nat → Nat → Int32 := (iF (iF F 138) 154)
def r5 (R : Nat → Nat → Option Nat) : Nat → Nat → Option Nat := (rW (rW (rW (iR (rW (iR R 138 137) [(136, 0, 137)]) 154 153) [(136, 1, 153)]) [(135, 0, 136)]) [(135, 1, 169)])
theorem f5_hi {F : Nat → Nat → Int32} {j : Nat} (h : 170 ≤ j) : f5 F j = F j := by
  unfold f5
  repeat (first | rw [iF_hi (by omega)] | rw [pe_row (by omega)])
theorem r5_hi {R : Nat → Nat → Option Nat} {j : Nat} (h : 170 ≤ j) : r5 R j = R j := by
  unfold r5
  repeat (first | rw [rW1 (by omega)] | rw [iR_hi (by omega) (by omega)])
set_option maxHeartbeats 4000000 in
set_option maxRecDepth 100000 in
theorem c_init_X5 {L : Nat} (d : Nat) (F : Nat → Nat → Int32) (R : Nat → Nat → Option Nat) (hF0 : F 135 = fun _ => 0) (hF : ∀ j, 136 ≤ j → F j = fun _ => 0) (hR : ∀ j, 136 ≤ j → R j = fun _ => none) : mCall (d + 3) yX5_init MX5_init [.ref 135] ((mSH L).take 136, F, R) none ((mSH L).take 170, f5 F, r5 R) := by
  refine mCall_of sX5_init.1 (Nat.le_of_ble_eq_true rfl) rfl ?_
  show mGo _ _ (0, [some (.ref 135)], [], _) _
  refine g_aload_n dX5_init_0 rfl ?_
  refine g_obj dX5_init_1 ml_X5_3 wo_inst wo_code (Nat.le_of_ble_eq_true rfl) ?_
  refine g_aload_n dX5_init_4 rfl ?_
  refine g_iconstv (v := 2) dX5_init_5 rfl ?_
  refine g_newq (n := 136) (N := 2) dX5_init_6 cl_X5_9 (by decide) rfl (by decide) rfl (by (repeat (first | rw [rW1 (by omega)] | rw [iR_hi (by omega) (by omega)] | rw [r1_hi (by omega)] | rw [r5_hi (by omega)] | rw [r3_hi (by omega)])); exact hR _ (by omega)) ?_
  rw [show (mSH L).take 136 ++ [.inr (2, 2)] = (mSH L).take 137 from rfl]
  refine g_dup dX5_init_9 rfl ?_
  refine g_iconstv (v := 0) dX5_init_10 rfl ?_
  refine g_new (n := 137) dX5_init_11 cl_X5_9 nc_X4 rfl (by (repeat (first | rw [iF_hi (by omega)] | rw [f1_hi (by omega)] | rw [f5_hi (by omega)])); exact hF _ (by omega)) (by (repeat (first | rw [rW1 (by omega)] | rw [iR_hi (by omega) (by omega)] | rw [r1_hi (by omega)] | rw [r5_hi (by omega)] | rw [r3_hi (by omega)])); exact hR _ (by omega)) ?_
  rw [show (mSH L).take 137 ++ [.inl 4] = (mSH L).take 138 from rfl]
  refine g_dup dX5_init_14 rfl ?_
  refine g_callIN6 (ci := 0) (As := []) (n := 0) dX5_init_15 ml_X5_11 sX4_init rfl (by decide) (c_roomN (L := L) (d) 138 137 _ _ rfl rfl rfl rfl (by decide) (by decide) (by (repeat (first | rw [iF_hi (by omega)] | rw [f1_hi (by omega)] | rw [f5_hi (by omega)])); exact hF _ (by omega)) (fun j hj => (by (repeat (first | rw [iF_hi (by omega)] | rw [f1_hi (by omega)] | rw [f5_hi (by omega)])); exact hF j (by omega))) (fun j hj => (by (repeat (first | rw [rW1 (by omega)] | rw [iR_hi (by omega) (by omega)] | rw [r1_hi (by omega)] | rw [r5_hi (by omega)] | rw [r3_hi (by omega)])); exact hR j (by omega)))) ?_
  refine g_aastW (gx := 0) dX5_init_18 rfl (by decide) rfl (by decide) (by decide) rfl (by decide) rfl ?_
  refine g_dup dX5_init_19 rfl ?_
  refine g_iconstv (v := 1) dX5_init_20 rfl ?_
  refine g_new (n := 153) dX5_init_21 cl_X5_9 nc_X4 rfl (by (repeat (first | rw [iF_hi (by omega)] | rw [f1_hi (by omega)] | rw [f5_hi (by omega)])); exact hF _ (by omega)) (by (repeat (first | rw [rW1 (by omega)] | rw [iR_hi (by omega) (by omega)] | rw [r1_hi (by omega)] | rw [r5_hi (by omega)] | rw [r3_hi (by omega)])); exact hR _ (by omega)) ?_
  rw [show (mSH L).take 153 ++ [.inl 4] = (mSH L).take 154 from rfl]
  refine g_dup dX5_init_24 rfl ?_
  refine g_callIN6 (ci := 0) (As := []) (n := 0) dX5_init_25 ml_X5_11 sX4_init rfl (by decide) (c_roomN (L := L) (d) 154 153 _ _ rfl rfl rfl rfl (by decide) (by decide) (by (repeat (first | rw [iF_hi (by omega)] | rw [f1_hi (by omega)] | rw [f5_hi (by omega)])); exact hF _ (by omega)) (fun j hj => (by (repeat (first | rw [iF_hi (by omega)] | rw [f1_hi (by omega)] | rw [f5_hi (by omega)])); exact hF j (by omega))) (fun j hj => (by (repeat (first | rw [rW1 (by omega)] | rw [iR_hi (by omega) (by omega)] | rw [r1_hi (by omega)] | rw [r5_hi (by omega)] | rw [r3_hi (by omega)])); exact hR j (by omega)))) ?_
  refine g_aastW (gx := 1) dX5_init_28 rfl (by decide) rfl (by decide) (by decide) rfl (by decide) rfl ?_
  refine g_putW dX5_init_29 fl_X5_12 (Or.inr ⟨rfl, rfl, rfl⟩) rfl (by decide) (fun _ _ => rfl) (fun _ => ⟨rfl, rfl⟩) ?_
  refine g_aload_n dX5_init_32 rfl ?_
  refine g_iconstv (v := 2) dX5_init_33 rfl ?_
  refine g_newz (n := 169) (N := 2) dX5_init_34 (by decide) rfl (by decide) rfl (by (repeat (first | rw [iF_hi (by omega)] | rw [f1_hi (by omega)] | rw [f5_hi (by omega)])); exact hF _ (by omega)) wk_bool ?_
  rw [show (mSH L).take 169 ++ [.inr (1, 2)] = (mSH L).take 170 from rfl]
  refine g_putW dX5_init_36 fl_X5_18 (Or.inr ⟨rfl, rfl, rfl⟩) rfl (by decide) (fun _ _ => rfl) (fun _ => ⟨rfl, rfl⟩) ?_
  exact g_vret dX5_init_39 rfl
def f6 (F : Nat → Nat → Int32) : Nat → Nat → Int32 := (f5 (f1 (iF F 6)))
def r6 (R : Nat → Nat → Option Nat) : Nat → Nat → Option Nat := (rW (rW (rW (r5 (rW (r1 (rW (iR R 6 5) [(4, 0, 5)])) [(4, 1, 21)])) [(4, 2, 135)]) [(170, 0, 171)]) [(4, 3, 170)])
theorem f6_hi {F : Nat → Nat → Int32} {j : Nat} (h : 172 ≤ j) : f6 F j = F j := by
  unfold f6
  repeat (first | rw [iF_hi (by omega)] | rw [pe_row (by omega)] | rw [f1_hi (by omega)] | rw [f5_hi (by omega)])
theorem r6_hi {R : Nat → Nat → Option Nat} {j : Nat} (h : 172 ≤ j) : r6 R j = R j := by
  unfold r6
  repeat (first | rw [rW1 (by omega)] | rw [iR_hi (by omega) (by omega)] | rw [r1_hi (by omega)] | rw [r5_hi (by omega)])
set_option maxHeartbeats 4000000 in
set_option maxRecDepth 100000 in
theorem c_init_X6 {L : Nat} (d : Nat) (F : Nat → Nat → Int32) (R : Nat → Nat → Option Nat) (hF0 : F 4 = fun _ => 0) (hF : ∀ j, 5 ≤ j → F j = fun _ => 0) (hR : ∀ j, 5 ≤ j → R j = fun _ => none) : mCall (d + 4) yX6_init MX6_init [.ref 4] ((mSH L).take 5, F, R) none ((mSH L).take 172, f6 F, r6 R) := by
  refine mCall_of sX6_init.1 (Nat.le_of_ble_eq_true rfl) rfl ?_
  show mGo _ _ (0, [some (.ref 4)], [], _) _
  refine g_aload_n dX6_init_0 rfl ?_
  refine g_obj dX6_init_1 ml_X6_1 wo_inst wo_code (Nat.le_of_ble_eq_true rfl) ?_
  refine g_aload_n dX6_init_4 rfl ?_
  refine g_new (n := 5) dX6_init_5 cl_X6_7 nc_X4 rfl (by (repeat (first | rw [iF_hi (by omega)] | rw [f1_hi (by omega)] | rw [f5_hi (by omega)])); exact hF _ (by omega)) (by (repeat (first | rw [rW1 (by omega)] | rw [iR_hi (by omega) (by omega)] | rw [r1_hi (by omega)] | rw [r5_hi (by omega)] | rw [r3_hi (by omega)])); exact hR _ (by omega)) ?_
  rw [show (mSH L).take 5 ++ [.inl 4] = (mSH L).take 6 from rfl]
  refine g_dup dX6_init_8 rfl ?_
  refine g_IN0 dX6_init_9 ml_X6_9 sX4_init (Nat.le_of_ble_eq_true rfl) (c_roomN (L := L) (d + 1) 6 5 _ _ rfl rfl rfl rfl (by decide) (by decide) (by (repeat (first | rw [iF_hi (by omega)] | rw [f1_hi (by omega)] | rw [f5_hi (by omega)])); exact hF _ (by omega)) (fun j hj => (by (repeat (first | rw [iF_hi (by omega)] | rw [f1_hi (by omega)] | rw [f5_hi (by omega)])); exact hF j (by omega))) (fun j hj => (by (repeat (first | rw [rW1 (by omega)] | rw [iR_hi (by omega) (by omega)] | rw [r1_hi (by omega)] | rw [r5_hi (by omega)] | rw [r3_hi (by omega)])); exact hR j (by omega)))) ?_
  refine g_putW dX6_init_12 fl_X6_10 (Or.inr ⟨rfl, rfl, rfl⟩) rfl (by decide) (fun _ _ => rfl) (fun _ => ⟨rfl, rfl⟩) ?_
  refine g_aload_n dX6_init_15 rfl ?_
  refine g_new (n := 21) dX6_init_16 cl_X6_16 nc_X1 rfl (by (repeat (first | rw [iF_hi (by omega)] | rw [f1_hi (by omega)] | rw [f5_hi (by omega)])); exact hF _ (by omega)) (by (repeat (first | rw [rW1 (by omega)] | rw [iR_hi (by omega) (by omega)] | rw [r1_hi (by omega)] | rw [r5_hi (by omega)] | rw [r3_hi (by omega)])); exact hR _ (by omega)) ?_
  rw [show (mSH L).take 21 ++ [.inl 1] = (mSH L).take 22 from rfl]
  refine g_dup dX6_init_19 rfl ?_
  refine g_I0 dX6_init_20 ml_X6_18 sX1_init (Nat.le_of_ble_eq_true rfl) (c_init_X1 (L := L) d _ _ (by (repeat (first | rw [iF_hi (by omega)] | rw [f1_hi (by omega)] | rw [f5_hi (by omega)])); exact hF _ (by omega)) (fun j hj => (by (repeat (first | rw [iF_hi (by omega)] | rw [f1_hi (by omega)] | rw [f5_hi (by omega)])); exact hF j (by omega))) (fun j hj => (by (repeat (first | rw [rW1 (by omega)] | rw [iR_hi (by omega) (by omega)] | rw [r1_hi (by omega)] | rw [r5_hi (by omega)] | rw [r3_hi (by omega)])); exact hR j (by omega)))) ?_
  refine g_putW dX6_init_23 fl_X6_19 (Or.inr ⟨rfl, rfl, rfl⟩) rfl (by decide) (fun _ _ => rfl) (fun _ => ⟨rfl, rfl⟩) ?_
  refine g_aload_n dX6_init_26 rfl ?_
  refine g_new (n := 135) dX6_init_27 cl_X6_23 nc_X5 rfl (by (repeat (first | rw [iF_hi (by omega)] | rw [f1_hi (by omega)] | rw [f5_hi (by omega)])); exact hF _ (by omega)) (by (repeat (first | rw [rW1 (by omega)] | rw [iR_hi (by omega) (by omega)] | rw [r1_hi (by omega)] | rw [r5_hi (by omega)] | rw [r3_hi (by omega)])); exact hR _ (by omega)) ?_
  rw [show (mSH L).take 135 ++ [.inl 5] = (mSH L).take 136 from rfl]
  refine g_dup dX6_init_30 rfl ?_
  refine g_IN0 dX6_init_31 ml_X6_25 sX5_init (Nat.le_of_ble_eq_true rfl) (c_init_X5 (L := L) d _ _ (by (repeat (first | rw [iF_hi (by omega)] | rw [f1_hi (by omega)] | rw [f5_hi (by omega)])); exact hF _ (by omega)) (fun j hj => (by (repeat (first | rw [iF_hi (by omega)] | rw [f1_hi (by omega)] | rw [f5_hi (by omega)])); exact hF j (by omega))) (fun j hj => (by (repeat (first | rw [rW1 (by omega)] | rw [iR_hi (by omega) (by omega)] | rw [r1_hi (by omega)] | rw [r5_hi (by omega)] | rw [r3_hi (by omega)])); exact hR j (by omega)))) ?_
  refine g_putW dX6_init_34 fl_X6_26 (Or.inr ⟨rfl, rfl, rfl⟩) rfl (by decide) (fun _ _ => rfl) (fun _ => ⟨rfl, rfl⟩) ?_
  refine g_aload_n dX6_init_37 rfl ?_
  refine g_new (n := 170) dX6_init_38 cl_X6_30 nc_X3 rfl (by (repeat (first | rw [iF_hi (by omega)] | rw [f1_hi (by omega)] | rw [f5_hi (by omega)])); exact hF _ (by omega)) (by (repeat (first | rw [rW1 (by omega)] | rw [iR_hi (by omega) (by omega)] | rw [r1_hi (by omega)] | rw [r5_hi (by omega)] | rw [r3_hi (by omega)])); exact hR _ (by omega)) ?_
  rw [show (mSH L).take 170 ++ [.inl 3] = (mSH L).take 171 from rfl]
  refine g_dup dX6_init_41 rfl ?_
  refine g_IN0 dX6_init_42 ml_X6_32 sX3_init (Nat.le_of_ble_eq_true rfl) (c_init_X3 (sh := (mSH L).take 171) (d + 2) 171 170 rfl rfl (by decide) (by (repeat (first | rw [iF_hi (by omega)] | rw [f1_hi (by omega)] | rw [f5_hi (by omega)])); exact hF _ (by omega)) (fun j hj => (by (repeat (first | rw [iF_hi (by omega)] | rw [f1_hi (by omega)] | rw [f5_hi (by omega)])); exact hF j (by omega)))) ?_
  rw [show (mSH L).take 171 ++ [.inr (0, 80)] = (mSH L).take 172 from rfl]
  refine g_putW dX6_init_45 fl_X6_33 (Or.inr ⟨rfl, rfl, rfl⟩) rfl (by decide) (fun _ _ => rfl) (fun _ => ⟨rfl, rfl⟩) ?_
  exact g_vret dX6_init_48 rfl
end
section
theorem rW_k {R : Nat → Nat → Option Nat} {l : List (Nat × Nat × Nat)} {j k : Nat} (h : ∀ q ∈ l, k ≠ q.2.1) : rW R l j k = R j k := by
  induction l generalizing R with
  | nil => rfl
  | cons q l ih =>
    show rW (va_up R q.1 (va_up (R q.1) q.2.1 (some q.2.2))) l j k = R j k
    rw [ih (fun r hr => h r (List.mem_cons_of_mem _ hr))]
    by_cases e : j = q.1
    · subst e
      rw [va_up_self]
      exact va_up_ne _ _ (h q List.mem_cons_self)
    · rw [va_up_ne _ _ e]
theorem rW_k1 {R : Nat → Nat → Option Nat} {a b c j k : Nat} (h : b < 16) (hk : 16 ≤ k) : rW R [(a, b, c)] j k = R j k := rW_k (fun q hq => by
  simp only [List.mem_cons, List.not_mem_nil, or_false] at hq
  subst hq
  simp only
  omega)
theorem iR_k {R : Nat → Nat → Option Nat} {n b j k : Nat} (hk : 16 ≤ k) : iR R n b j k = R j k := by
  unfold iR
  apply rW_k
  intro q hq
  simp only [List.mem_cons, List.not_mem_nil, or_false] at hq
  rcases hq with rfl | rfl | rfl | rfl | rfl | rfl | rfl | rfl | rfl | rfl | rfl | rfl | rfl | rfl | rfl <;> (simp only; omega)
theorem r1_k {R : Nat → Nat → Option Nat} {j k : Nat} (hk : 16 ≤ k) : r1 R j k = R j k := by
  unfold r1
  repeat (first | rw [rW_k1 (by decide) hk] | rw [iR_k hk])
theorem r5_k {R : Nat → Nat → Option Nat} {j k : Nat} (hk : 16 ≤ k) : r5 R j k = R j k := by
  unfold r5
  repeat (first | rw [rW_k1 (by decide) hk] | rw [iR_k hk])
theorem r6_k {R : Nat → Nat → Option Nat} {j k : Nat} (hk : 16 ≤ k) : r6 R j k = R j k := by
  unfold r6
  repeat (first | rw [rW_k1 (by decide) hk] | rw [iR_k hk] | rw [r1_k hk] | rw [r5_k hk])
def g0 (i : Nat) : Option Nat := if i < 7 then some (23 + 16 * i) else none
theorem mR_fin : ∀ c, c < 173 → ∀ k, k < 16 → r6 (fun _ _ => none) c k = mRF g0 c k := by decide +kernel
theorem mRL_len : ∀ l ∈ mRL, l.length ≤ 16 := by decide +kernel
theorem mR0_k {c k : Nat} (h : 16 ≤ k) : mR0 c k = none := by
  have e : (mRL.getD c []).getD k 0 = 0 := by
    have hl : (mRL.getD c []).length ≤ 16 := by
      rw [List.getD_eq_getElem?_getD]
      cases hq : mRL[c]? with
      | none => simp
      | some l => exact mRL_len l (List.mem_of_getElem? hq)
    rw [List.getD_eq_getElem?_getD, List.getElem?_eq_none (by omega)]
    rfl
  unfold mR0
  rw [e]
theorem mR0_c {c k : Nat} (h : 173 ≤ c) : mR0 c k = none := by
  have e : mRL.getD c [] = [] := by
    rw [List.getD_eq_getElem?_getD, List.getElem?_eq_none (Nat.le_trans (by decide +kernel) h)]
    rfl
  unfold mR0
  rw [e]
  rfl
/-- the references behind the constructors -/
theorem mR_start : r6 (fun _ _ => none) = mRF g0 := by
  funext c k
  by_cases hc : c < 173
  · by_cases hk : k < 16
    · exact mR_fin c hc k hk
    · rw [r6_k (by omega)]
      by_cases h22 : c = 22
      · subst h22
        show none = g0 k
        rw [g0, if_neg (by omega)]
      · simp only [mRF, if_neg h22]
        exact (mR0_k (by omega)).symm
  · rw [show r6 (fun _ _ => none) c = (fun _ => none) from by rw [r6_hi (by omega)]]
    simp only [mRF, if_neg (show c ≠ 22 by omega)]
    exact (mR0_c (by omega)).symm
end
section
/-! the rows that a public call's answer can show (room, slots, statics) and the rest (histories, pad) apart: what is said 'for all Z' is the same whatever the rest holds -/
def inS (c : Nat) : Bool := Nat.ble c 20 || (Nat.ble 135 c && Nat.ble c 169)
def mx (F Z : Nat → Nat → Int32) (c : Nat) : Nat → Int32 := cond (inS c) (F c) (Z c)
theorem mx_in {F Z : Nat → Nat → Int32} {c : Nat} (h : inS c = true) : mx F Z c = F c := by
  unfold mx
  rw [h]
  rfl
theorem mx_out {F Z : Nat → Nat → Int32} {c : Nat} (h : inS c = false) : mx F Z c = Z c := by
  unfold mx
  rw [h]
  rfl
theorem inS_lo {c : Nat} (h : c ≤ 20) : inS c = true := by
  unfold inS
  rw [Nat.ble_eq.mpr h]
  rfl
theorem inS_hi {c : Nat} (h : 135 ≤ c) (h2 : c ≤ 169) : inS c = true := by
  unfold inS
  rw [Nat.ble_eq.mpr h, Nat.ble_eq.mpr h2]
  simp
theorem inS_or {c : Nat} (h : inS c = true) : c ≤ 20 ∨ (135 ≤ c ∧ c ≤ 169) := by
  unfold inS at h
  rcases Bool.or_eq_true_iff.mp h with h | h
  · exact Or.inl (Nat.ble_eq.mp h)
  · exact Or.inr ⟨Nat.ble_eq.mp (Bool.and_eq_true_iff.mp h).1, Nat.ble_eq.mp (Bool.and_eq_true_iff.mp h).2⟩
theorem inS_no {c : Nat} (h : 20 < c) (h2 : c < 135 ∨ 169 < c) : inS c = false := by
  cases e : inS c with
  | false => rfl
  | true => have := inS_or e; omega
theorem mx_of {A F : Nat → Nat → Int32} (h : ∀ c, inS c = true → A c = F c) : A = mx F A := by
  funext c
  cases e : inS c with
  | true => rw [mx_in e, h c e]
  | false => rw [mx_out e]
theorem mx_of2 {A F Z : Nat → Nat → Int32} (h : ∀ c, inS c = true → A c = F c) (h2 : ∀ c, inS c = false → A c = Z c) : A = mx F Z := by
  funext c
  cases e : inS c with
  | true => rw [mx_in e, h c e]
  | false => rw [mx_out e, h2 c e]
theorem mx_pe {F Z : Nat → Nat → Int32} {c k : Nat} {v : Int32} (h : inS c = true) : pe (mx F Z) c k v = mx (pe F c k v) Z := by
  refine mx_of2 (fun a ha => ?_) (fun a ha => ?_)
  · by_cases e : a = c
    · subst e
      rw [pe_self, pe_self, mx_in h]
    · rw [pe_row e, pe_row e, mx_in ha]
  · have e : a ≠ c := fun q => by rw [q, h] at ha; cases ha
    rw [pe_row e, mx_out ha]
theorem mx_peo {F Z : Nat → Nat → Int32} {c k : Nat} {v : Int32} (h : inS c = false) : pe (mx F Z) c k v = mx F (pe Z c k v) := by
  refine mx_of2 (fun a ha => ?_) (fun a ha => ?_)
  · have e : a ≠ c := fun q => by rw [q, h] at ha; cases ha
    rw [pe_row e, mx_in ha]
  · by_cases e : a = c
    · subst e
      rw [pe_self, pe_self, mx_out h]
    · rw [pe_row e, pe_row e, mx_out ha]
theorem mx_cpB {F Z : Nat → Nat → Int32} {a b sx dx n : Nat} (h : inS a = true) (h2 : inS b = true) : cpB (mx F Z) a b sx dx n = mx (cpB F a b sx dx n) Z := by
  refine mx_of2 (fun c hc => ?_) (fun c hc => ?_)
  · by_cases e : c = a
    · subst e
      unfold cpB
      rw [va_up_self, va_up_self, mx_in h, mx_in h2]
    · rw [cpB_row e, cpB_row e, mx_in hc]
  · have e : c ≠ a := fun q => by rw [q, h] at hc; cases hc
    rw [cpB_row e, mx_out hc]
/-! the heap's picture counts below the lengths alone -/
def mVv (s : mShp) (k : Nat) : Prop := match s with
  | .inl ci => k < mN ci ∧ (mty ci k = .int ∨ mty ci k = .boolean)
  | .inr (_, n) => k < n
theorem mfv_ext {ty : FieldType} {x y : Int32} {r : Option Nat} (h : ty = .int ∨ ty = .boolean → x = y) : mfv ty x r = mfv ty y r := by
  by_cases e : ty = .int ∨ ty = .boolean
  · rw [h e]
  · unfold mfv
    split
    · exact absurd (Or.inl rfl) e
    · exact absurd (Or.inr rfl) e
    · rfl
theorem arrV_ext {c : ClassId} {n : Nat} {f f' : Nat → Value} (h : ∀ j, j < n → f j = f' j) : arrV c n f = arrV c n f' := by
  unfold arrV
  have e : (fun j : Fin n => f j.val) = fun j : Fin n => f' j.val := funext fun j => h j.val j.isLt
  rw [e]
theorem mP_ext {base : Nat} {spa : Nat → Nat} {cm : Nat → ClassId} {D : va_G} {cl : List vw_C} {sh : List mShp} {F F' : Nat → Nat → Int32} {R : Nat → Nat → Option Nat} {H : Heap} (he : ∀ j s, 4 ≤ j → sh[j]? = some s → ∀ k, mVv s k → F j k = F' j k) (h : va_P D cl (mW base spa cm (sh, F, R)) H) : va_P D cl (mW base spa cm (sh, F', R)) H := by
  intro k q hk
  obtain ⟨h1, -⟩ := mW_at hk
  have h1' : k < sh.length - 4 := h1
  obtain ⟨s, hs⟩ : ∃ s, sh[k + 4]? = some s := ⟨_, List.getElem?_eq_getElem (by omega)⟩
  have g1 := mW_get (base := base) (spa := spa) (cm := cm) (hp := (sh, F, R)) (j := k + 4) (by omega) hs
  have g2 := mW_get (base := base) (spa := spa) (cm := cm) (hp := (sh, F', R)) (j := k + 4) (by omega) hs
  rw [show k + 4 - 4 = k by omega] at g1 g2
  obtain rfl := Option.some.inj (hk.symm.trans g2)
  have h2 := h k _ g1
  have he2 := he (k + 4) s (by omega) hs
  cases s with
  | inl ci =>
    have e : (List.range (mN ci)).map (fun i => mtv base spa (mfv (mty ci i) (F (k + 4) i) (R (k + 4) i))) = (List.range (mN ci)).map (fun i => mtv base spa (mfv (mty ci i) (F' (k + 4) i) (R (k + 4) i))) := by
      apply List.map_congr_left
      intro i hi
      rw [mfv_ext (x := F (k + 4) i) (y := F' (k + 4) i) (fun z => he2 i ⟨List.mem_range.mp hi, z⟩)]
    show va_at D cl (base + k, .inr (ci, (List.range (mN ci)).map (fun i => mtv base spa (mfv (mty ci i) (F' (k + 4) i) (R (k + 4) i))))) H
    rw [← e]
    exact h2
  | inr q =>
    obtain ⟨t, n⟩ := q
    by_cases ht : t = 2
    · subst ht
      exact h2
    · have e1 : mce base spa cm F R (k + 4) (.inr (t, n)) = .inl (cm t, n, .inl (F (k + 4))) := if_neg ht
      have e2 : mce base spa cm F' R (k + 4) (.inr (t, n)) = .inl (cm t, n, .inl (F' (k + 4))) := if_neg ht
      have e3 : vp_cell (cm t) (n, .inl (F (k + 4))) = vp_cell (cm t) (n, .inl (F' (k + 4))) := arrV_ext (fun j hj => congrArg Value.int (he2 j hj))
      simp only [e1] at h2
      simp only [e2]
      have h3 : H[base + k]? = some (vp_cell (cm t) (n, .inl (F (k + 4)))) := h2
      show H[base + k]? = some (vp_cell (cm t) (n, .inl (F' (k + 4))))
      rw [← e3]
      exact h3
theorem mGo_ext {M : mM} {d pc : Nat} {L : mLs} {st : List Value} {sh : List mShp} {F F' : Nat → Nat → Int32} {R : Nat → Nat → Option Nat} {out : mOut} (h4 : ∀ j, j < 4 → F j = F' j) (he : ∀ j s, 4 ≤ j → sh[j]? = some s → ∀ k, mVv s k → F j k = F' j k) (k : mGo M d (pc, L, st, (sh, F', R)) out) : mGo M d (pc, L, st, (sh, F, R)) out := by
  refine ⟨k.1, ?_⟩
  intro base spa spn spf cm D p l e R s m args below meth c Q cE sE H locs cells slots ls hX hfr hlo hcE hsE hK hc hs hD hS hL
  refine k.2 base spa spn spf cm D p l e R s m args below meth c Q cE sE H locs cells slots ls hX hfr hlo hcE hsE hK hc hs ⟨hD.1, hD.2.1, mP_ext he hD.2.2.1, fun j hj => ⟨(hD.2.2.2 j hj).1, ?_⟩⟩ hS hL
  show F' j = spf j
  rw [← h4 j hj]
  exact (hD.2.2.2 j hj).2
/-- the room's rows: what lies in its cells below their lengths -/
theorem mVal_room {L c j : Nat} {s : mShp} (hc : c < 16) (hs : (mSH L)[5 + c]? = some s) (hv : mVv s j) : mVal c j := by
  rcases (by omega : c = 0 ∨ c = 1 ∨ c = 2 ∨ c = 3 ∨ c = 4 ∨ c = 5 ∨ c = 6 ∨ c = 7 ∨ c = 8 ∨ c = 9 ∨ c = 10 ∨ c = 11 ∨ c = 12 ∨ c = 13 ∨ c = 14 ∨ c = 15) with rfl | rfl | rfl | rfl | rfl | rfl | rfl | rfl | rfl | rfl | rfl | rfl | rfl | rfl | rfl | rfl
  · cases hs
    obtain ⟨h1, h2⟩ := hv
    have h1' : j < 6 := h1
    rcases (by omega : j = 0 ∨ j = 1 ∨ j = 2 ∨ j = 3 ∨ j = 4 ∨ j = 5) with rfl | rfl | rfl | rfl | rfl | rfl
    · rfl
    all_goals (rcases h2 with h2 | h2 <;> cases h2)
  · cases hs; exact hv
  · cases hs
    obtain ⟨h1, h2⟩ := hv
    have h1' : j < 7 := h1
    rcases (by omega : j = 0 ∨ j = 1 ∨ j = 2 ∨ j = 3 ∨ j = 4 ∨ j = 5 ∨ j = 6) with rfl | rfl | rfl | rfl | rfl | rfl | rfl
    · rfl
    all_goals (rcases h2 with h2 | h2 <;> cases h2)
  · cases hs; exact hv
  · cases hs; exact hv
  · cases hs; exact hv
  · cases hs; exact hv
  · cases hs; exact hv
  · cases hs; exact hv
  · cases hs
    obtain ⟨h1, h2⟩ := hv
    have h1' : j < 5 := h1
    rcases (by omega : j = 0 ∨ j = 1 ∨ j = 2 ∨ j = 3 ∨ j = 4) with rfl | rfl | rfl | rfl | rfl
    · rcases h2 with h2 | h2 <;> cases h2
    · rcases h2 with h2 | h2 <;> cases h2
    · rcases h2 with h2 | h2 <;> cases h2
    · rcases h2 with h2 | h2 <;> cases h2
    · rfl
  · cases hs; exact hv
  · cases hs; exact hv
  · cases hs; exact hv
  · cases hs; exact hv
  · cases hs; exact hv
  · cases hs; exact hv
/-- a heap whose room is F's below the lengths, is F's room -/
theorem mGo_room {M : mM} {d pc Ln : Nat} {L : mLs} {st : List Value} {A F : Nat → Nat → Int32} {g : Nat → Option Nat} {out : mOut} (he : ∀ c j, c < 16 → mVal c j → A (5 + c) j = F (5 + c) j) (ho : ∀ c, inS c = true → (c < 5 ∨ 20 < c) → A c = F c) (k : mGo M d (pc, L, st, mHX Ln (mx F A) g) out) : mGo M d (pc, L, st, mHX Ln A g) out := by
  refine mGo_ext (F' := mx F A) (fun j hj => ?_) (fun j s _ hs i hv => ?_) k
  · rw [mx_in (inS_lo (by omega)), ho j (inS_lo (by omega)) (Or.inl (by omega))]
  · cases e : inS j with
    | false => rw [mx_out e]
    | true =>
      rw [mx_in e]
      by_cases h : 5 ≤ j ∧ j ≤ 20
      · obtain ⟨c, rfl⟩ : ∃ c, j = 5 + c := ⟨j - 5, by omega⟩
        exact he c i (by omega) (mVal_room (by omega) hs hv)
      · rw [ho j e (by omega)]
end
section
/-! bits (out of the kit's BITS.to-paste), sets, hosts, companies, lenders, meanings: facts of the class's own counting -/
def bt (x : Int32) (i : Nat) : Bool := x.toBitVec.getLsbD i
theorem b_ext {x y : Int32} (h : ∀ i, i < 32 → bt x i = bt y i) : x = y := Int32.toBitVec_inj.mp (BitVec.eq_of_getLsbD_eq (fun i hi => h i hi))
theorem b_or (x y : Int32) (i : Nat) : bt (x ||| y) i = (bt x i || bt y i) := by unfold bt; rw [Int32.toBitVec_or, BitVec.getLsbD_or]
theorem b_and (x y : Int32) (i : Nat) : bt (x &&& y) i = (bt x i && bt y i) := by unfold bt; rw [Int32.toBitVec_and, BitVec.getLsbD_and]
theorem b_big {x : Int32} {i : Nat} (h : 32 ≤ i) : bt x i = false := BitVec.getLsbD_of_ge _ _ h
theorem b_0 (i : Nat) : bt 0 i = false := BitVec.getLsbD_zero
theorem s_l : ∀ n, n < 32 → ((nI n &&& 31).toBitVec.smod 32).toNat = n := by decide +kernel
theorem b_shl (n : Nat) (hn : n < 32) (x : Int32) {i : Nat} (hi : i < 32) : bt (x <<< (nI n &&& 31)) i = (decide (n ≤ i) && bt x (i - n)) := by
  unfold bt
  rw [Int32.toBitVec_shiftLeft]
  show (x.toBitVec <<< ((nI n &&& 31).toBitVec.smod 32).toNat).getLsbD i = _
  rw [s_l n hn, BitVec.getLsbD_shiftLeft]
  rcases Nat.lt_or_ge i n with h | h
  · simp [h, Nat.not_le.mpr h]
  · simp [hi, h, Nat.not_lt.mpr h]
theorem b_sshr (n : Nat) (hn : n < 32) (x : Int32) {i : Nat} (hi : i < 32) : bt (x >>> (nI n &&& 31)) i = if n + i < 32 then bt x (n + i) else bt x 31 := by
  unfold bt
  rw [Int32.toBitVec_shiftRight]
  show (x.toBitVec.sshiftRight ((nI n &&& 31).toBitVec.smod 32).toNat).getLsbD i = _
  rw [s_l n hn, BitVec.getLsbD_sshiftRight, BitVec.msb_eq_getLsbD_last]
  simp [hi]
theorem bt_one : ∀ j, j < 32 → bt 1 j = decide (j = 0) := by decide +kernel
theorem bt_pow {n i : Nat} (hn : n < 32) (hi : i < 32) : bt ((1 : Int32) <<< (nI n &&& 31)) i = decide (i = n) := by
  rw [b_shl n hn 1 hi]
  by_cases h : n ≤ i
  · rw [bt_one _ (by omega)]
    by_cases e : i = n
    · subst e
      simp
    · simp [h, e, show ¬ i - n = 0 by omega]
  · simp [h, show ¬ i = n by omega]
theorem bt_sSet {P : Nat → Int32} {t : Int32} : ∀ n, n ≤ 31 → ∀ i, i < 32 → bt (sSet P t n) i = (decide (i < n) && decide (P i = t)) := by
  intro n
  induction n with
  | zero =>
    intro _ i hi
    show bt 0 i = _
    rw [b_0]
    simp
  | succ n ih =>
    intro hn i hi
    have e : sSet P t (n + 1) = if P n = t then sSet P t n ||| ((1 : Int32) <<< (nI n &&& 31)) else sSet P t n := rfl
    rw [e]
    have ih' := ih (by omega) i hi
    by_cases h : i = n
    · subst h
      split
      · next q => rw [b_or, ih', bt_pow (by omega) hi]; simp [q]
      · next q => rw [ih']; simp [q]
    · have e1 : decide (i < n + 1) = decide (i < n) := by
        by_cases z : i < n
        · simp [z, show i < n + 1 by omega]
        · simp [z, show ¬ i < n + 1 by omega]
      rw [e1]
      split
      · rw [b_or, ih', bt_pow (by omega) hi]
        simp [h]
      · exact ih'
theorem sSet_0 {P : Nat → Int32} {t : Int32} {n : Nat} (h : n ≤ 31) : sSet P t n = 0 ↔ ∀ k, k < n → ¬ P k = t := by
  constructor
  · intro e k hk hp
    have := bt_sSet (P := P) (t := t) n h k (by omega)
    rw [e, b_0] at this
    simp [hk, hp] at this
  · intro e
    apply b_ext
    intro i hi
    rw [bt_sSet n h i hi, b_0]
    by_cases hk : i < n
    · simp [e i hk]
    · simp [hk]
theorem bt_test {x : Int32} {k : Nat} (hk : k < 31) : ((x >>> (nI k &&& 31)) &&& 1 = 1) ↔ bt x k = true := by
  have hz : ∀ i, i < 32 → bt ((x >>> (nI k &&& 31)) &&& 1) i = (decide (i = 0) && bt x k) := by
    intro i hi
    rw [b_and, bt_one i hi, b_sshr k (by omega) x hi]
    by_cases e : i = 0
    · subst e
      simp [show k < 32 by omega]
    · simp [e]
  constructor
  · intro e
    have := hz 0 (by decide)
    rw [e, bt_one 0 (by decide)] at this
    simpa using this.symm
  · intro e
    apply b_ext
    intro i hi
    rw [hz i hi, bt_one i hi, e]
    simp
/-! the host -/
def nR (Q : Nat → Int32) (q : Nat → Nat) (n : Nat) : Prop := ∀ k, k < n → Q k = nI (q k) ∧ 1 ≤ q k ∧ q k ≤ 9
theorem host_step {P Q : Nat → Int32} {q : Nat → Nat} {t : Int32} {n : Nat} (hq : nR Q q n) : ∀ k, k ≤ n → ((mfold (sHostF P Q t) (-6, 0) k).1 = (-6) ∧ (mfold (sHostF P Q t) (-6, 0) k).2 = nI 0 ∧ ∀ j, j < k → ¬ P j = t) ∨ ∃ h, h < k ∧ (mfold (sHostF P Q t) (-6, 0) k).1 = nI h ∧ (mfold (sHostF P Q t) (-6, 0) k).2 = Q h ∧ P h = t ∧ ∀ j, j < k → P j = t → q j ≤ q h := by
  intro k
  induction k with
  | zero => exact fun _ => Or.inl ⟨rfl, rfl, fun j hj => absurd hj (Nat.not_lt_zero j)⟩
  | succ k ih =>
    intro hk
    have ih' := ih (by omega)
    rw [mfold_succ]
    generalize mfold (sHostF P Q t) (-6, 0) k = a at ih'
    obtain ⟨a1, a2⟩ := a
    simp only at ih'
    have hr := hq k (by omega)
    by_cases hp : P k = t
    · rcases ih' with ⟨e1, e2, e3⟩ | ⟨h, h1, h2, h3, h4, h5⟩
      · right
        have hn : ¬ Q k ≤ a2 := by
          rw [e2, hr.1]
          exact nI_ge (by omega) (by omega)
        simp only [sHostF, hp, if_true, hn, if_false]
        refine ⟨k, Nat.lt_succ_self k, rfl, rfl, hp, fun j hj hj2 => ?_⟩
        by_cases e : j = k
        · rw [e]; exact Nat.le_refl _
        · exact absurd hj2 (e3 j (by omega))
      · right
        have hh := hq h (by omega)
        by_cases hc : q k ≤ q h
        · have hn : Q k ≤ a2 := by
            rw [h3, hr.1, hh.1]
            exact nI_le hc (by omega)
          simp only [sHostF, hp, if_true, hn]
          refine ⟨h, by omega, h2, h3, h4, fun j hj hj2 => ?_⟩
          by_cases e : j = k
          · rw [e]; exact hc
          · exact h5 j (by omega) hj2
        · have hn : ¬ Q k ≤ a2 := by
            rw [h3, hr.1, hh.1]
            exact nI_ge (by omega) (by omega)
          simp only [sHostF, hp, if_true, hn, if_false]
          refine ⟨k, Nat.lt_succ_self k, rfl, rfl, hp, fun j hj hj2 => ?_⟩
          by_cases e : j = k
          · rw [e]; exact Nat.le_refl _
          · have := h5 j (by omega) hj2
            omega
    · simp only [sHostF, hp, if_false]
      rcases ih' with ⟨e1, e2, e3⟩ | ⟨h, h1, h2, h3, h4, h5⟩
      · left
        refine ⟨e1, e2, fun j hj => ?_⟩
        by_cases e : j = k
        · rw [e]; exact hp
        · exact e3 j (by omega)
      · right
        refine ⟨h, by omega, h2, h3, h4, fun j hj hj2 => ?_⟩
        by_cases e : j = k
        · rw [e] at hj2; exact absurd hj2 hp
        · exact h5 j (by omega) hj2
theorem host_spec {P Q : Nat → Int32} {q : Nat → Nat} {t : Int32} {n : Nat} (hq : nR Q q n) : (sHost P Q t n = (-6) ∧ ∀ j, j < n → ¬ P j = t) ∨ ∃ h, h < n ∧ sHost P Q t n = nI h ∧ P h = t ∧ ∀ j, j < n → P j = t → q j ≤ q h := by
  rcases host_step (P := P) (t := t) hq n (Nat.le_refl n) with ⟨e1, -, e3⟩ | ⟨h, h1, h2, -, h4, h5⟩
  · exact Or.inl ⟨e1, e3⟩
  · exact Or.inr ⟨h, h1, h2, h4, h5⟩
/-! the company -/
theorem comp_step {P Q : Nat → Int32} {t : Int32} : ∀ k, k ≤ 10 → ∃ h, h ≤ k ∧ (mfold (sCompF P Q t (-6)) (0, 0, 1) k).1 = nI h ∧ (h = 0 ↔ ∀ j, j < k → ¬ P j = t) := by
  intro k
  induction k with
  | zero => exact fun _ => ⟨0, Nat.le_refl _, rfl, by simp⟩
  | succ k ih =>
    intro hk
    obtain ⟨h, h1, h2, h3⟩ := ih (by omega)
    rw [mfold_succ]
    by_cases hp : P k = t
    · refine ⟨h + 1, by omega, ?_, ?_⟩
      · have e : (sCompF P Q t (-6) (mfold (sCompF P Q t (-6)) (0, 0, 1) k) k).1 = (mfold (sCompF P Q t (-6)) (0, 0, 1) k).1 + 1 := by
          unfold sCompF
          rw [if_pos hp, if_neg (m_ne6 (by omega))]
        rw [e, h2]
        exact nI_1 h
      · constructor
        · intro z; omega
        · intro z; exact absurd hp (z k (by omega))
    · refine ⟨h, by omega, ?_, ?_⟩
      · unfold sCompF
        rw [if_neg hp]
        exact h2
      · rw [h3]
        constructor
        · intro z j hj
          by_cases e : j = k
          · rw [e]; exact hp
          · exact z j (by omega)
        · intro z j hj
          exact z j (by omega)
theorem comp_le {P Q : Nat → Int32} {t : Int32} {n : Nat} (h10 : n ≤ 10) : ∃ c, c ≤ 4 ∧ sComp P Q t (-6) n = nI c ∧ (c = 0 ↔ ∀ j, j < n → ¬ P j = t) := by
  obtain ⟨h, h1, h2, h3⟩ := comp_step (P := P) (Q := Q) (t := t) n h10
  unfold sComp
  rw [h2]
  by_cases q : 3 ≤ h
  · rw [if_pos (show (3 : Int32) ≤ nI h from nI_le q (by omega))]
    split
    · exact ⟨4, by decide, rfl, by rw [← h3]; omega⟩
    · exact ⟨3, by decide, rfl, by rw [← h3]; omega⟩
  · rw [if_neg (show ¬ (3 : Int32) ≤ nI h from nI_ge (a := h) (b := 3) (by omega) (by decide))]
    exact ⟨h, by omega, rfl, h3⟩
/-! the lender -/
theorem lend_spec {P Q R : Nat → Int32} {x t : Int32} : ∀ n, sLend P Q R x t n = (-6) ∨ ∃ j, j < n ∧ sLend P Q R x t n = nI j ∧ ¬ nI j = x ∧ ¬ R j ≤ 0 ∧ P j = t := by
  intro n
  unfold sLend
  induction n with
  | zero => exact Or.inl rfl
  | succ n ih =>
    rw [mfold_succ]
    generalize mfold (sLendF P Q R x t) (-6, 10) n = a at ih
    obtain ⟨a1, a2⟩ := a
    simp only at ih
    have keep : a1 = (-6) ∨ ∃ j, j < n + 1 ∧ a1 = nI j ∧ ¬ nI j = x ∧ ¬ R j ≤ 0 ∧ P j = t := by
      rcases ih with e | ⟨j, j1, j2⟩
      · exact Or.inl e
      · exact Or.inr ⟨j, by omega, j2⟩
    unfold sLendF
    by_cases h1 : nI n = x
    · rw [if_pos h1]; exact keep
    · rw [if_neg h1]
      by_cases h2 : P n = t
      · rw [if_pos h2]
        by_cases h3 : R n ≤ 0
        · rw [if_pos h3]; exact keep
        · rw [if_neg h3]
          by_cases h4 : a2 ≤ Q n
          · simp only [h4, if_true]; exact keep
          · simp only [h4, if_false]
            exact Or.inr ⟨n, Nat.lt_succ_self n, rfl, h1, h3, h2⟩
      · rw [if_neg h2]; exact keep
/-! what a pause means -/
theorem mMB_fin : ∀ i, i < 20 → ∃ v, v ≤ 11 ∧ mMB i = nI v := by
  intro i hi
  have h : ∀ i, i < 20 → (mMB i).toNatClampNeg ≤ 11 ∧ mMB i = nI (mMB i).toNatClampNeg := by decide +kernel
  exact ⟨_, (h i hi).1, (h i hi).2⟩
theorem mean_nat (S : Nat → Int32) (c : Nat) (s : Int32) (hc : c ≤ 4) : ∃ v, v ≤ 11 ∧ sMean S c s = nI v := by
  unfold sMean
  split
  · exact mMB_fin _ (by have := sShade_le S s; omega)
  · exact ⟨0, by decide, rfl⟩
theorem beg_n {S : Nat → Int32} {a b : Nat} (e0 : S 0 = nI a) (e1 : S 1 = nI b) (j : Nat) : sBeg S (nI j) = nI (a + j * b) := by
  unfold sBeg
  rw [e0, e1, pk_mul, nI_add]
theorem mean_big {S : Nat → Int32} {a b c q : Nat} (e0 : S 0 = nI a) (e1 : S 1 = nI b) (ha : a ≤ 20) (hb2 : b ≤ 20) (hq : 999 ≤ q) (hq2 : q ≤ 100000) : sMean S c (nI q) = mMB (c * 4 + 3) := by
  unfold sMean
  rw [e0, if_pos (nI_le (by omega) (by omega))]
  unfold sShade
  rw [show sBeg S 3 = nI (a + 3 * b) from beg_n e0 e1 3, if_neg (nI_nlt (by omega) (by omega))]
theorem turn_ne {S : Nat → Int32} {a b c p : Nat} (e0 : S 0 = nI a) (e1 : S 1 = nI b) (ha : a ≤ 20) (hb2 : b ≤ 20) (hp : p ≤ 100000) : ∀ m i, i + m = 4 → ¬ sTurn S c (nI p) i m = (-5) := by
  intro m
  induction m with
  | zero => intro i _ e; exact absurd (show (-6 : Int32) = (-5) from e) (by decide)
  | succ m ih =>
    intro i hi e
    unfold sTurn at e
    rw [beg_n e0 e1 i] at e
    by_cases h : nI (a + i * b) ≤ nI p
    · rw [if_pos h] at e
      exact ih (i + 1) (by omega) e
    · rw [if_neg h] at e
      by_cases h2 : sMean S c (nI (a + i * b)) = sMean S c (nI p)
      · rw [if_pos h2] at e
        exact ih (i + 1) (by omega) e
      · rw [if_neg h2] at e
        have hi3 : i * b ≤ 4 * 20 := Nat.mul_le_mul (by omega) hb2
        have h3 : p < a + i * b := by
          rcases Nat.lt_or_ge p (a + i * b) with z | z
          · exact z
          · exact absurd (nI_le z (by omega)) h
        obtain ⟨z, hz⟩ : ∃ z, a + i * b = p + z := ⟨a + i * b - p, by omega⟩
        have e4 : nI (a + i * b) - nI p = nI z := by
          rw [hz, ← nI_add, Int32.add_comm, Int32.add_sub_cancel]
        rw [e4] at e
        have := congrArg Int32.toInt e
        rw [i_n (by omega), show (-5 : Int32).toInt = -5 from by decide] at this
        omega
/-! what was meant -/
theorem most_spec {o : Nat → Int32} : ∀ k, ((mfold (sMostF o) (-6, 0) k).1 = (-6) ∧ (mfold (sMostF o) (-6, 0) k).2 = 0 ∧ ∀ m, 1 ≤ m → m ≤ k → o m ≤ 0) ∨ ∃ m, 1 ≤ m ∧ m ≤ k ∧ (mfold (sMostF o) (-6, 0) k).1 = nI m ∧ (mfold (sMostF o) (-6, 0) k).2 = o m ∧ ¬ o m ≤ 0 := by
  intro k
  induction k with
  | zero => exact Or.inl ⟨rfl, rfl, fun m h1 h2 => by omega⟩
  | succ k ih =>
    rw [mfold_succ]
    generalize mfold (sMostF o) (-6, 0) k = a at ih
    obtain ⟨a1, a2⟩ := a
    simp only at ih
    unfold sMostF
    by_cases h : o (k + 1) ≤ a2
    · simp only [h, if_true]
      rcases ih with ⟨e1, e2, e3⟩ | ⟨m, m1, m2, m3, m4, m5⟩
      · refine Or.inl ⟨e1, e2, fun m h1 h2 => ?_⟩
        by_cases e : m = k + 1
        · rw [e, ← e2]; exact h
        · exact e3 m h1 (by omega)
      · exact Or.inr ⟨m, m1, by omega, m3, m4, m5⟩
    · simp only [h, if_false]
      refine Or.inr ⟨k + 1, by omega, Nat.le_refl _, rfl, rfl, fun z => h ?_⟩
      rcases ih with ⟨-, e2, -⟩ | ⟨m, -, -, -, m4, m5⟩
      · rw [e2]; exact z
      · rw [m4]
        rw [i_le] at z m5 ⊢
        rw [i_0] at z m5
        omega
theorem bt_meant {o : Nat → Int32} : ∀ k, k ≤ 11 → ∀ i, i < 32 → bt (mfold (sMeantF o) 0 k) i = (decide (1 ≤ i ∧ i ≤ k) && decide (¬ o i ≤ 0)) := by
  intro k
  induction k with
  | zero =>
    intro _ i hi
    show bt 0 i = _
    rw [b_0]
    simp
    omega
  | succ k ih =>
    intro hk i hi
    rw [mfold_succ]
    have ih' := ih (by omega) i hi
    generalize mfold (sMeantF o) 0 k = a at ih'
    unfold sMeantF
    by_cases h : i = k + 1
    · subst h
      split
      · next q => rw [ih']; simp [q]
      · next q => rw [b_or, ih', bt_pow (by omega) hi]; simp [q]
    · have e1 : decide (1 ≤ i ∧ i ≤ k + 1) = decide (1 ≤ i ∧ i ≤ k) := by
        by_cases z : 1 ≤ i ∧ i ≤ k
        · simp [z, show i ≤ k + 1 by omega]
        · have z2 : ¬ (1 ≤ i ∧ i ≤ k + 1) := by omega
          simp only [z, z2]
      rw [e1]
      split
      · exact ih'
      · rw [b_or, ih', bt_pow (by omega) hi]
        simp [h]
/-- the commonest meaning is one that was meant; none, if nothing was -/
theorem usual_ok {o : Nat → Int32} : (sMost o = (-6) ∧ sMeant o = 0) ∨ ∃ m, 1 ≤ m ∧ m ≤ 11 ∧ sMost o = nI m ∧ (sMeant o >>> (nI m &&& 31)) &&& 1 = 1 := by
  rcases most_spec (o := o) 11 with ⟨e1, -, e3⟩ | ⟨m, m1, m2, m3, -, m5⟩
  · left
    refine ⟨e1, ?_⟩
    apply b_ext
    intro i hi
    rw [show sMeant o = mfold (sMeantF o) 0 11 from rfl, bt_meant 11 (Nat.le_refl _) i hi, b_0]
    by_cases z : 1 ≤ i ∧ i ≤ 11
    · simp [e3 i z.1 z.2]
    · simp [z]
  · right
    refine ⟨m, m1, m2, m3, ?_⟩
    rw [bt_test (by omega), show sMeant o = mfold (sMeantF o) 0 11 from rfl, bt_meant 11 (Nat.le_refl _) m (by omega)]
    simp [m1, m2, m5]
end
section
/-! what holds of a room between two calls -/
def HG (n : Nat) (came seat rank cough : Nat → Int32) : Prop := came 0 = nI n ∧ n ≤ 10 ∧ (∀ k, k < n → seat k = (-6) ∨ ∃ u, u < 3 ∧ seat k = nI u) ∧ (∃ q, nR rank q n) ∧ ∀ k, k < n → ∃ c, c ≤ 9 ∧ cough k = nI c
def HF (B : Nat) (fault : Nat → Int32) : Prop := ∀ k, k < 10 → ∃ f, f ≤ 10 * B ∧ fault k = nI f
def HC (S : Nat → Int32) : Prop := ∃ a b l s, S 0 = nI a ∧ S 1 = nI b ∧ S 2 = nI l ∧ S 3 = nI s ∧ 1 ≤ a ∧ a ≤ 20 ∧ 1 ≤ b ∧ b ≤ 20 ∧ l ≤ 9 ∧ s ≤ 9
def HP (B n : Nat) (seat pause : Nat → Int32) : Prop := ∀ t, t < 3 → pause t = (-6) ∨ ((∃ p, p ≤ 100 * B ∧ pause t = nI p) ∧ ∃ k, k < n ∧ seat k = nI t)
def HE (B : Nat) (often longest endings ended : Nat → Int32) : Prop := ∃ e d : Nat → Nat, (∀ j, j < 3 → endings j = nI (e j) ∧ ended j = nI (d j)) ∧ d 0 + d 1 + d 2 = e 0 + e 1 + e 2 ∧ e 0 + e 1 + e 2 ≤ B ∧ ∀ m, 1 ≤ m → m ≤ 11 → ∃ o l, often m = nI o ∧ longest m = nI l ∧ o ≤ e 0 ∧ l ≤ 100 * B ∧ (0 < o ↔ 0 < l)
def HT (lex : Nat → Int32) : Prop := ∃ t, t ≤ 10 ∧ lex 4 = nI t
def HI (B : Nat) (F : Nat → Nat → Int32) : Prop := ∃ n, HG n (F 7) (F 8) (F 9) (F 11) ∧ HF B (F 10) ∧ HC (F 6) ∧ HP B n (F 8) (F 19) ∧ HE B (F 15) (F 16) (F 17) (F 20) ∧ HT (F 14)
theorem HF_mono {B B2 : Nat} {f : Nat → Int32} (hB : B ≤ B2) (h : HF B f) : HF B2 f := fun k hk => by
  obtain ⟨x, h1, h2⟩ := h k hk
  exact ⟨x, by omega, h2⟩
theorem HP_mono {B B2 n : Nat} {s p : Nat → Int32} (hB : B ≤ B2) (h : HP B n s p) : HP B2 n s p := fun t ht => by
  rcases h t ht with e | ⟨⟨x, h1, h2⟩, h3⟩
  · exact Or.inl e
  · exact Or.inr ⟨⟨x, by omega, h2⟩, h3⟩
theorem HE_mono {B B2 : Nat} {o l e d : Nat → Int32} (hB : B ≤ B2) (h : HE B o l e d) : HE B2 o l e d := by
  obtain ⟨e, d, h1, h2, h3, h4⟩ := h
  refine ⟨e, d, h1, h2, by omega, fun m m1 m2 => ?_⟩
  obtain ⟨o, l, a, b, c, x, y⟩ := h4 m m1 m2
  exact ⟨o, l, a, b, c, by omega, y⟩
theorem HI_mono {B B2 : Nat} {F : Nat → Nat → Int32} (hB : B ≤ B2) (h : HI B F) : HI B2 F := by
  obtain ⟨n, h1, h2, h3, h4, h5, h6⟩ := h
  exact ⟨n, h1, HF_mono hB h2, h3, HP_mono hB h4, HE_mono hB h5, h6⟩
theorem HI_congr {B : Nat} {F G : Nat → Nat → Int32} (hA : ∀ c j, c < 16 → mVal c j → G (5 + c) j = F (5 + c) j) (h : HI B F) : HI B G := by
  obtain ⟨n, ⟨g1, g2, g3, ⟨q, g4⟩, g5⟩, h2, ⟨a, b, l, s, c1, c2, c3, c4, c5⟩, h4, ⟨e, d, e1, e2, e3, e4⟩, ⟨t, t1, t2⟩⟩ := h
  have r8 : ∀ k, k < n → G 8 k = F 8 k := fun k hk => hA 3 k (by decide) (show k < 10 by omega)
  refine ⟨n, ⟨(hA 2 0 (by decide) rfl).trans g1, g2, fun k hk => ?_, ⟨q, fun k hk => ?_⟩, fun k hk => ?_⟩, fun k hk => ?_, ⟨a, b, l, s, ?_, ?_, ?_, ?_, c5⟩, fun t ht => ?_, ⟨e, d, fun j hj => ?_, e2, e3, fun m m1 m2 => ?_⟩, ⟨t, t1, (hA 9 4 (by decide) rfl).trans t2⟩⟩
  · rw [r8 k hk]; exact g3 k hk
  · rw [show G 9 k = F 9 k from hA 4 k (by decide) (show k < 10 by omega)]; exact g4 k hk
  · rw [show G 11 k = F 11 k from hA 6 k (by decide) (show k < 10 by omega)]; exact g5 k hk
  · rw [show G 10 k = F 10 k from hA 5 k (by decide) hk]; exact h2 k hk
  · exact (hA 1 0 (by decide) (show 0 < 4 by decide)).trans c1
  · exact (hA 1 1 (by decide) (show 1 < 4 by decide)).trans c2
  · exact (hA 1 2 (by decide) (show 2 < 4 by decide)).trans c3
  · exact (hA 1 3 (by decide) (show 3 < 4 by decide)).trans c4
  · rw [show G 19 t = F 19 t from hA 14 t (by decide) ht]
    rcases h4 t ht with z | ⟨z, k, hk, z2⟩
    · exact Or.inl z
    · exact Or.inr ⟨z, k, hk, (r8 k hk).trans z2⟩
  · rw [show G 17 j = F 17 j from hA 12 j (by decide) hj, show G 20 j = F 20 j from hA 15 j (by decide) hj]
    exact e1 j hj
  · rw [show G 15 m = F 15 m from hA 10 m (by decide) (show m < 12 by omega), show G 16 m = F 16 m from hA 11 m (by decide) (show m < 12 by omega)]
    exact e4 m m1 m2
theorem up_eq {f : Nat → Int32} {k : Nat} {x : Int32} : va_up f k x k = x := va_up_self _ _ _
theorem up_ne {f : Nat → Int32} {k j : Nat} {x : Int32} (h : j ≠ k) : va_up f k x j = f j := va_up_ne _ _ h
/-- a guest changes the seat -/
theorem HG_seat {n k : Nat} {a s r c : Nat → Int32} {z : Int32} (h : HG n a s r c) (hz : z = (-6) ∨ ∃ u, u < 3 ∧ z = nI u) : HG n a (va_up s k z) r c := by
  obtain ⟨g1, g2, g3, g4, g5⟩ := h
  refine ⟨g1, g2, fun j hj => ?_, g4, g5⟩
  by_cases e : j = k
  · subst e
    rw [up_eq]
    exact hz
  · rw [up_ne e]
    exact g3 j hj
theorem HP_off {B n k u : Nat} {s p : Nat → Int32} {z : Int32} (h : HP B n s p) (hs : s k = nI u) (hu : u < 3) : HP B n (va_up s k z) (va_up p u (-6)) := by
  intro t ht
  by_cases e : t = u
  · subst e
    exact Or.inl up_eq
  · rw [up_ne e]
    rcases h t ht with w | ⟨w, j, hj, w2⟩
    · exact Or.inl w
    · refine Or.inr ⟨w, j, hj, ?_⟩
      have : j ≠ k := fun q => by
        rw [q, hs, nI_eq (by omega) (by omega)] at w2
        omega
      rw [up_ne this]
      exact w2
theorem HP_stay {B n k u : Nat} {s p : Nat → Int32} {z : Int32} (h10 : n ≤ 10) (h : HP B n s p) (hs : s k = nI u) (hu : u < 3) (h0 : ¬ sSet (va_up s k z) (nI u) n = 0) : HP B n (va_up s k z) p := by
  intro t ht
  rcases h t ht with w | ⟨w, j, hj, w2⟩
  · exact Or.inl w
  · refine Or.inr ⟨w, ?_⟩
    by_cases e : t = u
    · subst e
      rw [sSet_0 (by omega)] at h0
      exact Classical.byContradiction fun q => h0 (fun i hi hi2 => q ⟨i, hi, hi2⟩)
    · have : j ≠ k := fun q => by
        rw [q, hs, nI_eq (by omega) (by omega)] at w2
        omega
      exact ⟨j, hj, by rw [up_ne this]; exact w2⟩
theorem HP_pause {B n u : Nat} {s p : Nat → Int32} {z : Int32} (h : HP B n s p) (hz : z = (-6) ∨ ((∃ x, x ≤ 100 * B ∧ z = nI x) ∧ ∃ k, k < n ∧ s k = nI u)) : HP B n s (va_up p u z) := by
  intro t ht
  by_cases e : t = u
  · subst e
    rw [up_eq]
    exact hz
  · rw [up_ne e]
    exact h t ht
theorem HP_n {B n : Nat} {s s2 p : Nat → Int32} (h : HP B n s p) (hs : ∀ k, k < n → s2 k = s k) : HP B (n + 1) s2 p := by
  intro t ht
  rcases h t ht with w | ⟨w, j, hj, w2⟩
  · exact Or.inl w
  · exact Or.inr ⟨w, j, by omega, (hs j hj).trans w2⟩
def bmp (f : Nat → Nat) (h j : Nat) : Nat := if j = h then f j + 1 else f j
theorem bmp_le (f : Nat → Nat) (h j : Nat) : f j ≤ bmp f h j := by
  unfold bmp
  split <;> omega
theorem bmp_n {e : Nat → Int32} {e' : Nat → Nat} {h j : Nat} (h1 : e j = nI (e' j)) : va_up e h (e h + 1) j = nI (bmp e' h j) := by
  unfold bmp
  by_cases q : j = h
  · subst q
    rw [up_eq, if_pos rfl, h1]
    exact nI_1 _
  · rw [up_ne q, if_neg q]
    exact h1
theorem bmp_sum (f : Nat → Nat) {h : Nat} (hh : h < 3) : bmp f h 0 + bmp f h 1 + bmp f h 2 = f 0 + f 1 + f 2 + 1 := by
  unfold bmp
  rcases (by omega : h = 0 ∨ h = 1 ∨ h = 2) with rfl | rfl | rfl <;> simp <;> omega
/-- a pause ends: it is counted -/
theorem HE_end {B h u : Nat} {o l e d : Nat → Int32} (hE : HE B o l e d) (hh : h < 3) (hu : u < 3) : HE (B + 1) o l (va_up e h (e h + 1)) (va_up d u (d u + 1)) := by
  obtain ⟨e', d', h1, h2, h3, h4⟩ := hE
  refine ⟨bmp e' h, bmp d' u, fun j hj => ⟨bmp_n (h1 j hj).1, bmp_n (h1 j hj).2⟩, ?_, ?_, fun m m1 m2 => ?_⟩
  · rw [bmp_sum _ hh, bmp_sum _ hu]
    omega
  · rw [bmp_sum _ hh]
    omega
  · obtain ⟨o', l', a, b, c, x, y⟩ := h4 m m1 m2
    exact ⟨o', l', a, b, Nat.le_trans c (bmp_le _ _ _), by omega, y⟩
theorem HE_mean {B u mm p : Nat} {o l e d : Nat → Int32} (hB : B ≤ 1000) (hE : HE B o l e d) (hu : u < 3) (hp : 1 ≤ p) (hpB : p ≤ 100 * B) : HE (B + 1) (va_up o mm (o mm + 1)) (va_up l mm (if l mm < nI p then nI p else l mm)) (va_up e 0 (e 0 + 1)) (va_up d u (d u + 1)) := by
  obtain ⟨e', d', h1, h2, h3, h4⟩ := hE
  refine ⟨bmp e' 0, bmp d' u, fun j hj => ⟨bmp_n (h1 j hj).1, bmp_n (h1 j hj).2⟩, ?_, ?_, fun m m1 m2 => ?_⟩
  · rw [bmp_sum e' (h := 0) (by decide), bmp_sum d' hu]
    omega
  · rw [bmp_sum e' (h := 0) (by decide)]
    omega
  · obtain ⟨o', l', a, b, c, x, y⟩ := h4 m m1 m2
    have b0 : bmp e' 0 0 = e' 0 + 1 := if_pos rfl
    by_cases q : m = mm
    · subst q
      rw [up_eq, up_eq, a, b, b0]
      by_cases z : l' < p
      · exact ⟨o' + 1, p, nI_1 _, if_pos (nI_lt z (by omega)), by omega, by omega, by omega⟩
      · exact ⟨o' + 1, l', nI_1 _, if_neg (nI_nlt (by omega) (by omega)), by omega, by omega, by omega⟩
    · rw [up_ne q, up_ne q]
      exact ⟨o', l', a, b, by omega, by omega, y⟩
/-! what the orders write, and the rest -/
theorem mx_tell {F Z : Nat → Nat → Int32} {h : Nat} {t s m w : Int32} : xTell (mx F Z) h t s m w = mx (xTell F h t s m w) Z := by
  unfold xTell
  rw [mx_cpB (a := 18) (b := 18) rfl rfl, mx_pe (c := 18) rfl, mx_pe (c := 18) rfl, mx_pe (c := 18) rfl, mx_pe (c := 18) rfl, mx_pe (c := 18) rfl]
  generalize pe (pe (pe (pe (pe (cpB F 18 18 0 5 45) 18 0 (nI h)) 18 1 t) 18 2 s) 18 3 m) 18 4 w = A
  rw [show mx A Z 14 4 = A 14 4 from rfl, mx_pe (c := 14) rfl]
  generalize pe A 14 4 (if 10 < A 14 4 + 1 then 10 else A 14 4 + 1) = A2
  rw [show mx A2 Z 17 h = A2 17 h from rfl, mx_pe (c := 17) rfl]
theorem mx_end {F Z : Nat → Nat → Int32} {h t : Nat} {m w : Int32} : xEnd (mx F Z) h t m w = mx (xEnd F h t m w) Z := by
  unfold xEnd
  rw [show mx F Z 19 t = F 19 t from rfl, mx_tell]
  generalize xTell F h (nI t) (F 19 t) m w = A
  rw [show mx A Z 20 t = A 20 t from rfl, mx_pe (c := 20) rfl, mx_pe (c := 19) rfl]
theorem mx_enter {F Z : Nat → Nat → Int32} {m : Nat} {s : Int32} : xEnter (mx F Z) m s = mx (xEnter F m s) Z := by
  unfold xEnter
  rw [show mx F Z 15 m = F 15 m from rfl, mx_pe (c := 15) rfl]
  generalize pe F 15 m (F 15 m + 1) = A
  rw [show mx A Z 16 m = A 16 m from rfl, mx_pe (c := 16) rfl]
theorem mx_pass {F Z : Nat → Nat → Int32} {s : Int32} {cp : Nat → Nat} : ∀ n, xPass (mx F Z) s cp n = (mx (xPass F s cp n).1 Z, (xPass F s cp n).2) := by
  intro n
  unfold xPass
  induction n with
  | zero => exact Prod.ext (mx_pe (c := 5) rfl) rfl
  | succ n ih =>
    rw [mfold_succ, mfold_succ, ih]
    generalize mfold (xPassF s cp) (pe F 5 0 (F 5 0 + s), 0) n = a
    obtain ⟨A, v⟩ := a
    unfold xPassF
    show (if A 19 n = (-6) then (mx A Z, v) else (pe (mx A Z) 19 n (A 19 n + s), v + (if sMean (A 6) (cp n) (A 19 n + s) = 0 then 0 else 1))) = _
    rw [mx_pe (c := 19) rfl]
    by_cases h : A 19 n = (-6)
    · simp only [h, if_true]
    · simp only [h, if_false]
theorem mx_copy {F Z : Nat → Nat → Int32} {i j : Nat} (hi : ∀ c, c < 16 → inS (i + c) = true) (hj : ∀ c, c < 16 → inS (j + c) = true) : xCopyR (mx F Z) i j = mx (xCopyR F i j) Z := by
  have hi0 := hi 0 (by decide)
  have hj0 := hj 0 (by decide)
  rw [Nat.add_zero] at hi0 hj0
  unfold xCopyR xCopyL xCopyG
  rw [mx_in hj0, mx_pe hi0, mx_cpB (hi 1 (by decide)) (hj 1 (by decide))]
  generalize cpB (pe F i 0 (F j 0)) (i + 1) (j + 1) 0 0 4 = A
  rw [mx_in (hj 2 (by decide)), mx_pe (hi 2 (by decide)), mx_cpB (hi 3 (by decide)) (hj 3 (by decide)), mx_cpB (hi 4 (by decide)) (hj 4 (by decide)), mx_cpB (hi 5 (by decide)) (hj 5 (by decide)), mx_cpB (hi 6 (by decide)) (hj 6 (by decide)), mx_cpB (hi 7 (by decide)) (hj 7 (by decide)), mx_cpB (hi 8 (by decide)) (hj 8 (by decide))]
  generalize cpB (cpB (cpB (cpB (cpB (cpB (pe A (i + 2) 0 (A (j + 2) 0)) (i + 3) (j + 3) 0 0 10) (i + 4) (j + 4) 0 0 10) (i + 5) (j + 5) 0 0 10) (i + 6) (j + 6) 0 0 10) (i + 7) (j + 7) 0 0 10) (i + 8) (j + 8) 0 0 10 = A2
  rw [mx_in (hj 9 (by decide)), mx_pe (hi 9 (by decide)), mx_cpB (hi 10 (by decide)) (hj 10 (by decide)), mx_cpB (hi 11 (by decide)) (hj 11 (by decide)), mx_cpB (hi 12 (by decide)) (hj 12 (by decide)), mx_cpB (hi 13 (by decide)) (hj 13 (by decide)), mx_cpB (hi 14 (by decide)) (hj 14 (by decide)), mx_cpB (hi 15 (by decide)) (hj 15 (by decide))]
/-! what an end of a pause leaves in the rows -/
theorem xEnd_r {A : Nat → Nat → Int32} {u h c : Nat} {m w : Int32} (hc : c < 14 ∨ 21 ≤ c ∨ c = 15 ∨ c = 16) : xEnd A h u m w c = A c := by
  unfold xEnd xTell
  repeat (rw [pe_row (by omega)])
  rw [cpB_row (by omega)]
def xW (A : Nat → Nat → Int32) (h : Nat) (t s m w : Int32) : Nat → Nat → Int32 := pe (pe (pe (pe (pe (cpB A 18 18 0 5 45) 18 0 (nI h)) 18 1 t) 18 2 s) 18 3 m) 18 4 w
def xT (A : Nat → Nat → Int32) (h : Nat) (t s m w : Int32) : Nat → Nat → Int32 := pe (xW A h t s m w) 14 4 (if 10 < xW A h t s m w 14 4 + 1 then 10 else xW A h t s m w 14 4 + 1)
theorem xW_o {A : Nat → Nat → Int32} {h c : Nat} {t s m w : Int32} (h1 : c ≠ 18) : xW A h t s m w c = A c := by
  unfold xW
  repeat (rw [pe_row h1])
  rw [cpB_row h1]
theorem xEnd_T (A : Nat → Nat → Int32) (h u : Nat) (m w : Int32) : xEnd A h u m w = pe (pe (pe (xT A h (nI u) (A 19 u) m w) 17 h (xT A h (nI u) (A 19 u) m w 17 h + 1)) 20 u (pe (xT A h (nI u) (A 19 u) m w) 17 h (xT A h (nI u) (A 19 u) m w 17 h + 1) 20 u + 1)) 19 u (-6) := rfl
theorem xT_r {A : Nat → Nat → Int32} {h c : Nat} {t s m w : Int32} (h1 : c ≠ 18) (h2 : c ≠ 14) : xT A h t s m w c = A c := by
  unfold xT
  rw [pe_row h2, xW_o h1]
theorem xEnd_17 {A : Nat → Nat → Int32} {h u : Nat} {m w : Int32} : xEnd A h u m w 17 = va_up (A 17) h (A 17 h + 1) := by
  rw [xEnd_T, pe_row (by decide), pe_row (by decide), pe_self, xT_r (by decide) (by decide)]
theorem xEnd_20 {A : Nat → Nat → Int32} {h u : Nat} {m w : Int32} : xEnd A h u m w 20 = va_up (A 20) u (A 20 u + 1) := by
  rw [xEnd_T, pe_row (by decide), pe_self, pe_row (by decide), xT_r (by decide) (by decide)]
theorem xEnd_19 {A : Nat → Nat → Int32} {h u : Nat} {m w : Int32} : xEnd A h u m w 19 = va_up (A 19) u (-6) := by
  rw [xEnd_T, pe_self, pe_row (by decide), pe_row (by decide), xT_r (by decide) (by decide)]
theorem xEnd_18 {A : Nat → Nat → Int32} {h u : Nat} {m w : Int32} : xEnd A h u m w 18 0 = nI h ∧ xEnd A h u m w 18 3 = m ∧ xEnd A h u m w 18 4 = w := by
  rw [xEnd_T, pe_row (by decide), pe_row (by decide), pe_row (by decide)]
  unfold xT xW
  rw [pe_row (by decide)]
  refine ⟨?_, ?_, pe_eq _ _ _ _⟩
  · rw [pe_ne (by decide), pe_ne (by decide), pe_ne (by decide), pe_ne (by decide)]
    exact pe_eq _ _ _ _
  · rw [pe_ne (by decide)]
    exact pe_eq _ _ _ _
theorem xEnd_14 {A : Nat → Nat → Int32} {h u t : Nat} {m w : Int32} (e : A 14 4 = nI t) (ht : t ≤ 10) : ∃ t2, 0 < t2 ∧ t2 ≤ 10 ∧ xEnd A h u m w 14 4 = nI t2 := by
  rw [xEnd_T, pe_row (by decide), pe_row (by decide), pe_row (by decide)]
  unfold xT
  rw [pe_eq, xW_o (by decide), e, nI_1]
  by_cases q : t < 10
  · exact ⟨t + 1, by omega, by omega, if_neg (nI_nlt (a := 10) (b := t + 1) (by omega) (by decide))⟩
  · exact ⟨10, by omega, Nat.le_refl _, if_pos (nI_lt (a := 10) (b := t + 1) (by omega) (by omega))⟩
end
section
/-! the orders of a room: what they answer and leave -/
theorem tab_i {x : Int32} : (0 ≤ x ∧ x < 3) ↔ (0 ≤ x ∧ x ≤ 2) := by
  rw [i_le, i_le, i_lt, i_0, show (3 : Int32).toInt = 3 from by decide, show (2 : Int32).toInt = 2 from by decide]
  omega
theorem tab_n {x : Int32} (h : 0 ≤ x ∧ x < 3) : ∃ u, u < 3 ∧ x = nI u := by
  obtain ⟨j, hj, e⟩ := nI_of2 (x := x) (M := 2) (n := 2) (by decide) (Int32.not_lt.mpr h.1) (tab_i.mp h).2
  exact ⟨j, by omega, e⟩
theorem rank_n {x : Int32} (h : 1 ≤ x ∧ x ≤ 9) : ∃ u, 1 ≤ u ∧ u ≤ 9 ∧ x = nI u := by
  have h0 : ¬ x < 0 := by
    have := h.1
    rw [i_le, show (1 : Int32).toInt = 1 from by decide] at this
    rw [i_lt, i_0]
    omega
  obtain ⟨j, hj, e⟩ := nI_of2 (x := x) (M := 9) (n := 9) (by decide) h0 h.2
  refine ⟨j, ?_, hj, e⟩
  have := h.1
  rw [e] at this
  exact (nI_leI (a := 1) (by decide) (by omega)).mp this
theorem err_n {n : Nat} (h : n < 2 ^ 31) : ¬ (nI n ≤ (-1) ∧ (-5) ≤ nI n) := fun q => by
  have := q.1
  rw [i_le, i_n h, show (-1 : Int32).toInt = -1 from by decide] at this
  omega
theorem kn_i {x : Int32} {n : Nat} (h : 0 ≤ x ∧ x < nI n) (hn : n ≤ 10) : ∃ k, k < n ∧ x = nI k := by
  obtain ⟨j, hj, e⟩ := nI_of (x := x) (Int32.not_lt.mpr h.1)
  refine ⟨j, ?_, e⟩
  have := h.2
  rw [e] at this
  exact (nI_ltI hj (by omega)).mp this
theorem set_i {x : Int32} : (0 ≤ x ∧ x < 4) ↔ (0 ≤ x ∧ x ≤ 3) := by
  rw [i_le, i_le, i_lt, i_0, show (4 : Int32).toInt = 4 from by decide, show (3 : Int32).toInt = 3 from by decide]
  omega
theorem set_n {j : Nat} (hj : j < 4) {v : Int32} (h1 : 1 ≤ v) (h2 : v ≤ mHS j) : ∃ x, 1 ≤ x ∧ (x ≤ 20 ∧ (2 ≤ j → x ≤ 9)) ∧ v = nI x := by
  have h0 : ¬ v < 0 := by
    rw [i_le, show (1 : Int32).toInt = 1 from by decide] at h1
    rw [i_lt, i_0]
    omega
  have hx : ∀ N : Nat, N < 100 → mHS j = nI N → ∃ x, 1 ≤ x ∧ x ≤ N ∧ v = nI x := by
    intro N hN e
    rw [e] at h2
    obtain ⟨x, hx, ex⟩ := nI_of2 (x := v) (M := nI N) (n := N) (nI_toInt (by omega)) h0 h2
    refine ⟨x, ?_, hx, ex⟩
    rw [ex] at h1
    exact (nI_leI (a := 1) (by decide) (by omega)).mp h1
  rcases (by omega : j = 0 ∨ j = 1 ∨ j = 2 ∨ j = 3) with rfl | rfl | rfl | rfl
  · obtain ⟨x, a, b, c⟩ := hx 20 (by decide) rfl
    exact ⟨x, a, ⟨b, fun q => by omega⟩, c⟩
  · obtain ⟨x, a, b, c⟩ := hx 20 (by decide) rfl
    exact ⟨x, a, ⟨b, fun q => by omega⟩, c⟩
  · obtain ⟨x, a, b, c⟩ := hx 9 (by decide) rfl
    exact ⟨x, a, ⟨by omega, fun q => b⟩, c⟩
  · obtain ⟨x, a, b, c⟩ := hx 9 (by decide) rfl
    exact ⟨x, a, ⟨by omega, fun q => b⟩, c⟩
abbrev isE (r : Int32) : Prop := r ≤ (-1) ∧ (-5) ≤ r
def FrB (A A1 : Nat → Nat → Int32) : Prop := ∀ c, c < 5 ∨ 21 ≤ c → A1 c = A c
theorem FrB_rf {A : Nat → Nat → Int32} : FrB A A := fun _ _ => rfl
theorem FrB_pe {A A1 : Nat → Nat → Int32} {c k : Nat} {v : Int32} (h : FrB A A1) (h1 : 5 ≤ c) (h2 : c < 21) : FrB A (pe A1 c k v) := fun x hx => by
  rw [pe_row (by omega)]
  exact h x hx
theorem FrB_end {A A1 : Nat → Nat → Int32} {h u : Nat} {m w : Int32} (hf : FrB A A1) : FrB A (xEnd A1 h u m w) := fun x hx => by
  have e : xEnd A1 h u m w x = A1 x := by
    unfold xEnd xTell
    repeat (rw [pe_row (by omega)])
    rw [cpB_row (by omega)]
  rw [e]
  exact hf x hx
/-- an order of the room: its answer and the rows that it leaves do not depend on the rest -/
def RE (y : MethodName) (M : mM) (as : List Value) (F : Nat → Nat → Int32) (r : Int32) (G : Nat → Nat → Int32) : Prop := ∀ (L : Nat) (Z : Nat → Nat → Int32) (g : Nat → Option Nat) (d : Nat), mCall (d + 3) y M as (mHX L (mx F Z) g) (some (.int r)) (mHX L (mx G Z) g)
def OE (B : Nat) (y : MethodName) (M : mM) (as : List Value) (F : Nat → Nat → Int32) : Prop := ∃ r G, RE y M as F r G ∧ (isE r → G = F) ∧ HI (B + 1) G ∧ FrB F G
theorem oe_err {B : Nat} {y : MethodName} {M : mM} {as : List Value} {F : Nat → Nat → Int32} (h : HI B F) (r : Int32) (hr : RE y M as F r F) : OE B y M as F := ⟨r, F, hr, fun _ => rfl, HI_mono (Nat.le_succ B) h, FrB_rf⟩
theorem oe_set {B : Nat} {F : Nat → Nat → Int32} (h2 : F 2 = mHS) (h : HI B F) (x v : Int32) : OE B yX4_changeSetting MX4_changeSetting [.ref 5, .int x, .int v] F := by
  by_cases hx : 0 ≤ x ∧ x < 4
  · obtain ⟨j, hj, e⟩ := nI_of2 (x := x) (M := 3) (n := 3) (by decide) (Int32.not_lt.mpr hx.1) (set_i.mp hx).2
    subst e
    have hj4 : j < 4 := by omega
    by_cases hv : 1 ≤ v ∧ v ≤ mHS j
    · have h0 := HI_mono (Nat.le_succ B) h
      obtain ⟨n, hG, hF, ⟨a, b, l, s, c0, c1, c2, c3, c4, c5, c6, c7, c8, c9⟩, hP, hE, hT⟩ := h0
      obtain ⟨w, w1, ⟨w2, w3⟩, rfl⟩ := set_n hj4 hv.1 hv.2
      refine ⟨F 6 j, pe F 6 j (nI w), fun L Z g d => ?_, fun z => ?_, ⟨n, hG, hF, ?_, hP, hE, hT⟩, FrB_pe FrB_rf (by decide) (by decide)⟩
      · have := c_set_ok (L := L) (F := mx F Z) (g := g) (d + 3) j hj4 (nI w) h2 hv.1 hv.2
        rw [mx_pe (c := 6) rfl] at this
        exact this
      · exfalso
        rcases (by omega : j = 0 ∨ j = 1 ∨ j = 2 ∨ j = 3) with rfl | rfl | rfl | rfl
        · rw [c0] at z; exact err_n (by omega) z
        · rw [c1] at z; exact err_n (by omega) z
        · rw [c2] at z; exact err_n (by omega) z
        · rw [c3] at z; exact err_n (by omega) z
      · show HC (va_up (F 6) j (nI w))
        rcases (by omega : j = 0 ∨ j = 1 ∨ j = 2 ∨ j = 3) with rfl | rfl | rfl | rfl
        · exact ⟨w, b, l, s, up_eq, (up_ne (by decide)).trans c1, (up_ne (by decide)).trans c2, (up_ne (by decide)).trans c3, w1, w2, c6, c7, c8, c9⟩
        · exact ⟨a, w, l, s, (up_ne (by decide)).trans c0, up_eq, (up_ne (by decide)).trans c2, (up_ne (by decide)).trans c3, c4, c5, w1, w2, c8, c9⟩
        · exact ⟨a, b, w, s, (up_ne (by decide)).trans c0, (up_ne (by decide)).trans c1, up_eq, (up_ne (by decide)).trans c3, c4, c5, c6, c7, w3 (by decide), c9⟩
        · exact ⟨a, b, l, w, (up_ne (by decide)).trans c0, (up_ne (by decide)).trans c1, (up_ne (by decide)).trans c2, up_eq, c4, c5, c6, c7, c8, w3 (by decide)⟩
    · exact oe_err h (-2) (fun L Z g d => c_set_bad (d + 3) j hj4 v h2 hv)
  · exact oe_err h (-2) (fun L Z g d => c_set_no (d + 3) x v hx)
theorem oe_guest {B : Nat} {F : Nat → Nat → Int32} (h : HI B F) (x v : Int32) : OE B yX4_welcome MX4_welcome [.ref 5, .int x, .int v] F := by
  by_cases hx : 0 ≤ x ∧ x < 3
  · by_cases hv : 1 ≤ v ∧ v ≤ 9
    · have h0 := HI_mono (Nat.le_succ B) h
      obtain ⟨n, ⟨hn, h10, hs, ⟨q, hq⟩, hc⟩, hF, hC, hP, hE, hT⟩ := h0
      by_cases hf : n < 10
      · obtain ⟨u, hu, rfl⟩ := tab_n hx
        obtain ⟨w, w1, w9, rfl⟩ := rank_n hv
        have hC2 := hC
        obtain ⟨a, b, l, s, c0, c1, c2, c3, c4, c5, c6, c7, c8, c9⟩ := hC2
        refine ⟨nI n, xAdd F n (nI u) (nI w), fun L Z g d => ?_, fun z => absurd z (err_n (by omega)), ⟨n + 1, ⟨?_, hf, ?_, ⟨fun k => if k = n then w else q k, ?_⟩, ?_⟩, hF, hC, ?_, hE, hT⟩, ?_⟩
        · have := c_wel_ok (L := L) (F := mx F Z) (g := g) (d + 2) (nI u) (nI w) hx hv n hn hf
          unfold xAdd at this
          rw [mx_pe (c := 8) rfl, mx_pe (c := 9) rfl, mx_pe (c := 11) rfl, mx_pe (c := 7) rfl] at this
          exact this
        · show va_up (F 7) 0 (F 7 0 + 1) 0 = nI (n + 1)
          rw [up_eq, hn]
          exact nI_1 n
        · intro k hk
          show va_up (F 8) n (nI u) k = (-6) ∨ ∃ u', u' < 3 ∧ va_up (F 8) n (nI u) k = nI u'
          by_cases e : k = n
          · subst e
            exact Or.inr ⟨u, hu, up_eq⟩
          · rw [up_ne e]
            exact hs k (by omega)
        · intro k hk
          show va_up (F 9) n (nI w) k = nI (if k = n then w else q k) ∧ 1 ≤ (if k = n then w else q k) ∧ (if k = n then w else q k) ≤ 9
          by_cases e : k = n
          · subst e
            rw [up_eq, if_pos rfl]
            exact ⟨rfl, w1, w9⟩
          · rw [up_ne e, if_neg e]
            exact hq k (by omega)
        · intro k hk
          show ∃ c, c ≤ 9 ∧ va_up (F 11) n (F 6 2) k = nI c
          by_cases e : k = n
          · subst e
            exact ⟨l, c8, up_eq.trans c2⟩
          · rw [up_ne e]
            exact hc k (by omega)
        · exact HP_n hP (fun k hk => up_ne (by omega))
        · exact FrB_pe (FrB_pe (FrB_pe (FrB_pe FrB_rf (by decide) (by decide)) (by decide) (by decide)) (by decide) (by decide)) (by decide) (by decide)
      · obtain rfl : n = 10 := by omega
        exact oe_err h (-4) (fun L Z g d => c_wel_full (d + 2) x v hx hv hn)
    · exact oe_err h (-2) (fun L Z g d => c_wel_bad (d + 2) x v hx hv)
  · exact oe_err h (-1) (fun L Z g d => c_wel_no (d + 2) x v hx)
theorem pop_n (x : Int32) : ∃ j, j < 64 ∧ sPop x = nI j := by
  obtain ⟨j, hj, e⟩ := pk_andE (sB5 (sB4 (sB3 (sB2 (sB1 x))))) (m := 63) 6 (by decide)
  exact ⟨j, hj, e⟩
theorem oe_leave {B : Nat} {F : Nat → Nat → Int32} (h : HI B F) (x : Int32) : OE B yX4_seeOff MX4_seeOff [.ref 5, .int x] F := by
  have h0 := HI_mono (Nat.le_succ B) h
  obtain ⟨n, hG, hF, hC, hP, hE, hT⟩ := h0
  have hG2 := hG
  obtain ⟨hn, h10, hs, -, -⟩ := hG2
  by_cases hx : 0 ≤ x ∧ x < F 7 0
  · obtain ⟨k, hk, rfl⟩ := kn_i (by rw [← hn]; exact hx) h10
    rcases hs k hk with e | ⟨u, hu, e⟩
    · exact oe_err h (-5) (fun L Z g d => c_off_gone (F := mx F Z) (d + 2) n hn h10 k hk e)
    · obtain ⟨j, hj, ej⟩ := pop_n (sSet (va_up (F 8) k (-6)) (nI u) n)
      by_cases h0 : sSet (va_up (F 8) k (-6)) (nI u) n = 0
      · refine ⟨sPop (sSet (va_up (F 8) k (-6)) (nI u) n), pe (pe F 8 k (-6)) 19 u (-6), fun L Z g d => ?_, fun z => absurd (by rw [← ej]; exact z) (err_n (n := j) (by omega)), ⟨n, HG_seat hG (Or.inl rfl), hF, hC, HP_off hP e hu, hE, hT⟩, FrB_pe (FrB_pe FrB_rf (by decide) (by decide)) (by decide) (by decide)⟩
        have := c_off_0 (L := L) (F := mx F Z) (g := g) (d + 1) n hn h10 k hk u hu e h0
        rw [mx_pe (c := 8) rfl, mx_pe (c := 19) rfl] at this
        exact this
      · refine ⟨sPop (sSet (va_up (F 8) k (-6)) (nI u) n), pe F 8 k (-6), fun L Z g d => ?_, fun z => absurd (by rw [← ej]; exact z) (err_n (n := j) (by omega)), ⟨n, HG_seat hG (Or.inl rfl), hF, hC, HP_stay h10 hP e hu h0, hE, hT⟩, FrB_pe FrB_rf (by decide) (by decide)⟩
        have := c_off_n (L := L) (F := mx F Z) (g := g) (d + 1) n hn h10 k hk u hu e h0
        rw [mx_pe (c := 8) rfl] at this
        exact this
  · exact oe_err h (-1) (fun L Z g d => c_off_no (d + 2) x hx)
theorem oe_move {B : Nat} {F : Nat → Nat → Int32} (h : HI B F) (x y : Int32) : OE B yX4_reseat MX4_reseat [.ref 5, .int x, .int y] F := by
  have h0 := HI_mono (Nat.le_succ B) h
  obtain ⟨n, hG, hF, hC, hP, hE, hT⟩ := h0
  have hG2 := hG
  obtain ⟨hn, h10, hs, -, -⟩ := hG2
  by_cases hx : 0 ≤ x ∧ x < F 7 0
  · by_cases hy : 0 ≤ y ∧ y < 3
    · obtain ⟨k, hk, rfl⟩ := kn_i (by rw [← hn]; exact hx) h10
      obtain ⟨w, hw, rfl⟩ := tab_n hy
      rcases hs k hk with e | ⟨u, hu, e⟩
      · exact oe_err h (-5) (fun L Z g d => c_mov_gone (F := mx F Z) (d + 2) n hn h10 k hk w hw e)
      · by_cases huw : u = w
        · subst huw
          exact oe_err h (-5) (fun L Z g d => c_mov_same (F := mx F Z) (d + 2) n hn h10 k hk u hu e)
        · by_cases h0 : sSet (va_up (F 8) k (nI w)) (nI u) n = 0
          · refine ⟨nI u, pe (pe F 8 k (nI w)) 19 u (-6), fun L Z g d => ?_, fun z => absurd z (err_n (by omega)), ⟨n, HG_seat hG (Or.inr ⟨w, hw, rfl⟩), hF, hC, HP_off hP e hu, hE, hT⟩, FrB_pe (FrB_pe FrB_rf (by decide) (by decide)) (by decide) (by decide)⟩
            have := c_mov_0 (L := L) (F := mx F Z) (g := g) (d + 1) n hn h10 k hk u w hu hw huw e h0
            rw [mx_pe (c := 8) rfl, mx_pe (c := 19) rfl] at this
            exact this
          · refine ⟨nI u, pe F 8 k (nI w), fun L Z g d => ?_, fun z => absurd z (err_n (by omega)), ⟨n, HG_seat hG (Or.inr ⟨w, hw, rfl⟩), hF, hC, HP_stay h10 hP e hu h0, hE, hT⟩, FrB_pe FrB_rf (by decide) (by decide)⟩
            have := c_mov_n (L := L) (F := mx F Z) (g := g) (d + 1) n hn h10 k hk u w hu hw huw e h0
            rw [mx_pe (c := 8) rfl] at this
            exact this
    · exact oe_err h (-1) (fun L Z g d => c_mov_notab (d + 2) x y hx hy)
  · exact oe_err h (-1) (fun L Z g d => c_mov_no (d + 2) x y hx)
theorem oe_pause {B : Nat} {F : Nat → Nat → Int32} (h : HI B F) (x : Int32) : OE B yX4_beginPause MX4_beginPause [.ref 5, .int x] F := by
  have h0 := HI_mono (Nat.le_succ B) h
  obtain ⟨n, hG, hF, hC, hP, hE, hT⟩ := h0
  have hG2 := hG
  obtain ⟨hn, h10, hs, -, -⟩ := hG2
  by_cases hx : 0 ≤ x ∧ x < 3
  · obtain ⟨u, hu, rfl⟩ := tab_n hx
    obtain ⟨c, hc, ec, hc0⟩ := comp_le (P := F 8) (Q := F 9) (t := nI u) h10
    by_cases hp : F 19 u = (-6)
    · by_cases h0 : c = 0
      · exact oe_err h (-5) (fun L Z g d => c_beg_nobody (F := mx F Z) (d + 2) n hn h10 u hu c hc ec hp h0)
      · refine ⟨nI c, pe F 19 u 0, fun L Z g d => ?_, fun z => absurd z (err_n (by omega)), ⟨n, hG, hF, hC, HP_pause hP (Or.inr ⟨⟨0, Nat.zero_le _, rfl⟩, ?_⟩), hE, hT⟩, FrB_pe FrB_rf (by decide) (by decide)⟩
        · have := c_beg_ok (L := L) (F := mx F Z) (g := g) (d + 2) n hn h10 u hu c hc ec hp h0
          rw [mx_pe (c := 19) rfl] at this
          exact this
        · exact Classical.byContradiction fun q => h0 (hc0.mpr (fun j hj hj2 => q ⟨j, hj, hj2⟩))
    · exact oe_err h (-5) (fun L Z g d => c_beg_is (F := mx F Z) (d + 2) n hn h10 u hu c hc ec hp)
  · exact oe_err h (-1) (fun L Z g d => c_beg_no (d + 2) x hx)
/-- an end that means nothing -/
theorem hi_end {B n hh u : Nat} {A : Nat → Nat → Int32} {w : Int32} (h3 : hh < 3) (hu : u < 3) (hG : HG n (A 7) (A 8) (A 9) (A 11)) (hF : HF (B + 1) (A 10)) (hC : HC (A 6)) (hP : HP B n (A 8) (A 19)) (hE : HE B (A 15) (A 16) (A 17) (A 20)) (hT : HT (A 14)) : HI (B + 1) (xEnd A hh u 0 w) := by
  obtain ⟨t, ht, et⟩ := hT
  obtain ⟨t2, -, t10, e2⟩ := xEnd_14 (A := A) (h := hh) (u := u) (m := 0) (w := w) et ht
  refine ⟨n, ?_, ?_, ?_, ?_, ?_, ⟨t2, t10, e2⟩⟩
  · rw [xEnd_r (c := 7) (by decide), xEnd_r (c := 8) (by decide), xEnd_r (c := 9) (by decide), xEnd_r (c := 11) (by decide)]
    exact hG
  · rw [xEnd_r (c := 10) (by decide)]
    exact hF
  · rw [xEnd_r (c := 6) (by decide)]
    exact hC
  · rw [xEnd_r (c := 8) (by decide), xEnd_19]
    exact HP_mono (Nat.le_succ B) (HP_pause hP (Or.inl rfl))
  · rw [xEnd_r (c := 15) (by decide), xEnd_r (c := 16) (by decide), xEnd_17, xEnd_20]
    exact HE_end hE h3 hu
theorem oe_close {B : Nat} {F : Nat → Nat → Int32} (hB : B ≤ 1000) (h3 : F 3 = mMB) (h : HI B F) (x : Int32) : OE B yX4_closePause MX4_closePause [.ref 5, .int x] F := by
  have h0 := h
  obtain ⟨n, hG, hF, hC, hP, hE, hT⟩ := h0
  have hG2 := hG
  obtain ⟨hn, h10, hs, -, -⟩ := hG2
  by_cases hx : 0 ≤ x ∧ x < 3
  · obtain ⟨u, hu, rfl⟩ := tab_n hx
    by_cases hp : F 19 u = (-6)
    · exact oe_err h (-5) (fun L Z g d => c_clo_none (d + 2) u hu hp)
    · obtain ⟨c, hc, ec, hc0⟩ := comp_le (P := F 8) (Q := F 9) (t := nI u) h10
      obtain ⟨mm, m11, em⟩ := mean_nat (F 6) c (F 19 u) hc
      by_cases m0 : mm = 0
      · subst m0
        refine ⟨0, xEnd F 0 u 0 (-6), fun L Z g d => ?_, fun z => absurd z (by decide), hi_end (by decide) hu hG (HF_mono (Nat.le_succ B) hF) hC hP hE hT, FrB_end FrB_rf⟩
        have := c_clo_0 (L := L) (F := mx F Z) (g := g) d n hn h10 h3 u hu c hc ec hp em
        rw [mx_end] at this
        exact this
      · rcases hP u hu with w | ⟨⟨p, pB, ep⟩, -⟩
        · exact absurd w hp
        · have hC2 := hC
          obtain ⟨a, b, l, s, c0, c1, c2, c3, c4, c5, c6, c7, c8, c9⟩ := hC2
          have p1 : 1 ≤ p := by
            rcases Nat.lt_or_ge p a with z | z
            · exfalso
              have : sMean (F 6) c (F 19 u) = 0 := by
                unfold sMean
                rw [c0, ep]
                exact if_neg (nI_ge z (by omega))
              rw [this] at em
              have := (nI_eq (a := 0) (b := mm) (by decide) (by omega)).mp em
              omega
            · omega
          refine ⟨nI mm, xEnd (xEnter F mm (F 19 u)) 0 u (nI mm) (-6), fun L Z g d => ?_, fun z => absurd z (err_n (by omega)), ?_, FrB_end (FrB_pe (FrB_pe FrB_rf (by decide) (by decide)) (by decide) (by decide))⟩
          · have := c_clo_n (L := L) (F := mx F Z) (g := g) d n hn h10 h3 u hu c hc ec hp mm (by omega) m11 em
            rw [show mx F Z 19 u = F 19 u from rfl, mx_enter, mx_end] at this
            exact this
          · obtain ⟨t, ht, et⟩ := hT
            obtain ⟨t2, -, t10, e2⟩ := xEnd_14 (A := xEnter F mm (F 19 u)) (h := 0) (u := u) (m := nI mm) (w := (-6)) et ht
            refine ⟨n, ?_, ?_, ?_, ?_, ?_, ⟨t2, t10, e2⟩⟩
            · rw [xEnd_r (c := 7) (by decide), xEnd_r (c := 8) (by decide), xEnd_r (c := 9) (by decide), xEnd_r (c := 11) (by decide)]
              exact hG
            · rw [xEnd_r (c := 10) (by decide)]
              exact HF_mono (Nat.le_succ B) hF
            · rw [xEnd_r (c := 6) (by decide)]
              exact hC
            · rw [xEnd_r (c := 8) (by decide), xEnd_19]
              exact HP_mono (Nat.le_succ B) (HP_pause hP (Or.inl rfl))
            · rw [xEnd_r (c := 15) (by decide), xEnd_r (c := 16) (by decide), xEnd_17, xEnd_20]
              have := HE_mean (mm := mm) hB hE hu p1 pB
              rw [← ep] at this
              exact this
  · exact oe_err h (-1) (fun L Z g d => c_clo_no (d + 2) x hx)
end
section
/-! word, cough, pass, and a saved state brought back -/
theorem hf_up {k : Nat} {f : Nat → Int32} {x b b2 : Nat} (h : ∀ j, j < 10 → ∃ v, v ≤ b ∧ f j = nI v) (hk : k < 10) (hx : x + b ≤ b2) : ∀ j, j < 10 → ∃ v, v ≤ b2 ∧ va_up f k (f k + nI x) j = nI v := by
  intro j hj
  by_cases e : j = k
  · subst e
    obtain ⟨v, hv, ev⟩ := h j hj
    exact ⟨v + x, by omega, by rw [up_eq, ev, nI_add]⟩
  · obtain ⟨v, hv, ev⟩ := h j hj
    exact ⟨v, by omega, by rw [up_ne e]; exact ev⟩
/-- how a word that is carried out leaves the room: what the lexicon of meanings holds is untouched -/
def BK (h : Nat) (x : Int32) (F G : Nat → Nat → Int32) : Prop := G 15 = F 15 ∧ G 17 0 = F 17 0 ∧ G 18 0 = nI h ∧ G 18 3 = 0 ∧ G 18 4 = x ∧ ∃ t, 0 < t ∧ t ≤ 10 ∧ G 14 4 = nI t
def OB (B h : Nat) (x : Int32) (y : MethodName) (M : mM) (as : List Value) (F : Nat → Nat → Int32) : Prop := ∃ r G, RE y M as F r G ∧ (isE r → G = F) ∧ HI (B + 1) G ∧ FrB F G ∧ (¬ isE r → BK h x F G) ∧ (isE r ∨ r = (-6) ∨ ∃ v, v < 2 ^ 31 ∧ r = nI v)
theorem ob_oe {B h : Nat} {x : Int32} {y : MethodName} {M : mM} {as : List Value} {F : Nat → Nat → Int32} (hO : OB B h x y M as F) : OE B y M as F := by
  obtain ⟨r, G, h1, h2, h3, h4, -, -⟩ := hO
  exact ⟨r, G, h1, h2, h3, h4⟩
theorem ob_err {B hh : Nat} {x : Int32} {y : MethodName} {M : mM} {as : List Value} {F : Nat → Nat → Int32} (h : HI B F) (r : Int32) (he : isE r) (hr : RE y M as F r F) : OB B hh x y M as F := ⟨r, F, hr, fun _ => rfl, HI_mono (Nat.le_succ B) h, FrB_rf, fun q => absurd he q, Or.inl he⟩
theorem bk_end {A F : Nat → Nat → Int32} {h u : Nat} {x : Int32} (hh : h = 1 ∨ h = 2) (e15 : A 15 = F 15) (e17 : A 17 = F 17) (hT : HT (A 14)) : BK h x F (xEnd A h u 0 x) := by
  obtain ⟨t, ht, et⟩ := hT
  obtain ⟨t2, t0, t10, e2⟩ := xEnd_14 (A := A) (h := h) (u := u) (m := 0) (w := x) et ht
  obtain ⟨a, b, c⟩ := xEnd_18 (A := A) (h := h) (u := u) (m := 0) (w := x)
  refine ⟨(xEnd_r (by decide)).trans e15, ?_, a, b, c, t2, t0, t10, e2⟩
  rw [xEnd_17, up_ne (by omega), e17]
theorem ob_word {B : Nat} {F : Nat → Nat → Int32} (hB : B ≤ 1000) (h : HI B F) (x : Int32) : OB B 1 x yX4_breakByWord MX4_breakByWord [.ref 5, .int x] F := by
  have h0 := h
  obtain ⟨n, hG, hF, hC, hP, hE, hT⟩ := h0
  have hG2 := hG
  obtain ⟨hn, h10, hs, ⟨q, hq⟩, -⟩ := hG2
  by_cases hx : 0 ≤ x ∧ x < F 7 0
  · obtain ⟨k, hk, rfl⟩ := kn_i (by rw [← hn]; exact hx) h10
    rcases hs k hk with e | ⟨u, hu, e⟩
    · exact ob_err h (-5) (by decide) (fun L Z g d => c_wrd_gone (F := mx F Z) (d + 1) n hn h10 k hk e)
    · by_cases hp : F 19 u = (-6)
      · exact ob_err h (-5) (by decide) (fun L Z g d => c_wrd_quiet (F := mx F Z) (d + 1) n hn h10 k hk u hu e hp)
      · have hC2 := hC
        obtain ⟨a, b, l, s, c0, c1, c2, c3, c4, c5, c6, c7, c8, c9⟩ := hC2
        have hf1 : ∀ j, j < 10 → ∃ v, v ≤ 10 * B + 9 ∧ pe F 10 k (F 10 k + F 6 3) 10 j = nI v := by
          intro j hj
          show ∃ v, v ≤ 10 * B + 9 ∧ va_up (F 10) k (F 10 k + F 6 3) j = nI v
          rw [c3]
          exact hf_up hF (by omega) (by omega) j hj
        rcases host_spec (P := F 8) (Q := F 9) (t := nI u) hq with ⟨-, z⟩ | ⟨w, hw, ew, pw, -⟩
        · exact absurd e (z k hk)
        · by_cases hwk : w = k
          · have f1 : HF (B + 1) (pe (pe F 10 k (F 10 k + F 6 3)) 12 k (pe F 10 k (F 10 k + F 6 3) 12 k + 1) 10) := fun j hj => by
              obtain ⟨v, hv, ev⟩ := hf1 j hj
              exact ⟨v, by omega, ev⟩
            obtain ⟨v, hv, ev⟩ := f1 k (by omega)
            have er : xEnd (pe (pe F 10 k (F 10 k + F 6 3)) 12 k (pe F 10 k (F 10 k + F 6 3) 12 k + 1)) 1 u 0 (nI k) 10 k = nI v := by rw [xEnd_r (c := 10) (by decide)]; exact ev
            refine ⟨_, xEnd (pe (pe F 10 k (F 10 k + F 6 3)) 12 k (pe F 10 k (F 10 k + F 6 3) 12 k + 1)) 1 u 0 (nI k), fun L Z g d => ?_, fun z => absurd (by rw [← er]; exact z) (err_n (n := v) (by omega)), hi_end (by decide) hu hG f1 hC hP hE hT, FrB_end (FrB_pe (FrB_pe FrB_rf (by decide) (by decide)) (by decide) (by decide)), fun _ => bk_end (Or.inl rfl) rfl rfl hT, Or.inr (Or.inr ⟨v, by omega, er⟩)⟩
            have := c_wrd_self (L := L) (F := mx F Z) (g := g) d n hn h10 k hk u hu e hp w (by omega) ew hwk
            rw [show mx F Z 10 k = F 10 k from rfl, show mx F Z 6 3 = F 6 3 from rfl, mx_pe (c := 10) rfl] at this
            generalize pe F 10 k (F 10 k + F 6 3) = A at this ⊢
            rw [show mx A Z 12 k = A 12 k from rfl, mx_pe (c := 12) rfl, mx_end] at this
            exact this
          · obtain ⟨v1, hv1, ev1⟩ := hf1 w (by omega)
            have hf2 : ∀ j, j < 10 → ∃ v, v ≤ 10 * B + 10 ∧ pe (pe F 10 k (F 10 k + F 6 3)) 10 w (pe F 10 k (F 10 k + F 6 3) 10 w + 1) 10 j = nI v := by
              intro j hj
              exact hf_up (x := 1) hf1 (by omega) (by omega) j hj
            have f1 : HF (B + 1) (pe (pe (pe F 10 k (F 10 k + F 6 3)) 10 w (pe F 10 k (F 10 k + F 6 3) 10 w + 1)) 12 k (pe (pe F 10 k (F 10 k + F 6 3)) 10 w (pe F 10 k (F 10 k + F 6 3) 10 w + 1) 12 k + 1) 10) := fun j hj => by
              obtain ⟨v, hv, ev⟩ := hf2 j hj
              exact ⟨v, by omega, ev⟩
            obtain ⟨v, hv, ev⟩ := f1 k (by omega)
            have er : xEnd (pe (pe (pe F 10 k (F 10 k + F 6 3)) 10 w (pe F 10 k (F 10 k + F 6 3) 10 w + 1)) 12 k (pe (pe F 10 k (F 10 k + F 6 3)) 10 w (pe F 10 k (F 10 k + F 6 3) 10 w + 1) 12 k + 1)) 1 u 0 (nI k) 10 k = nI v := by rw [xEnd_r (c := 10) (by decide)]; exact ev
            refine ⟨_, xEnd (pe (pe (pe F 10 k (F 10 k + F 6 3)) 10 w (pe F 10 k (F 10 k + F 6 3) 10 w + 1)) 12 k (pe (pe F 10 k (F 10 k + F 6 3)) 10 w (pe F 10 k (F 10 k + F 6 3) 10 w + 1) 12 k + 1)) 1 u 0 (nI k), fun L Z g d => ?_, fun z => absurd (by rw [← er]; exact z) (err_n (n := v) (by omega)), hi_end (by decide) hu hG f1 hC hP hE hT, FrB_end (FrB_pe (FrB_pe (FrB_pe FrB_rf (by decide) (by decide)) (by decide) (by decide)) (by decide) (by decide)), fun _ => bk_end (Or.inl rfl) rfl rfl hT, Or.inr (Or.inr ⟨v, by omega, er⟩)⟩
            have := c_wrd_other (L := L) (F := mx F Z) (g := g) d n hn h10 k hk u hu e hp w (by omega) ew hwk
            rw [show mx F Z 10 k = F 10 k from rfl, show mx F Z 6 3 = F 6 3 from rfl, mx_pe (c := 10) rfl] at this
            generalize pe F 10 k (F 10 k + F 6 3) = A at this ⊢
            rw [show mx A Z 10 w = A 10 w from rfl, mx_pe (c := 10) rfl] at this
            generalize pe A 10 w (A 10 w + 1) = A2 at this ⊢
            rw [show mx A2 Z 12 k = A2 12 k from rfl, mx_pe (c := 12) rfl, mx_end] at this
            exact this
  · exact ob_err h (-1) (by decide) (fun L Z g d => c_wrd_no (d + 1) x hx)
theorem ob_cough {B : Nat} {F : Nat → Nat → Int32} (h : HI B F) (x : Int32) : OB B 2 x yX4_breakByCough MX4_breakByCough [.ref 5, .int x] F := by
  have h0 := h
  obtain ⟨n, hG, hF, hC, hP, hE, hT⟩ := h0
  have hG2 := hG
  obtain ⟨hn, h10, hs, hq, hc⟩ := hG2
  by_cases hx : 0 ≤ x ∧ x < F 7 0
  · obtain ⟨k, hk, rfl⟩ := kn_i (by rw [← hn]; exact hx) h10
    rcases hs k hk with e | ⟨u, hu, e⟩
    · exact ob_err h (-5) (by decide) (fun L Z g d => c_cgh_gone (F := mx F Z) (d + 1) n hn h10 k hk e)
    · by_cases hp : F 19 u = (-6)
      · exact ob_err h (-5) (by decide) (fun L Z g d => c_cgh_quiet (F := mx F Z) (d + 1) n hn h10 k hk u hu e hp)
      · have hC2 := hC
        obtain ⟨a, b, l, s, c0, c1, c2, c3, c4, c5, c6, c7, c8, c9⟩ := hC2
        rcases lend_spec (P := F 8) (Q := F 9) (R := F 11) (x := nI k) (t := nI u) n with el | ⟨w, hw, el, hwk, hcw, pw⟩
        · have f1 : HF (B + 1) (pe (pe F 10 k (F 10 k + F 6 3)) 12 k (pe F 10 k (F 10 k + F 6 3) 12 k + 1) 10) := by
            intro j hj
            show ∃ v, v ≤ 10 * (B + 1) ∧ va_up (F 10) k (F 10 k + F 6 3) j = nI v
            rw [c3]
            exact hf_up hF (by omega) (by omega) j hj
          refine ⟨-6, xEnd (pe (pe F 10 k (F 10 k + F 6 3)) 12 k (pe F 10 k (F 10 k + F 6 3) 12 k + 1)) 2 u 0 (nI k), fun L Z g d => ?_, fun z => absurd z (by decide), hi_end (by decide) hu hG f1 hC hP hE hT, FrB_end (FrB_pe (FrB_pe FrB_rf (by decide) (by decide)) (by decide) (by decide)), fun _ => bk_end (Or.inr rfl) rfl rfl hT, Or.inr (Or.inl rfl)⟩
          have := c_cgh_self (L := L) (F := mx F Z) (g := g) d n hn h10 k hk u hu e hp el
          rw [show mx F Z 10 k = F 10 k from rfl, show mx F Z 6 3 = F 6 3 from rfl, mx_pe (c := 10) rfl] at this
          generalize pe F 10 k (F 10 k + F 6 3) = A at this ⊢
          rw [show mx A Z 12 k = A 12 k from rfl, mx_pe (c := 12) rfl, mx_end] at this
          exact this
        · refine ⟨nI w, xEnd (pe (pe (pe F 11 w (F 11 w - 1)) 13 w (pe F 11 w (F 11 w - 1) 13 w + 1)) 12 k (pe (pe F 11 w (F 11 w - 1)) 13 w (pe F 11 w (F 11 w - 1) 13 w + 1) 12 k + 1)) 2 u 0 (nI k), fun L Z g d => ?_, fun z => absurd z (err_n (by omega)), hi_end (by decide) hu ⟨hn, h10, hs, hq, ?_⟩ (HF_mono (Nat.le_succ B) hF) hC hP hE hT, FrB_end (FrB_pe (FrB_pe (FrB_pe FrB_rf (by decide) (by decide)) (by decide) (by decide)) (by decide) (by decide)), fun _ => bk_end (Or.inr rfl) rfl rfl hT, Or.inr (Or.inr ⟨w, by omega, rfl⟩)⟩
          · have := c_cgh_other (L := L) (F := mx F Z) (g := g) d n hn h10 k hk u hu e hp w (by omega) el
            rw [show mx F Z 11 w = F 11 w from rfl, mx_pe (c := 11) rfl] at this
            generalize pe F 11 w (F 11 w - 1) = A at this ⊢
            rw [show mx A Z 13 w = A 13 w from rfl, mx_pe (c := 13) rfl] at this
            generalize pe A 13 w (A 13 w + 1) = A2 at this ⊢
            rw [show mx A2 Z 12 k = A2 12 k from rfl, mx_pe (c := 12) rfl, mx_end] at this
            exact this
          · intro j hj
            show ∃ c, c ≤ 9 ∧ va_up (F 11) w (F 11 w - 1) j = nI c
            by_cases ej : j = w
            · subst ej
              obtain ⟨c, c9, ec⟩ := hc j hj
              rw [up_eq, ec]
              rcases c with _ | c
              · rw [ec] at hcw
                exact absurd (show nI 0 ≤ 0 by decide) hcw
              · exact ⟨c, by omega, nI_pred c⟩
            · rw [up_ne ej]
              exact hc j hj
  · exact ob_err h (-1) (by decide) (fun L Z g d => c_cgh_no (d + 1) x hx)
theorem pass_n {x : Int32} (h : 1 ≤ x ∧ x ≤ 99) : ∃ s, s ≤ 99 ∧ x = nI s := by
  have h0 : ¬ x < 0 := by
    have := h.1
    rw [i_le, show (1 : Int32).toInt = 1 from by decide] at this
    rw [i_lt, i_0]
    omega
  exact nI_of2 (x := x) (M := 99) (n := 99) (by decide) h0 h.2
/-- what a pass leaves: the pauses that were begun are longer -/
theorem pass_step {B n s : Nat} {F : Nat → Nat → Int32} {cp : Nat → Nat} (hs : s ≤ 99) (hP : HP B n (F 8) (F 19)) : ∀ k, k ≤ 3 → (∀ c, c ≠ 5 → c ≠ 19 → (xPass F (nI s) cp k).1 c = F c) ∧ (∀ t, t < 3 → (t < k ∧ ((F 19 t = (-6) ∧ (xPass F (nI s) cp k).1 19 t = (-6)) ∨ ∃ p, p ≤ 100 * B + 99 ∧ ¬ F 19 t = (-6) ∧ (xPass F (nI s) cp k).1 19 t = nI p)) ∨ (k ≤ t ∧ (xPass F (nI s) cp k).1 19 t = F 19 t)) ∧ ∃ m, m ≤ k ∧ (xPass F (nI s) cp k).2 = nI m := by
  intro k
  induction k with
  | zero => exact fun _ => ⟨fun c h5 _ => pe_row h5, fun t _ => Or.inr ⟨Nat.zero_le _, rfl⟩, 0, Nat.le_refl _, rfl⟩
  | succ k ih =>
    intro hk
    obtain ⟨i1, i2, m, hm, em⟩ := ih (by omega)
    have e : xPass F (nI s) cp (k + 1) = xPassF (nI s) cp (xPass F (nI s) cp k) k := rfl
    rw [e]
    generalize xPass F (nI s) cp k = a at i1 i2 em
    obtain ⟨A, v⟩ := a
    simp only at i1 i2 em
    have hk19 : A 19 k = F 19 k := by
      rcases i2 k (by omega) with ⟨z, -⟩ | ⟨-, z⟩
      · omega
      · exact z
    unfold xPassF
    by_cases hz : A 19 k = (-6)
    · simp only [hz, if_true]
      refine ⟨i1, fun t ht => ?_, m, by omega, em⟩
      rcases i2 t ht with ⟨z, y⟩ | ⟨z, y⟩
      · exact Or.inl ⟨by omega, y⟩
      · by_cases et : t = k
        · subst et
          exact Or.inl ⟨Nat.lt_succ_self t, Or.inl ⟨hk19.symm.trans hz, hz⟩⟩
        · exact Or.inr ⟨by omega, y⟩
    · simp only [hz, if_false]
      refine ⟨fun c h5 h19 => (pe_row h19).trans (i1 c h5 h19), fun t ht => ?_, ?_⟩
      · by_cases et : t = k
        · subst et
          refine Or.inl ⟨Nat.lt_succ_self t, Or.inr ?_⟩
          rcases hP t ht with w | ⟨⟨p, hp, ep⟩, -⟩
          · exact absurd (hk19.trans w) hz
          · exact ⟨p + s, by omega, fun w => hz (hk19.trans w), by rw [pe_eq, hk19, ep, nI_add]⟩
        · rw [show pe A 19 k (A 19 k + nI s) 19 t = A 19 t from pe_ne (fun w => et w.2)]
          rcases i2 t ht with ⟨z, y⟩ | ⟨z, y⟩
          · exact Or.inl ⟨by omega, y⟩
          · exact Or.inr ⟨by omega, y⟩
      · by_cases q : sMean (A 6) (cp k) (A 19 k + nI s) = 0
        · exact ⟨m, by omega, by rw [if_pos q, em]; exact Int32.add_zero _⟩
        · exact ⟨m + 1, by omega, by rw [if_neg q, em]; exact nI_1 m⟩
theorem oe_pass {B : Nat} {F : Nat → Nat → Int32} (h3 : F 3 = mMB) (h : HI B F) (x : Int32) : OE B yX4_letPass MX4_letPass [.ref 5, .int x] F := by
  have h0 := h
  obtain ⟨n, hG, hF, hC, hP, hE, hT⟩ := h0
  have hG2 := hG
  obtain ⟨hn, h10, hs, -, -⟩ := hG2
  by_cases hv : 1 ≤ x ∧ x ≤ 99
  · by_cases ho : F 5 0 + x ≤ 9999
    · obtain ⟨s, s99, rfl⟩ := pass_n hv
      obtain ⟨cp, hcp⟩ : ∃ cp : Nat → Nat, ∀ t, t < 3 → cp t ≤ 4 ∧ sComp (F 8) (F 9) (nI t) (-6) n = nI (cp t) := by
        refine ⟨fun t => (comp_le (P := F 8) (Q := F 9) (t := nI t) h10).choose, fun t _ => ?_⟩
        have := (comp_le (P := F 8) (Q := F 9) (t := nI t) h10).choose_spec
        exact ⟨this.1, this.2.1⟩
      obtain ⟨i1, i2, m, hm, em⟩ := pass_step (F := F) (cp := cp) s99 hP 3 (Nat.le_refl _)
      refine ⟨(xPass F (nI s) cp 3).2, (xPass F (nI s) cp 3).1, fun L Z g d => ?_, fun z => absurd (by rw [← em]; exact z) (err_n (n := m) (by omega)), ⟨n, ?_, ?_, ?_, ?_, ?_, ?_⟩, fun c hc => i1 c (by omega) (by omega)⟩
      · have := c_pas_ok (L := L) (F := mx F Z) (g := g) d n hn h10 h3 (nI s) cp hcp hv ho
        rw [mx_pass] at this
        exact this
      · rw [i1 7 (by decide) (by decide), i1 8 (by decide) (by decide), i1 9 (by decide) (by decide), i1 11 (by decide) (by decide)]
        exact hG
      · rw [i1 10 (by decide) (by decide)]
        exact HF_mono (Nat.le_succ B) hF
      · rw [i1 6 (by decide) (by decide)]
        exact hC
      · rw [i1 8 (by decide) (by decide)]
        intro t ht
        rcases i2 t ht with ⟨-, ⟨-, y⟩ | ⟨p, hp, y, z⟩⟩ | ⟨w, -⟩
        · exact Or.inl y
        · right
          refine ⟨⟨p, by omega, z⟩, ?_⟩
          rcases hP t ht with w | ⟨-, w⟩
          · exact absurd w y
          · exact w
        · omega
      · rw [i1 15 (by decide) (by decide), i1 16 (by decide) (by decide), i1 17 (by decide) (by decide), i1 20 (by decide) (by decide)]
        exact HE_mono (Nat.le_succ B) hE
      · rw [i1 14 (by decide) (by decide)]
        exact hT
    · exact oe_err h (-5) (fun L Z g d => c_pas_over (d + 3) x hv ho)
  · exact oe_err h (-2) (fun L Z g d => c_pas_bad (d + 3) x hv)
/-- slot 0's rows as a room's -/
def slF (F : Nat → Nat → Int32) (c : Nat) : Nat → Int32 := F (c + 132)
theorem oe_restore {B : Nat} {F : Nat → Nat → Int32} (h : HI B F) (hS : ¬ F 169 0 = 0) (h2 : HI B (slF F)) : OE B yX5_giveBack MX5_giveBack [.ref 135, .int 0, .ref 5] F := by
  have e : ∀ c j, c < 16 → mVal c j → xCopyR F 5 137 (5 + c) j = slF F (5 + c) j := fun c j hc hv => by
    rw [xCopyR_in (by decide) hc hv]
    unfold slF
    rw [show 5 + c + 132 = 137 + c by omega]
  have hI := HI_congr (G := xCopyR F 5 137) e h2
  refine ⟨xCopyR F 5 137 7 0, xCopyR F 5 137, fun L Z g d => ?_, fun z => ?_, HI_mono (Nat.le_succ B) hI, fun c hc => xCopyR_out (by omega)⟩
  · have := c_back_ok (L := L) (F := mx F Z) (g := g) d 0 (by decide) hS
    rw [mx_copy (i := 5) (j := 137 + 16 * 0) (fun c hc => inS_lo (by omega)) (fun c hc => inS_hi (by omega) (by omega))] at this
    exact this
  · obtain ⟨n, ⟨hn, h10, -⟩, -⟩ := hI
    rw [hn] at z
    exact absurd z (err_n (by omega))
end
section
def kN (k : Nat) : Nat := if k < 6 then k + 1 else 6
def kP (π : Nat → Nat) (k : Nat) : Nat → Nat := if k < 6 then π else fun i => π ((i + 1) % 7)
theorem kP_g {g : Nat → Option Nat} {π : Nat → Nat} {k : Nat} (hg : ∀ i, i < 7 → g i = some (23 + 16 * π i)) : ∀ i, i < 7 → xKG g π k i = some (23 + 16 * kP π k i) := by
  intro i hi
  unfold xKG kP
  split
  · exact hg i hi
  · exact xRot_at hi
theorem xKF_21 {A : Nat → Nat → Int32} {k : Nat} (hk : k ≤ 6) (e : A 21 1 = nI k) : xKF A k 21 1 = nI (kN k) := by
  unfold xKF kN
  split
  · rw [pe_eq, e]
    exact nI_1 k
  · rw [e]
    congr 1
    omega
theorem xKF_o {A : Nat → Nat → Int32} {k c : Nat} (h : c ≠ 21) : xKF A k c = A c := by
  unfold xKF
  split
  · exact pe_row h
  · rfl
/-! a public change: what it answers, what it leaves, the state before it kept -/
def HS (k : Nat) (π : Nat → Nat) (Z : Nat → Nat → Int32) (g : Nat → Option Nat) : Prop := (∀ i, i < 7 → g i = some (23 + 16 * π i)) ∧ (∀ i, i < 7 → π i < 7) ∧ k ≤ 6 ∧ Z 21 1 = nI k
/-- the latest kept state is F's room -/
def UD (k : Nat) (π : Nat → Nat) (F Z : Nat → Nat → Int32) : Prop := 0 < k ∧ ∀ c j, c < 16 → mVal c j → Z (23 + 16 * π (k - 1) + c) j = F (5 + c) j
def CWr (yc : MethodName) (Mc : mM) (ca : List Value) (yx : MethodName) (Mx : mM) (ax : List Value) : Prop :=
  ∀ (L : Nat) (F : Nat → Nat → Int32) (g : Nat → Option Nat) (d : Nat) (π : Nat → Nat), (∀ i, i < 7 → g i = some (23 + 16 * π i)) → (∀ i, i < 7 → π i < 7) → ∀ k, k < 7 → F 21 1 = nI k → ∀ (r : Int32) (F1 : Nat → Nat → Int32) (hp2 : mHp), mCall (d + 3) yc Mc ca (mHX L (xCopyR F (23 + 16 * π k) 5) g) (some (.int r)) (mHX L F1 g) → mCall (d + 3) yX6_keptUnlessError MX6_keptUnlessError [.ref 4, .int r] (mHX L F1 g) (some (.int r)) hp2 → mCall (d + 4) yx Mx ax (mHX L F g) (some (.int r)) hp2
/-- a call that may change the room: the same answer and the same rows, whatever the rest holds -/
def CH (d : Nat) (y : MethodName) (M : mM) (as : List Value) (F : Nat → Nat → Int32) (r : Int32) (G : Nat → Nat → Int32) : Prop :=
  ∀ (L : Nat) (Z : Nat → Nat → Int32) (g : Nat → Option Nat) (k : Nat) (π : Nat → Nat), HS k π Z g → ∃ Z1 g1 π1, mCall d y M as (mHX L (mx F Z) g) (some (.int r)) (mHX L (mx G Z1) g1) ∧ ((isE r ∧ G = F ∧ HS k π1 Z1 g1) ∨ (¬ isE r ∧ HS (kN k) π1 Z1 g1 ∧ UD (kN k) π1 F Z1))
theorem kP_lt {π : Nat → Nat} {k : Nat} (h : ∀ i, i < 7 → π i < 7) : ∀ i, i < 7 → kP π k i < 7 := by
  intro i hi
  unfold kP
  split
  · exact h i hi
  · exact h _ (Nat.mod_lt _ (by decide))
theorem kN_le (k : Nat) : 0 < kN k ∧ kN k ≤ 6 := by
  unfold kN
  split <;> omega
theorem kP_last {π : Nat → Nat} {k : Nat} (hk : k ≤ 6) : kP π k (kN k - 1) = π k := by
  unfold kP kN
  by_cases h : k < 6
  · rw [if_pos h, if_pos h]
    exact congrArg π (by omega)
  · obtain rfl : k = 6 := by omega
    rfl
theorem ch_of {d : Nat} {yc : MethodName} {Mc : mM} {ca : List Value} {yx : MethodName} {Mx : mM} {ax : List Value} {F G : Nat → Nat → Int32} {r : Int32} (hW : CWr yc Mc ca yx Mx ax) (hR : RE yc Mc ca F r G) (hE : isE r → G = F) : CH (d + 4) yx Mx ax F r G := by
  intro L Z g k π ⟨hg, hπ, hk, e21⟩
  have pk7 := hπ k (by omega)
  have eA : xCopyR (mx F Z) (23 + 16 * π k) 5 = mx F (xCopyR (mx F Z) (23 + 16 * π k) 5) := mx_of (fun c hc => by
    rw [xCopyR_out (by have := inS_or hc; omega), mx_in hc])
  have a21 : xCopyR (mx F Z) (23 + 16 * π k) 5 21 1 = nI k := by
    rw [xCopyR_out (by omega)]
    exact e21
  have aU : ∀ c j, c < 16 → mVal c j → xCopyR (mx F Z) (23 + 16 * π k) 5 (23 + 16 * π k + c) j = F (5 + c) j := fun c j hc hv => by
    rw [xCopyR_in (by omega) hc hv, mx_in (inS_lo (by omega))]
  have H := hR L (xCopyR (mx F Z) (23 + 16 * π k) 5) g d
  rw [← eA] at H
  generalize hA : xCopyR (mx F Z) (23 + 16 * π k) 5 = A at H eA a21 aU
  by_cases he : isE r
  · refine ⟨A, g, π, hW L (mx F Z) g d π hg hπ k (by omega) e21 r (mx G A) _ (by rw [hA]; exact H) (c_kept_err (d + 2) r he), Or.inl ⟨he, hE he, hg, hπ, hk, a21⟩⟩
  · have e3 : xKF (mx G A) k = mx G (xKF A k) := by
      unfold xKF
      split
      · exact mx_peo (c := 21) rfl
      · rfl
    refine ⟨xKF A k, xKG g π k, kP π k, ?_, Or.inr ⟨he, ⟨kP_g hg, kP_lt hπ, (kN_le k).2, xKF_21 hk a21⟩, (kN_le k).1, ?_⟩⟩
    · rw [← e3]
      exact hW L (mx F Z) g d π hg hπ k (by omega) e21 r (mx G A) _ (by rw [hA]; exact H) (c_kept_ok (F := mx G A) (d + 2) π hg hπ k (by omega) a21 r he)
    · intro c j hc hv
      rw [kP_last hk, xKF_o (by omega)]
      exact aU c j hc hv
/-- undo behind a change that was kept: the room is as before -/
theorem g_undo {M : mM} {d pc k Ln : Nat} {Ls : mLs} {st : List Value} {F G Z : Nat → Nat → Int32} {g : Nat → Option Nat} {π : Nat → Nat} {out : mOut} {idx : Nat} (hs : HS k π Z g) (hu : UD k π F Z) (hf : FrB F G) (hd : decode M.2.1 pc = .ok (.invokevirtual idx, 3)) (hl : Cond.methodLink M.1 idx yX6_undo ∈ mGW) (hst : st.length ≤ 4) (K : ∀ Z2, HS (k - 1) π Z2 g → mGo M (d + 5) (pc + 3, Ls, .int (nI (k - 1)) :: st, mHX Ln (mx F Z2) g) out) : mGo M (d + 5) (pc, Ls, .ref 4 :: st, mHX Ln (mx G Z) g) out := by
  obtain ⟨hg, hπ, hk, e21⟩ := hs
  obtain ⟨h0, hu⟩ := hu
  have pk7 := hπ (k - 1) (by omega)
  have ek : (mx G Z) 21 1 = nI (k - 1 + 1) := by
    rw [show k - 1 + 1 = k by omega]
    exact e21
  have H := c_x_undo (L := Ln) (F := mx G Z) (g := g) d _ _ (c_undo_ok d π hg hπ (k - 1) (by omega) ek)
  refine g_V0i hd hl sX6_undo rfl (by decide) hst H ?_
  refine mGo_room (F := F) (fun c j hc hv => ?_) (fun c hc h5 => ?_) (K _ ⟨hg, hπ, by omega, ?_⟩)
  · rw [xCopyR_in (by omega) hc hv, pe_row (by omega), mx_out (inS_no (by omega) (by omega))]
    exact hu c j hc hv
  · rw [xCopyR_out (by omega), pe_row (fun q => by rw [q] at hc; exact absurd hc (by decide)), mx_in hc]
    exact hf c (by omega)
  · rw [xCopyR_out (by omega), pe_eq, show (mx G Z) 21 1 = nI (k - 1 + 1) from ek]
    exact nI_pred (k - 1)
theorem cw_set (x y : Int32) : CWr yX4_changeSetting MX4_changeSetting [.ref 5, .int x, .int y] yX6_set MX6_set [.ref 4, .int x, .int y] := fun _ _ _ d π hg hπ k hk ek r F1 hp2 H HK => c_x_set d π hg hπ k hk ek x y r F1 hp2 H HK
theorem cw_guest (x y : Int32) : CWr yX4_welcome MX4_welcome [.ref 5, .int x, .int y] yX6_guest MX6_guest [.ref 4, .int x, .int y] := fun _ _ _ d π hg hπ k hk ek r F1 hp2 H HK => c_x_guest d π hg hπ k hk ek x y r F1 hp2 H HK
theorem cw_leave (x : Int32) : CWr yX4_seeOff MX4_seeOff [.ref 5, .int x] yX6_leave MX6_leave [.ref 4, .int x] := fun _ _ _ d π hg hπ k hk ek r F1 hp2 H HK => c_x_leave d π hg hπ k hk ek x r F1 hp2 H HK
theorem cw_move (x y : Int32) : CWr yX4_reseat MX4_reseat [.ref 5, .int x, .int y] yX6_move MX6_move [.ref 4, .int x, .int y] := fun _ _ _ d π hg hπ k hk ek r F1 hp2 H HK => c_x_move d π hg hπ k hk ek x y r F1 hp2 H HK
theorem cw_pause (x : Int32) : CWr yX4_beginPause MX4_beginPause [.ref 5, .int x] yX6_pause MX6_pause [.ref 4, .int x] := fun _ _ _ d π hg hπ k hk ek r F1 hp2 H HK => c_x_pause d π hg hπ k hk ek x r F1 hp2 H HK
theorem cw_close (x : Int32) : CWr yX4_closePause MX4_closePause [.ref 5, .int x] yX6_close MX6_close [.ref 4, .int x] := fun _ _ _ d π hg hπ k hk ek r F1 hp2 H HK => c_x_close d π hg hπ k hk ek x r F1 hp2 H HK
theorem cw_word (x : Int32) : CWr yX4_breakByWord MX4_breakByWord [.ref 5, .int x] yX6_word MX6_word [.ref 4, .int x] := fun _ _ _ d π hg hπ k hk ek r F1 hp2 H HK => c_x_word d π hg hπ k hk ek x r F1 hp2 H HK
theorem cw_cough (x : Int32) : CWr yX4_breakByCough MX4_breakByCough [.ref 5, .int x] yX6_cough MX6_cough [.ref 4, .int x] := fun _ _ _ d π hg hπ k hk ek r F1 hp2 H HK => c_x_cough d π hg hπ k hk ek x r F1 hp2 H HK
theorem cw_pass (x : Int32) : CWr yX4_letPass MX4_letPass [.ref 5, .int x] yX6_pass MX6_pass [.ref 4, .int x] := fun _ _ _ d π hg hπ k hk ek r F1 hp2 H HK => c_x_pass d π hg hπ k hk ek x r F1 hp2 H HK
theorem cw_restore (x : Int32) : CWr yX5_giveBack MX5_giveBack [.ref 135, .int x, .ref 5] yX6_restore MX6_restore [.ref 4, .int x] := fun _ _ _ d π hg hπ k hk ek r F1 hp2 H HK => c_x_restore d π hg hπ k hk ek x r F1 hp2 H HK
/-- what holds between two calls of the law -/
def IN (B : Nat) (X : Nat → Int32) (F : Nat → Nat → Int32) : Prop := F 0 = X ∧ F 2 = mHS ∧ F 3 = mMB ∧ ¬ F 169 0 = 0 ∧ HI B F ∧ HI B (slF F)
theorem IN_fr {B : Nat} {X : Nat → Int32} {F G : Nat → Nat → Int32} (h : IN B X F) (hI : HI (B + 1) G) (hf : FrB F G) : IN (B + 1) X G := by
  obtain ⟨h0, h2, h3, h4, -, h6⟩ := h
  refine ⟨(hf 0 (by decide)).trans h0, (hf 2 (by decide)).trans h2, (hf 3 (by decide)).trans h3, by rw [hf 169 (by decide)]; exact h4, hI, HI_mono (Nat.le_succ B) (HI_congr (fun c j hc hv => ?_) h6)⟩
  unfold slF
  rw [hf _ (by omega)]
/-- a call of the law's 'act': what it answers and leaves -/
def AC (B d : Nat) (y : MethodName) (M : mM) (as : List Value) (F : Nat → Nat → Int32) : Prop := ∃ r G, CH d y M as F r G ∧ HI (B + 1) G ∧ FrB F G
theorem ac_of {B d : Nat} {yc : MethodName} {Mc : mM} {ca : List Value} {yx : MethodName} {Mx : mM} {ax : List Value} {F : Nat → Nat → Int32} (hW : CWr yc Mc ca yx Mx ax) (hO : OE B yc Mc ca F) : AC B (d + 4) yx Mx ax F := by
  obtain ⟨r, G, h1, h2, h3, h4⟩ := hO
  exact ⟨r, G, ch_of hW h1 h2, h3, h4⟩
end
section
/-! told: what it answers depends on the rows that calls show alone -/
/-- a read: the same answer whatever the rest holds, and nothing changes -/
def RX (F : Nat → Nat → Int32) (y : MethodName) (M : mM) (as : List Value) (r : Int32) : Prop := ∀ (L : Nat) (Z : Nat → Nat → Int32) (g : Nat → Option Nat) (d : Nat), mCall (d + 3) y M as (mHX L (mx F Z) g) (some (.int r)) (mHX L (mx F Z) g)
theorem rx_count {B w : Nat} {F : Nat → Nat → Int32} (h : HI B F) (hw : w < 13) : ∃ r, RX F yX6_count MX6_count [.ref 4, .int (nI w)] r := by
  obtain ⟨n, ⟨hn, h10, -⟩, -⟩ := h
  rcases (by omega : w = 0 ∨ w = 1 ∨ w = 2 ∨ w = 3 ∨ w = 4 ∨ w = 5 ∨ w = 6 ∨ w = 7 ∨ w = 8 ∨ w = 9 ∨ w = 10 ∨ w = 11 ∨ w = 12) with rfl | rfl | rfl | rfl | rfl | rfl | rfl | rfl | rfl | rfl | rfl | rfl | rfl
  · exact ⟨_, fun L Z g d => c_cnt_0 (F := mx F Z) d⟩
  · exact ⟨((0 ||| sSet (F 8) 0 n) ||| sSet (F 8) 1 n) ||| sSet (F 8) 2 n, fun L Z g d => c_cnt_1 (F := mx F Z) d n hn h10⟩
  · exact ⟨sGo (F 19), fun L Z g d => c_cnt_2 (F := mx F Z) d⟩
  · exact ⟨_, fun L Z g d => c_cnt_3 (F := mx F Z) d⟩
  · exact ⟨_, fun L Z g d => c_cnt_4 (F := mx F Z) d⟩
  · exact ⟨_, fun L Z g d => c_cnt_5 (F := mx F Z) d⟩
  · exact ⟨sSum (F 10) n, fun L Z g d => c_cnt_6 (F := mx F Z) d n hn h10⟩
  · exact ⟨sMeant (F 15), fun L Z g d => c_cnt_7 (F := mx F Z) d⟩
  · exact ⟨sSumHere (F 8) (F 11) n, fun L Z g d => c_cnt_8 (F := mx F Z) d n hn h10⟩
  · exact ⟨_, fun L Z g d => c_cnt_9 (F := mx F Z) d⟩
  · exact ⟨_, fun L Z g d => c_cnt_10 (F := mx F Z) d⟩
  · exact ⟨_, fun L Z g d => c_cnt_11 (F := mx F Z) d⟩
  · exact ⟨_, fun L Z g d => c_cnt_12 (F := mx F Z) d⟩
theorem rx_of {B k w : Nat} {F : Nat → Nat → Int32} (h : HI B F) (hk : k < 10) (hw : w < 7) : ∃ r, RX F yX6_of MX6_of [.ref 4, .int (nI k), .int (nI w)] r := by
  obtain ⟨n, ⟨hn, h10, -⟩, -⟩ := h
  by_cases kn : k < n
  · rcases (by omega : w = 0 ∨ w = 1 ∨ w = 2 ∨ w = 3 ∨ w = 4 ∨ w = 5 ∨ w = 6) with rfl | rfl | rfl | rfl | rfl | rfl | rfl
    · exact ⟨_, fun L Z g d => c_of_0 (F := mx F Z) d n hn h10 k kn⟩
    · exact ⟨_, fun L Z g d => c_of_1 (F := mx F Z) d n hn h10 k kn⟩
    · exact ⟨_, fun L Z g d => c_of_2 (F := mx F Z) d n hn h10 k kn⟩
    · exact ⟨_, fun L Z g d => c_of_3 (F := mx F Z) d n hn h10 k kn⟩
    · exact ⟨mbi (¬ F 8 k = (-6) ∧ sHost (F 8) (F 9) (F 8 k) n = nI k), fun L Z g d => c_of_4 (F := mx F Z) d n hn h10 k kn⟩
    · exact ⟨_, fun L Z g d => c_of_5 (F := mx F Z) d n hn h10 k kn⟩
    · exact ⟨_, fun L Z g d => c_of_6 (F := mx F Z) d n hn h10 k kn⟩
  · exact ⟨_, fun L Z g d => c_of_no (F := mx F Z) d (nI k) (nI w) (fun q => kn (by
      have := q.2
      rw [show mx F Z 7 0 = nI n from hn] at this
      exact (nI_ltI (by omega) (by omega)).mp this))⟩
theorem rx_end {B k w : Nat} {F : Nat → Nat → Int32} (h : HI B F) (hk : k < 10) (hw : w < 5) : ∃ r, RX F yX6_end MX6_end [.ref 4, .int (nI k), .int (nI w)] r := by
  obtain ⟨-, -, -, -, -, -, t, ht, et⟩ := h
  by_cases kt : k < t
  · exact ⟨_, fun L Z g d => c_tel_ok (F := mx F Z) d t et ht k kt w hw⟩
  · exact ⟨_, fun L Z g d => c_tel_no (F := mx F Z) d (nI k) (nI w) (fun q => kt (by
      have := q.2
      rw [show mx F Z 14 4 = nI t from et] at this
      exact (nI_ltI (by omega) (by omega)).mp this))⟩
theorem rx_tab3 {t : Nat} {F : Nat → Nat → Int32} (ht : t < 3) : RX F yX6_table MX6_table [.ref 4, .int (nI t), .int 3] (F 19 t) := fun L Z g d => c_tab_3 (F := mx F Z) d t ht
theorem rx_tab5 {t : Nat} {F : Nat → Nat → Int32} (ht : t < 3) : RX F yX6_table MX6_table [.ref 4, .int (nI t), .int 5] (F 20 t) := fun L Z g d => c_tab_5 (F := mx F Z) d t ht
theorem rx_mng0 {m : Nat} {F : Nat → Nat → Int32} (h1 : 1 ≤ m) (h11 : m ≤ 11) : RX F yX6_meaning MX6_meaning [.ref 4, .int (nI m), .int 0] (F 15 m) := fun L Z g d => c_mng_0 (F := mx F Z) d m h1 h11
theorem rx_mng1 {m : Nat} {F : Nat → Nat → Int32} (h1 : 1 ≤ m) (h11 : m ≤ 11) : RX F yX6_meaning MX6_meaning [.ref 4, .int (nI m), .int 1] (F 16 m) := fun L Z g d => c_mng_1 (F := mx F Z) d m h1 h11
set_option maxHeartbeats 4000000 in
set_option maxRecDepth 100000 in
theorem to_c {L d : Nat} {F : Nat → Nat → Int32} {g : Nat → Option Nat} {out : mOut} (h : Int64) (x : Option Value) (k : Nat) (hk : k < 13) (r : Int32) (H : mCall (d + 3) yX6_count MX6_count [.ref 4, .int (nI k)] (mHX L F g) (some (.int r)) (mHX L F g)) (K : mGo ML_told (d + 4) (6, [some (.ref 4), some (.long (31 * h + (r).toInt64)), none, some (.int (nI (k + 1))), x], [], mHX L F g) out) : mGo ML_told (d + 4) (6, [some (.ref 4), some (.long h), none, some (.int (nI k)), x], [], mHX L F g) out := by
  refine g_iload_n dL_told_6 rfl ?_
  refine g_bipushv (v := 13) dL_told_7 rfl ?_
  refine g_icmp_ge (tgt := 31) dL_told_9 (by decide) (fun c9 => absurd c9 (nI_ge (a := k) (b := 13) (by omega) (by decide))) (fun c9 => ?_)
  refine g_ldc2 dL_told_12 kl_L_10 ?_
  refine g_lload_n dL_told_15 rfl ?_
  refine g_lmul dL_told_16 ?_
  refine g_aload_n dL_told_17 rfl ?_
  refine g_iload_n dL_told_18 rfl ?_
  refine g_V1i dL_told_19 ml_L_12 sX6_count rfl (by decide) (Nat.le_of_ble_eq_true rfl) (H) ?_
  refine g_i2l dL_told_22 ?_
  refine g_ladd dL_told_23 ?_
  refine g_lstore_n dL_told_24 (by decide) rfl ?_
  refine g_iincN dL_told_25 rfl (by decide) rfl ?_
  refine g_goto (tgt := 6) dL_told_28 (by decide) ?_
  exact K
set_option maxHeartbeats 4000000 in
set_option maxRecDepth 100000 in
theorem to_c0 {L d : Nat} {F : Nat → Nat → Int32} {g : Nat → Option Nat} {out : mOut} (h : Int64) (x : Option Value)  (K : mGo ML_told (d + 4) (33, [some (.ref 4), some (.long h), none, some (.int (nI 0)), x], [], mHX L F g) out) : mGo ML_told (d + 4) (6, [some (.ref 4), some (.long h), none, some (.int (nI 13)), x], [], mHX L F g) out := by
  refine g_iload_n dL_told_6 rfl ?_
  refine g_bipushv (v := 13) dL_told_7 rfl ?_
  refine g_icmp_ge (tgt := 31) dL_told_9 (by decide) (fun c9 => ?_) (fun c9 => absurd (nI_le (a := 13) (b := 13) (by decide) (by decide)) c9)
  refine g_iconstv (v := 0) dL_told_31 rfl ?_
  refine g_istore_n dL_told_32 (by decide) rfl ?_
  exact K
set_option maxHeartbeats 4000000 in
set_option maxRecDepth 100000 in
theorem to_o {L d : Nat} {F : Nat → Nat → Int32} {g : Nat → Option Nat} {out : mOut} (h : Int64) (x : Option Value) (k : Nat) (hk : k < 10) (K : mGo ML_told (d + 4) (42, [some (.ref 4), some (.long h), none, some (.int (nI k)), some (.int (nI 0))], [], mHX L F g) out) : mGo ML_told (d + 4) (33, [some (.ref 4), some (.long h), none, some (.int (nI k)), x], [], mHX L F g) out := by
  refine g_iload_n dL_told_33 rfl ?_
  refine g_bipushv (v := 10) dL_told_34 rfl ?_
  refine g_icmp_ge (tgt := 106) dL_told_36 (by decide) (fun c36 => absurd c36 (nI_ge (a := k) (b := 10) (by omega) (by decide))) (fun c36 => ?_)
  refine g_iconstv (v := 0) dL_told_39 rfl ?_
  refine g_istore dL_told_40 (by decide) rfl ?_
  exact K
set_option maxHeartbeats 4000000 in
set_option maxRecDepth 100000 in
theorem to_o0 {L d : Nat} {F : Nat → Nat → Int32} {g : Nat → Option Nat} {out : mOut} (h : Int64) (x : Option Value)  (K : mGo ML_told (d + 4) (108, [some (.ref 4), some (.long h), none, some (.int (nI 0)), x], [], mHX L F g) out) : mGo ML_told (d + 4) (33, [some (.ref 4), some (.long h), none, some (.int (nI 10)), x], [], mHX L F g) out := by
  refine g_iload_n dL_told_33 rfl ?_
  refine g_bipushv (v := 10) dL_told_34 rfl ?_
  refine g_icmp_ge (tgt := 106) dL_told_36 (by decide) (fun c36 => ?_) (fun c36 => absurd (nI_le (a := 10) (b := 10) (by decide) (by decide)) c36)
  refine g_iconstv (v := 0) dL_told_106 rfl ?_
  refine g_istore_n dL_told_107 (by decide) rfl ?_
  exact K
set_option maxHeartbeats 4000000 in
set_option maxRecDepth 100000 in
theorem to_f {L d : Nat} {F : Nat → Nat → Int32} {g : Nat → Option Nat} {out : mOut} (h : Int64) (x : Option Value) (k : Nat) (w : Nat) (hw : w < 7) (r : Int32) (H : mCall (d + 3) yX6_of MX6_of [.ref 4, .int (nI k), .int (nI w)] (mHX L F g) (some (.int r)) (mHX L F g)) (K : mGo ML_told (d + 4) (42, [some (.ref 4), some (.long (31 * h + (r).toInt64)), none, some (.int (nI k)), some (.int (nI (w + 1)))], [], mHX L F g) out) : mGo ML_told (d + 4) (42, [some (.ref 4), some (.long h), none, some (.int (nI k)), some (.int (nI w))], [], mHX L F g) out := by
  refine g_iload dL_told_42 rfl ?_
  refine g_bipushv (v := 7) dL_told_44 rfl ?_
  refine g_icmp_ge (tgt := 70) dL_told_46 (by decide) (fun c46 => absurd c46 (nI_ge (a := w) (b := 7) (by omega) (by decide))) (fun c46 => ?_)
  refine g_ldc2 dL_told_49 kl_L_10 ?_
  refine g_lload_n dL_told_52 rfl ?_
  refine g_lmul dL_told_53 ?_
  refine g_aload_n dL_told_54 rfl ?_
  refine g_iload_n dL_told_55 rfl ?_
  refine g_iload dL_told_56 rfl ?_
  refine g_V2i dL_told_58 ml_L_18 sX6_of rfl (by decide) (Nat.le_of_ble_eq_true rfl) (H) ?_
  refine g_i2l dL_told_61 ?_
  refine g_ladd dL_told_62 ?_
  refine g_lstore_n dL_told_63 (by decide) rfl ?_
  refine g_iincN dL_told_64 rfl (by decide) rfl ?_
  refine g_goto (tgt := 42) dL_told_67 (by decide) ?_
  exact K
set_option maxHeartbeats 4000000 in
set_option maxRecDepth 100000 in
theorem to_f0 {L d : Nat} {F : Nat → Nat → Int32} {g : Nat → Option Nat} {out : mOut} (h : Int64) (x : Option Value) (k : Nat) (K : mGo ML_told (d + 4) (73, [some (.ref 4), some (.long h), none, some (.int (nI k)), some (.int (nI 0))], [], mHX L F g) out) : mGo ML_told (d + 4) (42, [some (.ref 4), some (.long h), none, some (.int (nI k)), some (.int (nI 7))], [], mHX L F g) out := by
  refine g_iload dL_told_42 rfl ?_
  refine g_bipushv (v := 7) dL_told_44 rfl ?_
  refine g_icmp_ge (tgt := 70) dL_told_46 (by decide) (fun c46 => ?_) (fun c46 => absurd (nI_le (a := 7) (b := 7) (by decide) (by decide)) c46)
  refine g_iconstv (v := 0) dL_told_70 rfl ?_
  refine g_istore dL_told_71 (by decide) rfl ?_
  exact K
set_option maxHeartbeats 4000000 in
set_option maxRecDepth 100000 in
theorem to_e {L d : Nat} {F : Nat → Nat → Int32} {g : Nat → Option Nat} {out : mOut} (h : Int64) (x : Option Value) (k : Nat) (w : Nat) (hw : w < 5) (r : Int32) (H : mCall (d + 3) yX6_end MX6_end [.ref 4, .int (nI k), .int (nI w)] (mHX L F g) (some (.int r)) (mHX L F g)) (K : mGo ML_told (d + 4) (73, [some (.ref 4), some (.long (31 * h + (r).toInt64)), none, some (.int (nI k)), some (.int (nI (w + 1)))], [], mHX L F g) out) : mGo ML_told (d + 4) (73, [some (.ref 4), some (.long h), none, some (.int (nI k)), some (.int (nI w))], [], mHX L F g) out := by
  refine g_iload dL_told_73 rfl ?_
  refine g_iconstv (v := 5) dL_told_75 rfl ?_
  refine g_icmp_ge (tgt := 100) dL_told_76 (by decide) (fun c76 => absurd c76 (nI_ge (a := w) (b := 5) (by omega) (by decide))) (fun c76 => ?_)
  refine g_ldc2 dL_told_79 kl_L_10 ?_
  refine g_lload_n dL_told_82 rfl ?_
  refine g_lmul dL_told_83 ?_
  refine g_aload_n dL_told_84 rfl ?_
  refine g_iload_n dL_told_85 rfl ?_
  refine g_iload dL_told_86 rfl ?_
  refine g_V2i dL_told_88 ml_L_22 sX6_end rfl (by decide) (Nat.le_of_ble_eq_true rfl) (H) ?_
  refine g_i2l dL_told_91 ?_
  refine g_ladd dL_told_92 ?_
  refine g_lstore_n dL_told_93 (by decide) rfl ?_
  refine g_iincN dL_told_94 rfl (by decide) rfl ?_
  refine g_goto (tgt := 73) dL_told_97 (by decide) ?_
  exact K
set_option maxHeartbeats 4000000 in
set_option maxRecDepth 100000 in
theorem to_e0 {L d : Nat} {F : Nat → Nat → Int32} {g : Nat → Option Nat} {out : mOut} (h : Int64) (x : Option Value) (k : Nat) (K : mGo ML_told (d + 4) (33, [some (.ref 4), some (.long h), none, some (.int (nI (k + 1))), some (.int (nI 5))], [], mHX L F g) out) : mGo ML_told (d + 4) (73, [some (.ref 4), some (.long h), none, some (.int (nI k)), some (.int (nI 5))], [], mHX L F g) out := by
  refine g_iload dL_told_73 rfl ?_
  refine g_iconstv (v := 5) dL_told_75 rfl ?_
  refine g_icmp_ge (tgt := 100) dL_told_76 (by decide) (fun c76 => ?_) (fun c76 => absurd (nI_le (a := 5) (b := 5) (by decide) (by decide)) c76)
  refine g_iincN dL_told_100 rfl (by decide) rfl ?_
  refine g_goto (tgt := 33) dL_told_103 (by decide) ?_
  exact K
set_option maxHeartbeats 4000000 in
set_option maxRecDepth 100000 in
theorem to_t {L d : Nat} {F : Nat → Nat → Int32} {g : Nat → Option Nat} {out : mOut} (h : Int64) (x : Option Value) (k : Nat) (hk : k < 3) (r s : Int32) (H : mCall (d + 3) yX6_table MX6_table [.ref 4, .int (nI k), .int 3] (mHX L F g) (some (.int r)) (mHX L F g)) (H2 : mCall (d + 3) yX6_table MX6_table [.ref 4, .int (nI k), .int 5] (mHX L F g) (some (.int s)) (mHX L F g)) (K : mGo ML_told (d + 4) (108, [some (.ref 4), some (.long (31 * (31 * h + (r).toInt64) + (s).toInt64)), none, some (.int (nI (k + 1))), x], [], mHX L F g) out) : mGo ML_told (d + 4) (108, [some (.ref 4), some (.long h), none, some (.int (nI k)), x], [], mHX L F g) out := by
  refine g_iload_n dL_told_108 rfl ?_
  refine g_iconstv (v := 3) dL_told_109 rfl ?_
  refine g_icmp_ge (tgt := 145) dL_told_110 (by decide) (fun c110 => absurd c110 (nI_ge (a := k) (b := 3) (by omega) (by decide))) (fun c110 => ?_)
  refine g_ldc2 dL_told_113 kl_L_10 ?_
  refine g_ldc2 dL_told_116 kl_L_10 ?_
  refine g_lload_n dL_told_119 rfl ?_
  refine g_lmul dL_told_120 ?_
  refine g_aload_n dL_told_121 rfl ?_
  refine g_iload_n dL_told_122 rfl ?_
  refine g_iconstv (v := 3) dL_told_123 rfl ?_
  refine g_V2i dL_told_124 ml_L_25 sX6_table rfl (by decide) (Nat.le_of_ble_eq_true rfl) (H) ?_
  refine g_i2l dL_told_127 ?_
  refine g_ladd dL_told_128 ?_
  refine g_lmul dL_told_129 ?_
  refine g_aload_n dL_told_130 rfl ?_
  refine g_iload_n dL_told_131 rfl ?_
  refine g_iconstv (v := 5) dL_told_132 rfl ?_
  refine g_V2i dL_told_133 ml_L_25 sX6_table rfl (by decide) (Nat.le_of_ble_eq_true rfl) (H2) ?_
  refine g_i2l dL_told_136 ?_
  refine g_ladd dL_told_137 ?_
  refine g_lstore_n dL_told_138 (by decide) rfl ?_
  refine g_iincN dL_told_139 rfl (by decide) rfl ?_
  refine g_goto (tgt := 108) dL_told_142 (by decide) ?_
  exact K
set_option maxHeartbeats 4000000 in
set_option maxRecDepth 100000 in
theorem to_t0 {L d : Nat} {F : Nat → Nat → Int32} {g : Nat → Option Nat} {out : mOut} (h : Int64) (x : Option Value)  (K : mGo ML_told (d + 4) (147, [some (.ref 4), some (.long h), none, some (.int (nI 1)), x], [], mHX L F g) out) : mGo ML_told (d + 4) (108, [some (.ref 4), some (.long h), none, some (.int (nI 3)), x], [], mHX L F g) out := by
  refine g_iload_n dL_told_108 rfl ?_
  refine g_iconstv (v := 3) dL_told_109 rfl ?_
  refine g_icmp_ge (tgt := 145) dL_told_110 (by decide) (fun c110 => ?_) (fun c110 => absurd (nI_le (a := 3) (b := 3) (by decide) (by decide)) c110)
  refine g_iconstv (v := 1) dL_told_145 rfl ?_
  refine g_istore_n dL_told_146 (by decide) rfl ?_
  exact K
set_option maxHeartbeats 4000000 in
set_option maxRecDepth 100000 in
theorem to_m {L d : Nat} {F : Nat → Nat → Int32} {g : Nat → Option Nat} {out : mOut} (h : Int64) (x : Option Value) (k : Nat) (hk : k < 12) (r s : Int32) (H : mCall (d + 3) yX6_meaning MX6_meaning [.ref 4, .int (nI k), .int 0] (mHX L F g) (some (.int r)) (mHX L F g)) (H2 : mCall (d + 3) yX6_meaning MX6_meaning [.ref 4, .int (nI k), .int 1] (mHX L F g) (some (.int s)) (mHX L F g)) (K : mGo ML_told (d + 4) (147, [some (.ref 4), some (.long (31 * (31 * h + (r).toInt64) + (s).toInt64)), none, some (.int (nI (k + 1))), x], [], mHX L F g) out) : mGo ML_told (d + 4) (147, [some (.ref 4), some (.long h), none, some (.int (nI k)), x], [], mHX L F g) out := by
  refine g_iload_n dL_told_147 rfl ?_
  refine g_bipushv (v := 12) dL_told_148 rfl ?_
  refine g_icmp_ge (tgt := 185) dL_told_150 (by decide) (fun c150 => absurd c150 (nI_ge (a := k) (b := 12) (by omega) (by decide))) (fun c150 => ?_)
  refine g_ldc2 dL_told_153 kl_L_10 ?_
  refine g_ldc2 dL_told_156 kl_L_10 ?_
  refine g_lload_n dL_told_159 rfl ?_
  refine g_lmul dL_told_160 ?_
  refine g_aload_n dL_told_161 rfl ?_
  refine g_iload_n dL_told_162 rfl ?_
  refine g_iconstv (v := 0) dL_told_163 rfl ?_
  refine g_V2i dL_told_164 ml_L_28 sX6_meaning rfl (by decide) (Nat.le_of_ble_eq_true rfl) (H) ?_
  refine g_i2l dL_told_167 ?_
  refine g_ladd dL_told_168 ?_
  refine g_lmul dL_told_169 ?_
  refine g_aload_n dL_told_170 rfl ?_
  refine g_iload_n dL_told_171 rfl ?_
  refine g_iconstv (v := 1) dL_told_172 rfl ?_
  refine g_V2i dL_told_173 ml_L_28 sX6_meaning rfl (by decide) (Nat.le_of_ble_eq_true rfl) (H2) ?_
  refine g_i2l dL_told_176 ?_
  refine g_ladd dL_told_177 ?_
  refine g_lstore_n dL_told_178 (by decide) rfl ?_
  refine g_iincN dL_told_179 rfl (by decide) rfl ?_
  refine g_goto (tgt := 147) dL_told_182 (by decide) ?_
  exact K
set_option maxHeartbeats 4000000 in
set_option maxRecDepth 100000 in
theorem to_m0 {L d : Nat} {F : Nat → Nat → Int32} {g : Nat → Option Nat} (h : Int64) (x : Option Value) : mGo ML_told (d + 4) (147, [some (.ref 4), some (.long h), none, some (.int (nI 12)), x], [], mHX L F g) (some (.long h), mHX L F g) := by
  refine g_iload_n dL_told_147 rfl ?_
  refine g_bipushv (v := 12) dL_told_148 rfl ?_
  refine g_icmp_ge (tgt := 185) dL_told_150 (by decide) (fun c150 => ?_) (fun c150 => absurd (nI_le (a := 12) (b := 12) (by decide) (by decide)) c150)
  refine g_lload_n dL_told_185 rfl ?_
  exact g_lret dL_told_186 rfl
def TG (F : Nat → Nat → Int32) (pc : Nat) (Ls : mLs) : Prop := ∃ v : Int64, ∀ (L : Nat) (Z : Nat → Nat → Int32) (g : Nat → Option Nat) (d : Nat), mGo ML_told (d + 4) (pc, Ls, [], mHX L (mx F Z) g) (some (.long v), mHX L (mx F Z) g)
abbrev tL (h : Int64) (k : Nat) (x : Option Value) : mLs := [some (.ref 4), some (.long h), none, some (.int (nI k)), x]
theorem tg_m {F : Nat → Nat → Int32} (x : Option Value) : ∀ (m k : Nat) (h : Int64), 1 ≤ k → k + m = 12 → TG F 147 (tL h k x) := by
  intro m
  induction m with
  | zero =>
    intro k h _ hk
    obtain rfl : k = 12 := by omega
    exact ⟨h, fun L Z g d => to_m0 h x⟩
  | succ m ih =>
    intro k h h1 hk
    obtain ⟨v, K⟩ := ih (k + 1) (31 * (31 * h + (F 15 k).toInt64) + (F 16 k).toInt64) (by omega) (by omega)
    exact ⟨v, fun L Z g d => to_m h x k (by omega) _ _ (rx_mng0 h1 (by omega) L Z g d) (rx_mng1 h1 (by omega) L Z g d) (K L Z g d)⟩
theorem tg_t {F : Nat → Nat → Int32} (x : Option Value) : ∀ (m k : Nat) (h : Int64), k + m = 3 → TG F 108 (tL h k x) := by
  intro m
  induction m with
  | zero =>
    intro k h hk
    obtain rfl : k = 3 := by omega
    obtain ⟨v, K⟩ := tg_m (F := F) x 11 1 h (by decide) (by decide)
    exact ⟨v, fun L Z g d => to_t0 h x (K L Z g d)⟩
  | succ m ih =>
    intro k h hk
    obtain ⟨v, K⟩ := ih (k + 1) (31 * (31 * h + (F 19 k).toInt64) + (F 20 k).toInt64) (by omega)
    exact ⟨v, fun L Z g d => to_t h x k (by omega) _ _ (rx_tab3 (by omega) L Z g d) (rx_tab5 (by omega) L Z g d) (K L Z g d)⟩
theorem tg_o {B : Nat} {F : Nat → Nat → Int32} (hI : HI B F) : ∀ (m k : Nat) (h : Int64) (x : Option Value), k + m = 10 → TG F 33 (tL h k x) := by
  intro m
  induction m with
  | zero =>
    intro k h x hk
    obtain rfl : k = 10 := by omega
    obtain ⟨v, K⟩ := tg_t (F := F) x 3 0 h (by decide)
    exact ⟨v, fun L Z g d => to_o0 h x (K L Z g d)⟩
  | succ m ih =>
    intro k h x hk
    have he : ∀ (q w : Nat) (h : Int64), w + q = 5 → TG F 73 (tL h k (some (.int (nI w)))) := by
      intro q
      induction q with
      | zero =>
        intro w h hw
        obtain rfl : w = 5 := by omega
        obtain ⟨v, K⟩ := ih (k + 1) h (some (.int (nI 5))) (by omega)
        exact ⟨v, fun L Z g d => to_e0 h none k (K L Z g d)⟩
      | succ q ih2 =>
        intro w h hw
        obtain ⟨r, R⟩ := rx_end (k := k) (w := w) hI (by omega) (by omega)
        obtain ⟨v, K⟩ := ih2 (w + 1) (31 * h + r.toInt64) (by omega)
        exact ⟨v, fun L Z g d => to_e h none k w (by omega) r (R L Z g d) (K L Z g d)⟩
    have hf : ∀ (q w : Nat) (h : Int64), w + q = 7 → TG F 42 (tL h k (some (.int (nI w)))) := by
      intro q
      induction q with
      | zero =>
        intro w h hw
        obtain rfl : w = 7 := by omega
        obtain ⟨v, K⟩ := he 5 0 h (by decide)
        exact ⟨v, fun L Z g d => to_f0 h none k (K L Z g d)⟩
      | succ q ih2 =>
        intro w h hw
        obtain ⟨r, R⟩ := rx_of (k := k) (w := w) hI (by omega) (by omega)
        obtain ⟨v, K⟩ := ih2 (w + 1) (31 * h + r.toInt64) (by omega)
        exact ⟨v, fun L Z g d => to_f h none k w (by omega) r (R L Z g d) (K L Z g d)⟩
    obtain ⟨v, K⟩ := hf 7 0 h (by decide)
    exact ⟨v, fun L Z g d => to_o h x k (by omega) (K L Z g d)⟩
theorem tg_c {B : Nat} {F : Nat → Nat → Int32} (hI : HI B F) (x : Option Value) : ∀ (m k : Nat) (h : Int64), k + m = 13 → TG F 6 (tL h k x) := by
  intro m
  induction m with
  | zero =>
    intro k h hk
    obtain rfl : k = 13 := by omega
    obtain ⟨v, K⟩ := tg_o hI 10 0 h x (by decide)
    exact ⟨v, fun L Z g d => to_c0 h x (K L Z g d)⟩
  | succ m ih =>
    intro k h hk
    obtain ⟨r, R⟩ := rx_count (w := k) hI (by omega)
    obtain ⟨v, K⟩ := ih (k + 1) (31 * h + r.toInt64) (by omega)
    exact ⟨v, fun L Z g d => to_c h x k (by omega) r (R L Z g d) (K L Z g d)⟩
def TD (F : Nat → Nat → Int32) (v : Int64) : Prop := ∀ (L : Nat) (Z : Nat → Nat → Int32) (g : Nat → Option Nat) (d : Nat), mCall (d + 4) yL_told ML_told [.ref 4] (mHX L (mx F Z) g) (some (.long v)) (mHX L (mx F Z) g)
set_option maxHeartbeats 4000000 in
theorem td_of {B : Nat} {F : Nat → Nat → Int32} (hI : HI B F) : ∃ v, TD F v := by
  obtain ⟨v, K⟩ := tg_c hI none 13 0 3 (by decide)
  refine ⟨v, fun L Z g d => ?_⟩
  refine mCall_of sL_told.1 (Nat.le_of_ble_eq_true rfl) rfl ?_
  show mGo _ _ (0, [some (.ref 4), none, none, none, none], [], _) _
  refine g_ldc2 dL_told_0 kl_L_8 ?_
  refine g_lstore_n dL_told_3 (by decide) rfl ?_
  refine g_iconstv (v := nI 0) dL_told_4 rfl ?_
  refine g_istore_n dL_told_5 (by decide) rfl ?_
  exact K L Z g d
end
