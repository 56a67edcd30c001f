-- ===== PART A: goes FIRST, ahead of the names: the tables' words, and 'selects' of the private methods out of them =====
/-- a private method of a class that the tables say can be made, by its rows of tables_1 -/
def lw_okq (q : MethodName × Nat) : Prop := (q.1.cls ≠ "java/lang/invoke/MethodHandle" ∧ q.1.cls ≠ "java/lang/invoke/VarHandle") ∧ Cond.instantiable q.1.cls q.2 ∈ tables_1 ∧ Cond.privateMethod q.1 ∈ tables_1 ∧ Cond.instanceMethod q.1 ∈ tables_1
theorem lw_p0 : lw_okq (⟨"PauseLexicons", "keptUnlessError", "(I)I"⟩, 4) := ⟨⟨by decide +kernel, by decide +kernel⟩, List.mem_of_getElem? (i := 12) (by decide +kernel), List.mem_of_getElem? (i := 275) (by decide +kernel), List.mem_of_getElem? (i := 276) (by decide +kernel)⟩
theorem lw_p1 : lw_okq (⟨"PauseLexicons$Room", "beginOfShade", "(I)I"⟩, 6) := ⟨⟨by decide +kernel, by decide +kernel⟩, List.mem_of_getElem? (i := 20) (by decide +kernel), List.mem_of_getElem? (i := 336) (by decide +kernel), List.mem_of_getElem? (i := 337) (by decide +kernel)⟩
theorem lw_p2 : lw_okq (⟨"PauseLexicons$Room", "dropPauseOfNobody", "(I)V"⟩, 6) := ⟨⟨by decide +kernel, by decide +kernel⟩, List.mem_of_getElem? (i := 20) (by decide +kernel), List.mem_of_getElem? (i := 371) (by decide +kernel), List.mem_of_getElem? (i := 372) (by decide +kernel)⟩
theorem lw_p3 : lw_okq (⟨"PauseLexicons$Room", "endPause", "(IIII)V"⟩, 6) := ⟨⟨by decide +kernel, by decide +kernel⟩, List.mem_of_getElem? (i := 20) (by decide +kernel), List.mem_of_getElem? (i := 414) (by decide +kernel), List.mem_of_getElem? (i := 415) (by decide +kernel)⟩
def lw_privs_1 : List (MethodName × Nat) := [(⟨"PauseLexicons", "keptUnlessError", "(I)I"⟩, 4), (⟨"PauseLexicons$Room", "beginOfShade", "(I)I"⟩, 6), (⟨"PauseLexicons$Room", "dropPauseOfNobody", "(I)V"⟩, 6), (⟨"PauseLexicons$Room", "endPause", "(IIII)V"⟩, 6)]
theorem lw_r1 : ∀ q ∈ lw_privs_1, lw_okq q := List.forall_mem_cons.mpr ⟨lw_p0, List.forall_mem_cons.mpr ⟨lw_p1, List.forall_mem_cons.mpr ⟨lw_p2, List.forall_mem_cons.mpr ⟨lw_p3, fun _ h => absurd h List.not_mem_nil⟩⟩⟩⟩
def lw_privs : List (MethodName × Nat) := lw_privs_1
def lw_tbl : List Cond := k2_sels lw_privs ++ tables_1
theorem lw_privs_ok : ∀ q ∈ lw_privs, lw_okq q := lw_r1
-- names, fields, code (out of NAMES.whole)
def RX0 : String := "PauseLexicons$Guests"
def TX0 : u_T := fun k => match k with
  | 0 => ("PauseLexicons$Guests", "came", "I", false)
  | 1 => ("PauseLexicons$Guests", "seats", "[I", true)
  | 2 => ("PauseLexicons$Guests", "ranks", "[I", true)
  | 3 => ("PauseLexicons$Guests", "faults", "[I", true)
  | 4 => ("PauseLexicons$Guests", "coughs", "[I", true)
  | 5 => ("PauseLexicons$Guests", "broken", "[I", true)
  | _ => ("PauseLexicons$Guests", "lent", "[I", true)
def tyX0 : Nat → FieldType := fun k => match k with
  | 0 => .int
  | 1 => .array .int
  | 2 => .array .int
  | 3 => .array .int
  | 4 => .array .int
  | 5 => .array .int
  | _ => .array .int
theorem nmX0 : ∀ a, a < 7 → ∀ b, b < 7 → a ≠ b → (TX0 a).2.1 ≠ (TX0 b).2.1 := by decide +kernel
theorem tyX0_ok : ∀ k, k < 7 → parseFieldDescriptor (TX0 k).2.2.1 = some (tyX0 k) := by decide +kernel
abbrev cX0_init : ByteArray := prog_2_method_1_code
def yX0_init : MethodName := ⟨RX0, "<init>", "()V"⟩
abbrev cX0_copyFrom : ByteArray := prog_2_method_2_code
def yX0_copyFrom : MethodName := ⟨RX0, "copyFrom", "(LPauseLexicons$Guests;)V"⟩
abbrev cX0_add : ByteArray := prog_2_method_3_code
def yX0_add : MethodName := ⟨RX0, "add", "(III)I"⟩
abbrev cX0_isKnown : ByteArray := prog_2_method_4_code
def yX0_isKnown : MethodName := ⟨RX0, "isKnown", "(I)Z"⟩
abbrev cX0_isHost : ByteArray := prog_2_method_5_code
def yX0_isHost : MethodName := ⟨RX0, "isHost", "(I)Z"⟩
abbrev cX0_setAt : ByteArray := prog_2_method_6_code
def yX0_setAt : MethodName := ⟨RX0, "setAt", "(I)I"⟩
abbrev cX0_setOfThoseHere : ByteArray := prog_2_method_7_code
def yX0_setOfThoseHere : MethodName := ⟨RX0, "setOfThoseHere", "()I"⟩
abbrev cX0_hostOf : ByteArray := prog_2_method_8_code
def yX0_hostOf : MethodName := ⟨RX0, "hostOf", "(I)I"⟩
abbrev cX0_companyOf : ByteArray := prog_2_method_9_code
def yX0_companyOf : MethodName := ⟨RX0, "companyOf", "(II)I"⟩
abbrev cX0_lenderTo : ByteArray := prog_2_method_10_code
def yX0_lenderTo : MethodName := ⟨RX0, "lenderTo", "(II)I"⟩
abbrev cX0_faultsOfAll : ByteArray := prog_2_method_11_code
def yX0_faultsOfAll : MethodName := ⟨RX0, "faultsOfAll", "()I"⟩
abbrev cX0_coughsOfThoseHere : ByteArray := prog_2_method_12_code
def yX0_coughsOfThoseHere : MethodName := ⟨RX0, "coughsOfThoseHere", "()I"⟩
def RX1 : String := "PauseLexicons$History"
def TX1 : u_T := fun k => match k with
  | 0 => ("PauseLexicons$History", "states", "[LPauseLexicons$Room;", true)
  | _ => ("PauseLexicons$History", "kept", "I", false)
def tyX1 : Nat → FieldType := fun k => match k with
  | 0 => .array (.object "PauseLexicons$Room")
  | _ => .int
theorem nmX1 : ∀ a, a < 2 → ∀ b, b < 2 → a ≠ b → (TX1 a).2.1 ≠ (TX1 b).2.1 := by decide +kernel
theorem tyX1_ok : ∀ k, k < 2 → parseFieldDescriptor (TX1 k).2.2.1 = some (tyX1 k) := by decide +kernel
abbrev cX1_init : ByteArray := prog_3_method_1_code
def yX1_init : MethodName := ⟨RX1, "<init>", "()V"⟩
abbrev cX1_noteBefore : ByteArray := prog_3_method_2_code
def yX1_noteBefore : MethodName := ⟨RX1, "noteBefore", "(LPauseLexicons$Room;)V"⟩
abbrev cX1_keepNoted : ByteArray := prog_3_method_3_code
def yX1_keepNoted : MethodName := ⟨RX1, "keepNoted", "()V"⟩
abbrev cX1_takeBack : ByteArray := prog_3_method_4_code
def yX1_takeBack : MethodName := ⟨RX1, "takeBack", "(LPauseLexicons$Room;)I"⟩
def RX2 : String := "PauseLexicons$Lexicon"
def TX2 : u_T := fun k => match k with
  | 0 => ("PauseLexicons$Lexicon", "often", "[I", true)
  | 1 => ("PauseLexicons$Lexicon", "longest", "[I", true)
  | 2 => ("PauseLexicons$Lexicon", "endings", "[I", true)
  | 3 => ("PauseLexicons$Lexicon", "ends", "[I", true)
  | _ => ("PauseLexicons$Lexicon", "told", "I", false)
def tyX2 : Nat → FieldType := fun k => match k with
  | 0 => .array .int
  | 1 => .array .int
  | 2 => .array .int
  | 3 => .array .int
  | _ => .int
theorem nmX2 : ∀ a, a < 5 → ∀ b, b < 5 → a ≠ b → (TX2 a).2.1 ≠ (TX2 b).2.1 := by decide +kernel
theorem tyX2_ok : ∀ k, k < 5 → parseFieldDescriptor (TX2 k).2.2.1 = some (tyX2 k) := by decide +kernel
abbrev cX2_init : ByteArray := prog_4_method_1_code
def yX2_init : MethodName := ⟨RX2, "<init>", "()V"⟩
abbrev cX2_copyFrom : ByteArray := prog_4_method_2_code
def yX2_copyFrom : MethodName := ⟨RX2, "copyFrom", "(LPauseLexicons$Lexicon;)V"⟩
abbrev cX2_enterMeaning : ByteArray := prog_4_method_3_code
def yX2_enterMeaning : MethodName := ⟨RX2, "enterMeaning", "(II)V"⟩
abbrev cX2_tellEnd : ByteArray := prog_4_method_4_code
def yX2_tellEnd : MethodName := ⟨RX2, "tellEnd", "(IIIII)V"⟩
abbrev cX2_setOfMeant : ByteArray := prog_4_method_5_code
def yX2_setOfMeant : MethodName := ⟨RX2, "setOfMeant", "()I"⟩
abbrev cX2_mostMeant : ByteArray := prog_4_method_6_code
def yX2_mostMeant : MethodName := ⟨RX2, "mostMeant", "()I"⟩
def RX3 : String := "PauseLexicons$Pad"
def TX3 : u_T := fun k => match k with
  | 0 => ("PauseLexicons$Pad", "codes", "[I", true)
  | _ => ("PauseLexicons$Pad", "length", "I", false)
def tyX3 : Nat → FieldType := fun k => match k with
  | 0 => .array .int
  | _ => .int
theorem nmX3 : ∀ a, a < 2 → ∀ b, b < 2 → a ≠ b → (TX3 a).2.1 ≠ (TX3 b).2.1 := by decide +kernel
theorem tyX3_ok : ∀ k, k < 2 → parseFieldDescriptor (TX3 k).2.2.1 = some (tyX3 k) := by decide +kernel
abbrev cX3_init : ByteArray := prog_5_method_1_code
def yX3_init : MethodName := ⟨RX3, "<init>", "()V"⟩
def RX4 : String := "PauseLexicons$Room"
def TX4 : u_T := fun k => match k with
  | 0 => ("PauseLexicons$Room", "time", "I", false)
  | 1 => ("PauseLexicons$Room", "settings", "[I", true)
  | 2 => ("PauseLexicons$Room", "guests", "LPauseLexicons$Guests;", true)
  | 3 => ("PauseLexicons$Room", "lexicon", "LPauseLexicons$Lexicon;", true)
  | 4 => ("PauseLexicons$Room", "pauses", "[I", true)
  | _ => ("PauseLexicons$Room", "ended", "[I", true)
def tyX4 : Nat → FieldType := fun k => match k with
  | 0 => .int
  | 1 => .array .int
  | 2 => .object "PauseLexicons$Guests"
  | 3 => .object "PauseLexicons$Lexicon"
  | 4 => .array .int
  | _ => .array .int
theorem nmX4 : ∀ a, a < 6 → ∀ b, b < 6 → a ≠ b → (TX4 a).2.1 ≠ (TX4 b).2.1 := by decide +kernel
theorem tyX4_ok : ∀ k, k < 6 → parseFieldDescriptor (TX4 k).2.2.1 = some (tyX4 k) := by decide +kernel
abbrev cX4_init : ByteArray := prog_6_method_1_code
def yX4_init : MethodName := ⟨RX4, "<init>", "()V"⟩
abbrev cX4_copyFrom : ByteArray := prog_6_method_2_code
def yX4_copyFrom : MethodName := ⟨RX4, "copyFrom", "(LPauseLexicons$Room;)V"⟩
abbrev cX4_changeSetting : ByteArray := prog_6_method_3_code
def yX4_changeSetting : MethodName := ⟨RX4, "changeSetting", "(II)I"⟩
abbrev cX4_welcome : ByteArray := prog_6_method_4_code
def yX4_welcome : MethodName := ⟨RX4, "welcome", "(II)I"⟩
abbrev cX4_seeOff : ByteArray := prog_6_method_5_code
def yX4_seeOff : MethodName := ⟨RX4, "seeOff", "(I)I"⟩
abbrev cX4_reseat : ByteArray := prog_6_method_6_code
def yX4_reseat : MethodName := ⟨RX4, "reseat", "(II)I"⟩
abbrev cX4_beginPause : ByteArray := prog_6_method_7_code
def yX4_beginPause : MethodName := ⟨RX4, "beginPause", "(I)I"⟩
abbrev cX4_closePause : ByteArray := prog_6_method_8_code
def yX4_closePause : MethodName := ⟨RX4, "closePause", "(I)I"⟩
abbrev cX4_breakByWord : ByteArray := prog_6_method_9_code
def yX4_breakByWord : MethodName := ⟨RX4, "breakByWord", "(I)I"⟩
abbrev cX4_breakByCough : ByteArray := prog_6_method_10_code
def yX4_breakByCough : MethodName := ⟨RX4, "breakByCough", "(I)I"⟩
abbrev cX4_letPass : ByteArray := prog_6_method_11_code
def yX4_letPass : MethodName := ⟨RX4, "letPass", "(I)I"⟩
abbrev cX4_errorOfBreak : ByteArray := prog_6_method_12_code
def yX4_errorOfBreak : MethodName := ⟨RX4, "errorOfBreak", "(I)I"⟩
abbrev cX4_dropPauseOfNobody : ByteArray := prog_6_method_13_code
def yX4_dropPauseOfNobody : MethodName := ⟨RX4, "dropPauseOfNobody", "(I)V"⟩
abbrev cX4_endPause : ByteArray := prog_6_method_14_code
def yX4_endPause : MethodName := ⟨RX4, "endPause", "(IIII)V"⟩
abbrev cX4_pausesThatGoOn : ByteArray := prog_6_method_15_code
def yX4_pausesThatGoOn : MethodName := ⟨RX4, "pausesThatGoOn", "()I"⟩
abbrev cX4_meaningNow : ByteArray := prog_6_method_16_code
def yX4_meaningNow : MethodName := ⟨RX4, "meaningNow", "(II)I"⟩
abbrev cX4_meaningFor : ByteArray := prog_6_method_17_code
def yX4_meaningFor : MethodName := ⟨RX4, "meaningFor", "(II)I"⟩
abbrev cX4_secondsToTurn : ByteArray := prog_6_method_18_code
def yX4_secondsToTurn : MethodName := ⟨RX4, "secondsToTurn", "(I)I"⟩
abbrev cX4_beginOfShade : ByteArray := prog_6_method_19_code
def yX4_beginOfShade : MethodName := ⟨RX4, "beginOfShade", "(I)I"⟩
def RX5 : String := "PauseLexicons$Slots"
def TX5 : u_T := fun k => match k with
  | 0 => ("PauseLexicons$Slots", "states", "[LPauseLexicons$Room;", true)
  | _ => ("PauseLexicons$Slots", "filled", "[Z", true)
def tyX5 : Nat → FieldType := fun k => match k with
  | 0 => .array (.object "PauseLexicons$Room")
  | _ => .array .boolean
theorem nmX5 : ∀ a, a < 2 → ∀ b, b < 2 → a ≠ b → (TX5 a).2.1 ≠ (TX5 b).2.1 := by decide +kernel
theorem tyX5_ok : ∀ k, k < 2 → parseFieldDescriptor (TX5 k).2.2.1 = some (tyX5 k) := by decide +kernel
abbrev cX5_init : ByteArray := prog_7_method_1_code
def yX5_init : MethodName := ⟨RX5, "<init>", "()V"⟩
abbrev cX5_keep : ByteArray := prog_7_method_2_code
def yX5_keep : MethodName := ⟨RX5, "keep", "(ILPauseLexicons$Room;)I"⟩
abbrev cX5_giveBack : ByteArray := prog_7_method_3_code
def yX5_giveBack : MethodName := ⟨RX5, "giveBack", "(ILPauseLexicons$Room;)I"⟩
def RX6 : String := "PauseLexicons"
def TX6 : u_T := fun k => match k with
  | 0 => ("PauseLexicons", "room", "LPauseLexicons$Room;", true)
  | 1 => ("PauseLexicons", "history", "LPauseLexicons$History;", true)
  | 2 => ("PauseLexicons", "slots", "LPauseLexicons$Slots;", true)
  | _ => ("PauseLexicons", "pad", "LPauseLexicons$Pad;", true)
def tyX6 : Nat → FieldType := fun k => match k with
  | 0 => .object "PauseLexicons$Room"
  | 1 => .object "PauseLexicons$History"
  | 2 => .object "PauseLexicons$Slots"
  | _ => .object "PauseLexicons$Pad"
theorem nmX6 : ∀ a, a < 4 → ∀ b, b < 4 → a ≠ b → (TX6 a).2.1 ≠ (TX6 b).2.1 := by decide +kernel
theorem tyX6_ok : ∀ k, k < 4 → parseFieldDescriptor (TX6 k).2.2.1 = some (tyX6 k) := by decide +kernel
abbrev cX6_init : ByteArray := prog_1_method_1_code
def yX6_init : MethodName := ⟨RX6, "<init>", "()V"⟩
abbrev cX6_set : ByteArray := prog_1_method_2_code
def yX6_set : MethodName := ⟨RX6, "set", "(II)I"⟩
abbrev cX6_guest : ByteArray := prog_1_method_3_code
def yX6_guest : MethodName := ⟨RX6, "guest", "(II)I"⟩
abbrev cX6_leave : ByteArray := prog_1_method_4_code
def yX6_leave : MethodName := ⟨RX6, "leave", "(I)I"⟩
abbrev cX6_move : ByteArray := prog_1_method_5_code
def yX6_move : MethodName := ⟨RX6, "move", "(II)I"⟩
abbrev cX6_pause : ByteArray := prog_1_method_6_code
def yX6_pause : MethodName := ⟨RX6, "pause", "(I)I"⟩
abbrev cX6_close : ByteArray := prog_1_method_7_code
def yX6_close : MethodName := ⟨RX6, "close", "(I)I"⟩
abbrev cX6_word : ByteArray := prog_1_method_8_code
def yX6_word : MethodName := ⟨RX6, "word", "(I)I"⟩
abbrev cX6_cough : ByteArray := prog_1_method_9_code
def yX6_cough : MethodName := ⟨RX6, "cough", "(I)I"⟩
abbrev cX6_pass : ByteArray := prog_1_method_10_code
def yX6_pass : MethodName := ⟨RX6, "pass", "(I)I"⟩
abbrev cX6_of : ByteArray := prog_1_method_11_code
def yX6_of : MethodName := ⟨RX6, "of", "(II)I"⟩
abbrev cX6_table : ByteArray := prog_1_method_12_code
def yX6_table : MethodName := ⟨RX6, "table", "(II)I"⟩
abbrev cX6_meaning : ByteArray := prog_1_method_13_code
def yX6_meaning : MethodName := ⟨RX6, "meaning", "(II)I"⟩
abbrev cX6_end : ByteArray := prog_1_method_14_code
def yX6_end : MethodName := ⟨RX6, "end", "(II)I"⟩
abbrev cX6_count : ByteArray := prog_1_method_15_code
def yX6_count : MethodName := ⟨RX6, "count", "(I)I"⟩
abbrev cX6_wouldMean : ByteArray := prog_1_method_16_code
def yX6_wouldMean : MethodName := ⟨RX6, "wouldMean", "(II)I"⟩
abbrev cX6_turnsIn : ByteArray := prog_1_method_17_code
def yX6_turnsIn : MethodName := ⟨RX6, "turnsIn", "(I)I"⟩
abbrev cX6_lender : ByteArray := prog_1_method_18_code
def yX6_lender : MethodName := ⟨RX6, "lender", "(I)I"⟩
abbrev cX6_usual : ByteArray := prog_1_method_20_code
def yX6_usual : MethodName := ⟨RX6, "usual", "()I"⟩
abbrev cX6_undo : ByteArray := prog_1_method_25_code
def yX6_undo : MethodName := ⟨RX6, "undo", "()I"⟩
abbrev cX6_save : ByteArray := prog_1_method_26_code
def yX6_save : MethodName := ⟨RX6, "save", "(I)I"⟩
abbrev cX6_restore : ByteArray := prog_1_method_27_code
def yX6_restore : MethodName := ⟨RX6, "restore", "(I)I"⟩
abbrev cX6_keptUnlessError : ByteArray := prog_1_method_28_code
def yX6_keptUnlessError : MethodName := ⟨RX6, "keptUnlessError", "(I)I"⟩
abbrev cX6_isError : ByteArray := prog_1_method_29_code
def yX6_isError : MethodName := ⟨RX6, "isError", "(I)Z"⟩
abbrev cX6_isTable : ByteArray := prog_1_method_30_code
def yX6_isTable : MethodName := ⟨RX6, "isTable", "(I)Z"⟩
def RX7 : String := "PauseLexiconsModel"
def TX7 : u_T := fun k => match k with
  | _ => ("", "", "", false)
def tyX7 : Nat → FieldType := fun k => match k with
  | _ => .int
theorem nmX7 : ∀ a, a < 0 → ∀ b, b < 0 → a ≠ b → (TX7 a).2.1 ≠ (TX7 b).2.1 := by decide +kernel
theorem tyX7_ok : ∀ k, k < 0 → parseFieldDescriptor (TX7 k).2.2.1 = some (tyX7 k) := by decide +kernel
def RJ6 : String := "java/lang/Integer"
def TJ6 : u_T := fun k => match k with
  | _ => ("", "", "", false)
def tyJ6 : Nat → FieldType := fun k => match k with
  | _ => .int
abbrev cJ6_bitCount_0f7a4 : ByteArray := prog_11_method_49_code
def yJ6_bitCount_0f7a4 : MethodName := ⟨RJ6, "bitCount", "(I)I"⟩
def RJ9 : String := "java/lang/Math"
def TJ9 : u_T := fun k => match k with
  | _ => ("", "", "", false)
def tyJ9 : Nat → FieldType := fun k => match k with
  | _ => .int
abbrev cJ9_max_7cf53 : ByteArray := prog_12_method_65_code
def yJ9_max_7cf53 : MethodName := ⟨RJ9, "max", "(II)I"⟩
abbrev cJ9_min_7cf53 : ByteArray := prog_12_method_69_code
def yJ9_min_7cf53 : MethodName := ⟨RJ9, "min", "(II)I"⟩
def RJ10 : String := "java/lang/System"
def TJ10 : u_T := fun k => match k with
  | _ => ("", "", "", false)
def tyJ10 : Nat → FieldType := fun k => match k with
  | _ => .int
def RL : String := "PauseLexiconsLaw"
abbrev cL_cell : ByteArray := method_2_code
def yL_cell : MethodName := ⟨RL, "cell", "([II)I"⟩
abbrev cL_low : ByteArray := method_3_code
def yL_low : MethodName := ⟨RL, "low", "(II)I"⟩
abbrev cL_told : ByteArray := method_4_code
def yL_told : MethodName := ⟨RL, "told", "(LPauseLexicons;)J"⟩
abbrev cL_act : ByteArray := method_5_code
def yL_act : MethodName := ⟨RL, "act", "(LPauseLexicons;II)I"⟩
abbrev cL_holds : ByteArray := method_6_code
def yL_holds : MethodName := ⟨RL, "holds", "(LPauseLexicons;)Z"⟩
abbrev cL_isBroken : ByteArray := method_7_code
def yL_isBroken : MethodName := ⟨RL, "isBroken", "(LPauseLexicons;IZ)Z"⟩
abbrev cL_law : ByteArray := code
def yL_law : MethodName := ⟨RL, "law", "([I)Z"⟩
abbrev mcl : List vw_C := [(RX0, TX0, 7), (RX1, TX1, 2), (RX2, TX2, 5), (RX3, TX3, 2), (RX4, TX4, 6), (RX5, TX5, 2), (RX6, TX6, 4)]
def mN (ci : Nat) : Nat := match ci with
  | 0 => 7
  | 1 => 2
  | 2 => 5
  | 3 => 2
  | 4 => 6
  | 5 => 2
  | 6 => 4
  | 7 => 0
  | _ => 0
def mty (ci : Nat) : Nat → FieldType := match ci with
  | 0 => tyX0
  | 1 => tyX1
  | 2 => tyX2
  | 3 => tyX3
  | 4 => tyX4
  | 5 => tyX5
  | 6 => tyX6
  | 7 => tyX7
  | _ => fun _ => .int
def mIsN : Cond → Bool
  | .fieldLinkNest .. => true
  | .methodLinkNest .. => true
  | .castable .. => true
  | _ => false
def mGW : List Cond := lw_tbl.filter goodWord
def mNW : List Cond := lw_tbl.filter mIsN
theorem mg_in {w : Cond} {i : Nat} (h : lw_tbl[i]? = some w) (hg : goodWord w = true) : w ∈ mGW := List.mem_filter.mpr ⟨List.mem_of_getElem? h, hg⟩
theorem mn_in {w : Cond} {i : Nat} (h : lw_tbl[i]? = some w) (hg : mIsN w = true) : w ∈ mNW := List.mem_filter.mpr ⟨List.mem_of_getElem? h, hg⟩
theorem mg_all {ws : List Cond} (ps : List Nat) (hp : ws = ps.filterMap (fun i => lw_tbl[i]?)) (h : ws.all goodWord = true) : ∀ w ∈ ws, w ∈ mGW := by
  intro w hw
  have h1 := List.all_eq_true.mp h w hw
  rw [hp] at hw
  obtain ⟨i, -, hi⟩ := List.mem_filterMap.mp hw
  exact mg_in hi h1
theorem mg_good : ∀ w ∈ mGW, w ∈ mGW ∧ ((w.onTables && w.keeps) = true ∨ ∃ ty, w = .arrayClass ty) := fun w h => ⟨h, good_of_word (List.mem_filter.mp h).2⟩
theorem muX0 : ∀ w ∈ u_ws RX0 TX0 7, w ∈ mGW := mg_all [63, 65, 67, 69, 71, 73, 75] (by decide +kernel) (by decide +kernel)
theorem miX0 : Cond.instantiable RX0 7 ∈ mGW := mg_in (i := 39) (by decide +kernel) (by decide +kernel)
theorem mzX0 : Cond.initialized RX0 ∈ mGW := mg_in (i := 7) (by decide +kernel) (by decide +kernel)
theorem muX1 : ∀ w ∈ u_ws RX1 TX1 2, w ∈ mGW := mg_all [144, 146] (by decide +kernel) (by decide +kernel)
theorem miX1 : Cond.instantiable RX1 2 ∈ mGW := mg_in (i := 133) (by decide +kernel) (by decide +kernel)
theorem mzX1 : Cond.initialized RX1 ∈ mGW := mg_in (i := 9) (by decide +kernel) (by decide +kernel)
theorem muX2 : ∀ w ∈ u_ws RX2 TX2 5, w ∈ mGW := mg_all [95, 97, 99, 101, 103] (by decide +kernel) (by decide +kernel)
theorem miX2 : Cond.instantiable RX2 5 ∈ mGW := mg_in (i := 80) (by decide +kernel) (by decide +kernel)
theorem mzX2 : Cond.initialized RX2 ∈ mGW := mg_in (i := 8) (by decide +kernel) (by decide +kernel)
theorem muX3 : ∀ w ∈ u_ws RX3 TX3 2, w ∈ mGW := mg_all [174, 176] (by decide +kernel) (by decide +kernel)
theorem miX3 : Cond.instantiable RX3 2 ∈ mGW := mg_in (i := 166) (by decide +kernel) (by decide +kernel)
theorem mzX3 : Cond.initialized RX3 ∈ mGW := mg_in (i := 11) (by decide +kernel) (by decide +kernel)
theorem muX4 : ∀ w ∈ u_ws RX4 TX4 6, w ∈ mGW := mg_all [119, 121, 123, 125, 127, 129] (by decide +kernel) (by decide +kernel)
theorem miX4 : Cond.instantiable RX4 6 ∈ mGW := mg_in (i := 24) (by decide +kernel) (by decide +kernel)
theorem mzX4 : Cond.initialized RX4 ∈ mGW := mg_in (i := 6) (by decide +kernel) (by decide +kernel)
theorem muX5 : ∀ w ∈ u_ws RX5 TX5 2, w ∈ mGW := mg_all [159, 161] (by decide +kernel) (by decide +kernel)
theorem miX5 : Cond.instantiable RX5 2 ∈ mGW := mg_in (i := 150) (by decide +kernel) (by decide +kernel)
theorem mzX5 : Cond.initialized RX5 ∈ mGW := mg_in (i := 10) (by decide +kernel) (by decide +kernel)
theorem muX6 : ∀ w ∈ u_ws RX6 TX6 4, w ∈ mGW := mg_all [183, 185, 187, 189] (by decide +kernel) (by decide +kernel)
theorem miX6 : Cond.instantiable RX6 4 ∈ mGW := mg_in (i := 16) (by decide +kernel) (by decide +kernel)
theorem mzX6 : Cond.initialized RX6 ∈ mGW := mg_in (i := 5) (by decide +kernel) (by decide +kernel)
theorem muX7 : ∀ w ∈ u_ws RX7 TX7 0, w ∈ mGW := mg_all [] (by decide +kernel) (by decide +kernel)
