/-! ===== BEGIN words of one list among another's, by their places ===== -/
theorem goodIn_r {big : List Cond} (ws : List Cond) (ps : List Nat) (hp : ws = ps.filterMap (fun i => big[i]?)) (h : ws.all goodWord = true) : GoodIn big ws := by
  intro w hw
  have h1 := List.all_eq_true.mp h w hw
  rw [hp] at hw
  obtain ⟨i, -, hi⟩ := List.mem_filterMap.mp hw
  have hm : w ∈ big := by first | exact List.mem_of_getElem? hi | exact List.getElem?_mem hi
  exact ⟨hm, good_of_word h1⟩
theorem goodIn_app {big a b : List Cond} (ha : GoodIn big a) (hb : GoodIn big b) : GoodIn big (a ++ b) := fun w h => (List.mem_append.mp h).elim (ha w) (hb w)
theorem goodIn_ca {big a b : List Cond} {c : Cond} (ha : GoodIn big (c :: a)) (hb : GoodIn big b) : GoodIn big (c :: (a ++ b)) := fun w h => (List.mem_cons.mp h).elim (fun e => ha w (List.mem_cons.mpr (Or.inl e))) (fun h => (List.mem_append.mp h).elim (fun h => ha w (List.mem_cons.mpr (Or.inr h))) (hb w))
theorem goodIn_sub {big ws : List Cond} (hm : ∀ w ∈ ws, w ∈ big) (h : ws.all goodWord = true) : GoodIn big ws := fun w hw => ⟨hm w hw, good_of_word (List.all_eq_true.mp h w hw)⟩
noncomputable def RX0 : String := "GuessFerry$Crossing"
noncomputable def TX0 : u_T := fun k => match k with
  | 0 => ("GuessFerry$Crossing", "sound", "LGuessFerry$Sound;", true)
  | _ => ("GuessFerry$Crossing", "vars", "[I", true)
noncomputable def tyX0 : Nat → FieldType := fun k => match k with
  | 0 => .object "GuessFerry$Sound"
  | _ => .array .int
theorem nmX0 : ∀ a, a < 2 → ∀ b, b < 2 → a ≠ b → (TX0 a).2.1 ≠ (TX0 b).2.1 := by decide +kernel
theorem tyX0_ok : ∀ k, k < 2 → parseFieldDescriptor (TX0 k).2.2.1 = some (tyX0 k) := by decide +kernel
noncomputable abbrev cX0_init : ByteArray := prog_2_method_1_code
noncomputable def yX0_init : MethodName := ⟨RX0, "<init>", "(LGuessFerry$Sound;)V"⟩
noncomputable abbrev cX0_mayBe : ByteArray := prog_2_method_2_code
noncomputable def yX0_mayBe : MethodName := ⟨RX0, "mayBe", "(LGuessFerry$Standing;I)I"⟩
noncomputable abbrev cX0_thereNow : ByteArray := prog_2_method_3_code
noncomputable def yX0_thereNow : MethodName := ⟨RX0, "thereNow", "(LGuessFerry$Standing;I)I"⟩
noncomputable abbrev cX0_guessThere : ByteArray := prog_2_method_4_code
noncomputable def yX0_guessThere : MethodName := ⟨RX0, "guessThere", "(LGuessFerry$Standing;I)I"⟩
noncomputable abbrev cX0_clearVars : ByteArray := prog_2_method_5_code
noncomputable def yX0_clearVars : MethodName := ⟨RX0, "clearVars", "(LGuessFerry$Standing;)V"⟩
noncomputable abbrev cX0_setParty : ByteArray := prog_2_method_6_code
noncomputable def yX0_setParty : MethodName := ⟨RX0, "setParty", "(LGuessFerry$Standing;I)V"⟩
noncomputable abbrev cX0_setWave : ByteArray := prog_2_method_7_code
noncomputable def yX0_setWave : MethodName := ⟨RX0, "setWave", "(LGuessFerry$Standing;I)V"⟩
noncomputable abbrev cX0_needOf : ByteArray := prog_2_method_8_code
noncomputable def yX0_needOf : MethodName := ⟨RX0, "needOf", "(LGuessFerry$Standing;III)I"⟩
noncomputable abbrev cX0_isBearing : ByteArray := prog_2_method_9_code
noncomputable def yX0_isBearing : MethodName := ⟨RX0, "isBearing", "(LGuessFerry$Standing;III)Z"⟩
noncomputable abbrev cX0_fareOf : ByteArray := prog_2_method_10_code
noncomputable def yX0_fareOf : MethodName := ⟨RX0, "fareOf", "(LGuessFerry$Standing;I)I"⟩
noncomputable abbrev cX0_isDaring : ByteArray := prog_2_method_11_code
noncomputable def yX0_isDaring : MethodName := ⟨RX0, "isDaring", "(LGuessFerry$Standing;I)Z"⟩
noncomputable abbrev cX0_shiftsOf : ByteArray := prog_2_method_12_code
noncomputable def yX0_shiftsOf : MethodName := ⟨RX0, "shiftsOf", "(LGuessFerry$Standing;I)I"⟩
noncomputable abbrev cX0_sendBy : ByteArray := prog_2_method_13_code
noncomputable def yX0_sendBy : MethodName := ⟨RX0, "sendBy", "(LGuessFerry$Standing;II)I"⟩
noncomputable abbrev cX0_passYears : ByteArray := prog_2_method_14_code
noncomputable def yX0_passYears : MethodName := ⟨RX0, "passYears", "(LGuessFerry$Standing;I)V"⟩
noncomputable abbrev cX0_passYearOver : ByteArray := prog_2_method_15_code
noncomputable def yX0_passYearOver : MethodName := ⟨RX0, "passYearOver", "(LGuessFerry$Standing;I)V"⟩
noncomputable def RX1 : String := "GuessFerry$Laws"
noncomputable def TX1 : u_T := fun k => match k with
  | 0 => ("GuessFerry$Laws", "steps", "[I", true)
  | 1 => ("GuessFerry$Laws", "partEnds", "[I", true)
  | 2 => ("GuessFerry$Laws", "lawStarts", "[I", true)
  | 3 => ("GuessFerry$Laws", "partCounts", "[I", true)
  | 4 => ("GuessFerry$Laws", "vars", "[I", true)
  | 5 => ("GuessFerry$Laws", "stack", "[I", true)
  | 6 => ("GuessFerry$Laws", "length", "I", false)
  | 7 => ("GuessFerry$Laws", "current", "I", false)
  | _ => ("GuessFerry$Laws", "isByZero", "Z", false)
noncomputable def tyX1 : Nat → FieldType := fun k => match k with
  | 0 => .array .int
  | 1 => .array .int
  | 2 => .array .int
  | 3 => .array .int
  | 4 => .array .int
  | 5 => .array .int
  | 6 => .int
  | 7 => .int
  | _ => .boolean
theorem nmX1 : ∀ a, a < 9 → ∀ b, b < 9 → a ≠ b → (TX1 a).2.1 ≠ (TX1 b).2.1 := by decide +kernel
theorem tyX1_ok : ∀ k, k < 9 → parseFieldDescriptor (TX1 k).2.2.1 = some (tyX1 k) := by decide +kernel
noncomputable abbrev cX1_init : ByteArray := prog_3_method_1_code
noncomputable def yX1_init : MethodName := ⟨RX1, "<init>", "()V"⟩
noncomputable abbrev cX1_clear : ByteArray := prog_3_method_2_code
noncomputable def yX1_clear : MethodName := ⟨RX1, "clear", "()V"⟩
noncomputable abbrev cX1_copyFrom : ByteArray := prog_3_method_3_code
noncomputable def yX1_copyFrom : MethodName := ⟨RX1, "copyFrom", "(LGuessFerry$Laws;)V"⟩
noncomputable abbrev cX1_begin : ByteArray := prog_3_method_4_code
noncomputable def yX1_begin : MethodName := ⟨RX1, "begin", "(I)V"⟩
noncomputable abbrev cX1_endPart : ByteArray := prog_3_method_5_code
noncomputable def yX1_endPart : MethodName := ⟨RX1, "endPart", "()V"⟩
noncomputable abbrev cX1_putNumber : ByteArray := prog_3_method_6_code
noncomputable def yX1_putNumber : MethodName := ⟨RX1, "putNumber", "(I)V"⟩
noncomputable abbrev cX1_putVar : ByteArray := prog_3_method_7_code
noncomputable def yX1_putVar : MethodName := ⟨RX1, "putVar", "(I)V"⟩
noncomputable abbrev cX1_putSign : ByteArray := prog_3_method_8_code
noncomputable def yX1_putSign : MethodName := ⟨RX1, "putSign", "(I)V"⟩
noncomputable abbrev cX1_put : ByteArray := prog_3_method_9_code
noncomputable def yX1_put : MethodName := ⟨RX1, "put", "(I)V"⟩
noncomputable abbrev cX1_valueOf : ByteArray := prog_3_method_10_code
noncomputable def yX1_valueOf : MethodName := ⟨RX1, "valueOf", "(I)I"⟩
noncomputable abbrev cX1_partValue : ByteArray := prog_3_method_11_code
noncomputable def yX1_partValue : MethodName := ⟨RX1, "partValue", "(II)I"⟩
noncomputable abbrev cX1_joined : ByteArray := prog_3_method_12_code
noncomputable def yX1_joined : MethodName := ⟨RX1, "joined", "(III)I"⟩
noncomputable def RX2 : String := "GuessFerry$Outlook"
noncomputable def TX2 : u_T := fun k => match k with
  | 0 => ("GuessFerry$Outlook", "sound", "LGuessFerry$Sound;", true)
  | 1 => ("GuessFerry$Outlook", "crossing", "LGuessFerry$Crossing;", true)
  | 2 => ("GuessFerry$Outlook", "near", "[I", true)
  | 3 => ("GuessFerry$Outlook", "far", "[I", true)
  | 4 => ("GuessFerry$Outlook", "topGuesses", "[I", true)
  | _ => ("GuessFerry$Outlook", "topOdds", "[I", true)
noncomputable def tyX2 : Nat → FieldType := fun k => match k with
  | 0 => .object "GuessFerry$Sound"
  | 1 => .object "GuessFerry$Crossing"
  | 2 => .array .int
  | 3 => .array .int
  | 4 => .array .int
  | _ => .array .int
theorem nmX2 : ∀ a, a < 6 → ∀ b, b < 6 → a ≠ b → (TX2 a).2.1 ≠ (TX2 b).2.1 := by decide +kernel
theorem tyX2_ok : ∀ k, k < 6 → parseFieldDescriptor (TX2 k).2.2.1 = some (tyX2 k) := by decide +kernel
noncomputable abbrev cX2_init : ByteArray := prog_4_method_1_code
noncomputable def yX2_init : MethodName := ⟨RX2, "<init>", "(LGuessFerry$Sound;LGuessFerry$Crossing;)V"⟩
noncomputable abbrev cX2_mayCount : ByteArray := prog_4_method_2_code
noncomputable def yX2_mayCount : MethodName := ⟨RX2, "mayCount", "(LGuessFerry$Standing;I)I"⟩
noncomputable abbrev cX2_caseCount : ByteArray := prog_4_method_3_code
noncomputable def yX2_caseCount : MethodName := ⟨RX2, "caseCount", "(LGuessFerry$Standing;)I"⟩
noncomputable abbrev cX2_oddsOfAll : ByteArray := prog_4_method_4_code
noncomputable def yX2_oddsOfAll : MethodName := ⟨RX2, "oddsOfAll", "(LGuessFerry$Standing;I)I"⟩
noncomputable abbrev cX2_oddsIfMay : ByteArray := prog_4_method_5_code
noncomputable def yX2_oddsIfMay : MethodName := ⟨RX2, "oddsIfMay", "(LGuessFerry$Standing;II)I"⟩
noncomputable abbrev cX2_oddsOf : ByteArray := prog_4_method_6_code
noncomputable def yX2_oddsOf : MethodName := ⟨RX2, "oddsOf", "(LGuessFerry$Standing;I)I"⟩
noncomputable abbrev cX2_bestGuess : ByteArray := prog_4_method_7_code
noncomputable def yX2_bestGuess : MethodName := ⟨RX2, "bestGuess", "(LGuessFerry$Standing;I)I"⟩
noncomputable abbrev cX2_bestThing : ByteArray := prog_4_method_8_code
noncomputable def yX2_bestThing : MethodName := ⟨RX2, "bestThing", "(LGuessFerry$Standing;II)I"⟩
noncomputable abbrev cX2_borneOver : ByteArray := prog_4_method_9_code
noncomputable def yX2_borneOver : MethodName := ⟨RX2, "borneOver", "(LGuessFerry$Standing;II)I"⟩
noncomputable abbrev cX2_goesAtMost : ByteArray := prog_4_method_10_code
noncomputable def yX2_goesAtMost : MethodName := ⟨RX2, "goesAtMost", "(LGuessFerry$Standing;)I"⟩
noncomputable abbrev cX2_leftBehind : ByteArray := prog_4_method_11_code
noncomputable def yX2_leftBehind : MethodName := ⟨RX2, "leftBehind", "(LGuessFerry$Standing;I)I"⟩
noncomputable abbrev cX2_wisestGuess : ByteArray := prog_4_method_12_code
noncomputable def yX2_wisestGuess : MethodName := ⟨RX2, "wisestGuess", "(LGuessFerry$Standing;)I"⟩
noncomputable abbrev cX2_oddsApart : ByteArray := prog_4_method_13_code
noncomputable def yX2_oddsApart : MethodName := ⟨RX2, "oddsApart", "(LGuessFerry$Standing;I)I"⟩
noncomputable abbrev cX2_fillRow : ByteArray := prog_4_method_14_code
noncomputable def yX2_fillRow : MethodName := ⟨RX2, "fillRow", "(LGuessFerry$Standing;[III)I"⟩
noncomputable abbrev cX2_fillNear : ByteArray := prog_4_method_15_code
noncomputable def yX2_fillNear : MethodName := ⟨RX2, "fillNear", "(LGuessFerry$Standing;)I"⟩
noncomputable abbrev cX2_fillFar : ByteArray := prog_4_method_16_code
noncomputable def yX2_fillFar : MethodName := ⟨RX2, "fillFar", "(LGuessFerry$Standing;)I"⟩
noncomputable abbrev cX2_casesAheadOf : ByteArray := prog_4_method_17_code
noncomputable def yX2_casesAheadOf : MethodName := ⟨RX2, "casesAheadOf", "(LGuessFerry$Standing;II)I"⟩
noncomputable abbrev cX2_caseAtRank : ByteArray := prog_4_method_18_code
noncomputable def yX2_caseAtRank : MethodName := ⟨RX2, "caseAtRank", "(LGuessFerry$Standing;I)I"⟩
noncomputable abbrev cX2_putOnTop : ByteArray := prog_4_method_19_code
noncomputable def yX2_putOnTop : MethodName := ⟨RX2, "putOnTop", "(III)V"⟩
noncomputable abbrev cX2_oddsOverWithin : ByteArray := prog_4_method_20_code
noncomputable def yX2_oddsOverWithin : MethodName := ⟨RX2, "oddsOverWithin", "(LGuessFerry$Standing;II)I"⟩
noncomputable abbrev cX2_unfind : ByteArray := prog_4_method_21_code
noncomputable def yX2_unfind : MethodName := ⟨RX2, "unfind", "(LGuessFerry$Standing;I)V"⟩
noncomputable def RX3 : String := "GuessFerry$Past"
noncomputable def TX3 : u_T := fun k => match k with
  | 0 => ("GuessFerry$Past", "ring", "[LGuessFerry$Standing;", true)
  | 1 => ("GuessFerry$Past", "slots", "[LGuessFerry$Standing;", true)
  | 2 => ("GuessFerry$Past", "isHeld", "[Z", true)
  | 3 => ("GuessFerry$Past", "first", "I", false)
  | _ => ("GuessFerry$Past", "size", "I", false)
noncomputable def tyX3 : Nat → FieldType := fun k => match k with
  | 0 => .array (.object "GuessFerry$Standing")
  | 1 => .array (.object "GuessFerry$Standing")
  | 2 => .array .boolean
  | 3 => .int
  | _ => .int
theorem nmX3 : ∀ a, a < 5 → ∀ b, b < 5 → a ≠ b → (TX3 a).2.1 ≠ (TX3 b).2.1 := by decide +kernel
theorem tyX3_ok : ∀ k, k < 5 → parseFieldDescriptor (TX3 k).2.2.1 = some (tyX3 k) := by decide +kernel
noncomputable abbrev cX3_init : ByteArray := prog_5_method_1_code
noncomputable def yX3_init : MethodName := ⟨RX3, "<init>", "()V"⟩
noncomputable abbrev cX3_forgetAll : ByteArray := prog_5_method_2_code
noncomputable def yX3_forgetAll : MethodName := ⟨RX3, "forgetAll", "()V"⟩
noncomputable abbrev cX3_remember : ByteArray := prog_5_method_3_code
noncomputable def yX3_remember : MethodName := ⟨RX3, "remember", "(LGuessFerry$Standing;)V"⟩
noncomputable abbrev cX3_takeBack : ByteArray := prog_5_method_4_code
noncomputable def yX3_takeBack : MethodName := ⟨RX3, "takeBack", "(LGuessFerry$Standing;)Z"⟩
noncomputable abbrev cX3_keepIn : ByteArray := prog_5_method_5_code
noncomputable def yX3_keepIn : MethodName := ⟨RX3, "keepIn", "(ILGuessFerry$Standing;)Z"⟩
noncomputable abbrev cX3_goOnFrom : ByteArray := prog_5_method_6_code
noncomputable def yX3_goOnFrom : MethodName := ⟨RX3, "goOnFrom", "(ILGuessFerry$Standing;)Z"⟩
noncomputable abbrev cX3_slotsHeld : ByteArray := prog_5_method_7_code
noncomputable def yX3_slotsHeld : MethodName := ⟨RX3, "slotsHeld", "()I"⟩
noncomputable def RX4 : String := "GuessFerry$Reader"
noncomputable def TX4 : u_T := fun k => match k with
  | 0 => ("GuessFerry$Reader", "tokens", "LGuessFerry$Tokens;", true)
  | 1 => ("GuessFerry$Reader", "draft", "LGuessFerry$Sound;", true)
  | 2 => ("GuessFerry$Reader", "names", "[J", true)
  | 3 => ("GuessFerry$Reader", "at", "I", false)
  | 4 => ("GuessFerry$Reader", "fault", "I", false)
  | 5 => ("GuessFerry$Reader", "faultPlace", "I", false)
  | 6 => ("GuessFerry$Reader", "laterFault", "I", false)
  | _ => ("GuessFerry$Reader", "laterPlace", "I", false)
noncomputable def tyX4 : Nat → FieldType := fun k => match k with
  | 0 => .object "GuessFerry$Tokens"
  | 1 => .object "GuessFerry$Sound"
  | 2 => .array .long
  | 3 => .int
  | 4 => .int
  | 5 => .int
  | 6 => .int
  | _ => .int
theorem nmX4 : ∀ a, a < 8 → ∀ b, b < 8 → a ≠ b → (TX4 a).2.1 ≠ (TX4 b).2.1 := by decide +kernel
theorem tyX4_ok : ∀ k, k < 8 → parseFieldDescriptor (TX4 k).2.2.1 = some (tyX4 k) := by decide +kernel
noncomputable abbrev cX4_init : ByteArray := prog_6_method_1_code
noncomputable def yX4_init : MethodName := ⟨RX4, "<init>", "(LGuessFerry$Tape;)V"⟩
noncomputable abbrev cX4_readTape : ByteArray := prog_6_method_2_code
noncomputable def yX4_readTape : MethodName := ⟨RX4, "readTape", "()I"⟩
noncomputable abbrev cX4_isAt : ByteArray := prog_6_method_3_code
noncomputable def yX4_isAt : MethodName := ⟨RX4, "isAt", "(I)Z"⟩
noncomputable abbrev cX4_fail : ByteArray := prog_6_method_4_code
noncomputable def yX4_fail : MethodName := ⟨RX4, "fail", "(I)V"⟩
noncomputable abbrev cX4_failLater : ByteArray := prog_6_method_5_code
noncomputable def yX4_failLater : MethodName := ⟨RX4, "failLater", "(II)V"⟩
noncomputable abbrev cX4_take : ByteArray := prog_6_method_6_code
noncomputable def yX4_take : MethodName := ⟨RX4, "take", "(I)V"⟩
noncomputable abbrev cX4_takeInt : ByteArray := prog_6_method_7_code
noncomputable def yX4_takeInt : MethodName := ⟨RX4, "takeInt", "(I)I"⟩
noncomputable abbrev cX4_readTell : ByteArray := prog_6_method_8_code
noncomputable def yX4_readTell : MethodName := ⟨RX4, "readTell", "()V"⟩
noncomputable abbrev cX4_readWave : ByteArray := prog_6_method_9_code
noncomputable def yX4_readWave : MethodName := ⟨RX4, "readWave", "()V"⟩
noncomputable abbrev cX4_readParty : ByteArray := prog_6_method_10_code
noncomputable def yX4_readParty : MethodName := ⟨RX4, "readParty", "()V"⟩
noncomputable abbrev cX4_isTold : ByteArray := prog_6_method_11_code
noncomputable def yX4_isTold : MethodName := ⟨RX4, "isTold", "(J)Z"⟩
noncomputable abbrev cX4_readLaw : ByteArray := prog_6_method_12_code
noncomputable def yX4_readLaw : MethodName := ⟨RX4, "readLaw", "(I)V"⟩
noncomputable abbrev cX4_readPart : ByteArray := prog_6_method_13_code
noncomputable def yX4_readPart : MethodName := ⟨RX4, "readPart", "(I)V"⟩
noncomputable abbrev cX4_readSum : ByteArray := prog_6_method_14_code
noncomputable def yX4_readSum : MethodName := ⟨RX4, "readSum", "(I)V"⟩
noncomputable abbrev cX4_readProduct : ByteArray := prog_6_method_15_code
noncomputable def yX4_readProduct : MethodName := ⟨RX4, "readProduct", "(I)V"⟩
noncomputable abbrev cX4_readUnit : ByteArray := prog_6_method_16_code
noncomputable def yX4_readUnit : MethodName := ⟨RX4, "readUnit", "(I)V"⟩
noncomputable def RX5 : String := "GuessFerry$Sound"
noncomputable def TX5 : u_T := fun k => match k with
  | 0 => ("GuessFerry$Sound", "odds", "[I", true)
  | 1 => ("GuessFerry$Sound", "oddsSums", "[I", true)
  | 2 => ("GuessFerry$Sound", "likely", "[I", true)
  | 3 => ("GuessFerry$Sound", "heavy", "[I", true)
  | 4 => ("GuessFerry$Sound", "nerve", "[I", true)
  | 5 => ("GuessFerry$Sound", "laws", "LGuessFerry$Laws;", true)
  | 6 => ("GuessFerry$Sound", "waves", "I", false)
  | 7 => ("GuessFerry$Sound", "parties", "I", false)
  | 8 => ("GuessFerry$Sound", "guesses", "I", false)
  | _ => ("GuessFerry$Sound", "seed", "I", false)
noncomputable def tyX5 : Nat → FieldType := fun k => match k with
  | 0 => .array .int
  | 1 => .array .int
  | 2 => .array .int
  | 3 => .array .int
  | 4 => .array .int
  | 5 => .object "GuessFerry$Laws"
  | 6 => .int
  | 7 => .int
  | 8 => .int
  | _ => .int
theorem nmX5 : ∀ a, a < 10 → ∀ b, b < 10 → a ≠ b → (TX5 a).2.1 ≠ (TX5 b).2.1 := by decide +kernel
theorem tyX5_ok : ∀ k, k < 10 → parseFieldDescriptor (TX5 k).2.2.1 = some (tyX5 k) := by decide +kernel
noncomputable abbrev cX5_init : ByteArray := prog_7_method_1_code
noncomputable def yX5_init : MethodName := ⟨RX5, "<init>", "()V"⟩
noncomputable abbrev cX5_clear : ByteArray := prog_7_method_2_code
noncomputable def yX5_clear : MethodName := ⟨RX5, "clear", "()V"⟩
noncomputable abbrev cX5_addUp : ByteArray := prog_7_method_3_code
noncomputable def yX5_addUp : MethodName := ⟨RX5, "addUp", "()V"⟩
noncomputable abbrev cX5_copyFrom : ByteArray := prog_7_method_4_code
noncomputable def yX5_copyFrom : MethodName := ⟨RX5, "copyFrom", "(LGuessFerry$Sound;)V"⟩
noncomputable abbrev cX5_hasWave : ByteArray := prog_7_method_5_code
noncomputable def yX5_hasWave : MethodName := ⟨RX5, "hasWave", "(I)Z"⟩
noncomputable abbrev cX5_hasParty : ByteArray := prog_7_method_6_code
noncomputable def yX5_hasParty : MethodName := ⟨RX5, "hasParty", "(I)Z"⟩
noncomputable abbrev cX5_hasGuess : ByteArray := prog_7_method_7_code
noncomputable def yX5_hasGuess : MethodName := ⟨RX5, "hasGuess", "(I)Z"⟩
noncomputable abbrev cX5_oddsAt : ByteArray := prog_7_method_8_code
noncomputable def yX5_oddsAt : MethodName := ⟨RX5, "oddsAt", "(II)I"⟩
noncomputable abbrev cX5_thingThere : ByteArray := prog_7_method_9_code
noncomputable def yX5_thingThere : MethodName := ⟨RX5, "thingThere", "(III)I"⟩
noncomputable def RX6 : String := "GuessFerry$Standing"
noncomputable def TX6 : u_T := fun k => match k with
  | 0 => ("GuessFerry$Standing", "found", "[I", true)
  | 1 => ("GuessFerry$Standing", "buoys", "[I", true)
  | 2 => ("GuessFerry$Standing", "shifted", "[I", true)
  | 3 => ("GuessFerry$Standing", "status", "[I", true)
  | 4 => ("GuessFerry$Standing", "goes", "[I", true)
  | 5 => ("GuessFerry$Standing", "year", "I", false)
  | _ => ("GuessFerry$Standing", "paid", "I", false)
noncomputable def tyX6 : Nat → FieldType := fun k => match k with
  | 0 => .array .int
  | 1 => .array .int
  | 2 => .array .int
  | 3 => .array .int
  | 4 => .array .int
  | 5 => .int
  | _ => .int
theorem nmX6 : ∀ a, a < 7 → ∀ b, b < 7 → a ≠ b → (TX6 a).2.1 ≠ (TX6 b).2.1 := by decide +kernel
theorem tyX6_ok : ∀ k, k < 7 → parseFieldDescriptor (TX6 k).2.2.1 = some (tyX6 k) := by decide +kernel
noncomputable abbrev cX6_init : ByteArray := prog_8_method_1_code
noncomputable def yX6_init : MethodName := ⟨RX6, "<init>", "()V"⟩
noncomputable abbrev cX6_startOver : ByteArray := prog_8_method_2_code
noncomputable def yX6_startOver : MethodName := ⟨RX6, "startOver", "()V"⟩
noncomputable abbrev cX6_copyFrom : ByteArray := prog_8_method_3_code
noncomputable def yX6_copyFrom : MethodName := ⟨RX6, "copyFrom", "(LGuessFerry$Standing;)V"⟩
noncomputable def RX7 : String := "GuessFerry$Tape"
noncomputable def TX7 : u_T := fun k => match k with
  | 0 => ("GuessFerry$Tape", "bytes", "[B", true)
  | _ => ("GuessFerry$Tape", "length", "I", false)
noncomputable def tyX7 : Nat → FieldType := fun k => match k with
  | 0 => .array .byte
  | _ => .int
theorem nmX7 : ∀ a, a < 2 → ∀ b, b < 2 → a ≠ b → (TX7 a).2.1 ≠ (TX7 b).2.1 := by decide +kernel
theorem tyX7_ok : ∀ k, k < 2 → parseFieldDescriptor (TX7 k).2.2.1 = some (tyX7 k) := by decide +kernel
noncomputable abbrev cX7_init : ByteArray := prog_9_method_1_code
noncomputable def yX7_init : MethodName := ⟨RX7, "<init>", "()V"⟩
noncomputable abbrev cX7_hasRoomFor : ByteArray := prog_9_method_2_code
noncomputable def yX7_hasRoomFor : MethodName := ⟨RX7, "hasRoomFor", "(I)Z"⟩
noncomputable abbrev cX7_addFour : ByteArray := prog_9_method_3_code
noncomputable def yX7_addFour : MethodName := ⟨RX7, "addFour", "(I)V"⟩
noncomputable abbrev cX7_byteAt : ByteArray := prog_9_method_4_code
noncomputable def yX7_byteAt : MethodName := ⟨RX7, "byteAt", "(I)I"⟩
noncomputable def RX8 : String := "GuessFerry$Tellers"
noncomputable def TX8 : u_T := fun k => match k with
  | 0 => ("GuessFerry$Tellers", "sound", "LGuessFerry$Sound;", true)
  | 1 => ("GuessFerry$Tellers", "crossing", "LGuessFerry$Crossing;", true)
  | 2 => ("GuessFerry$Tellers", "toldWaves", "[I", true)
  | 3 => ("GuessFerry$Tellers", "toldThings", "[I", true)
  | 4 => ("GuessFerry$Tellers", "odds", "[I", true)
  | 5 => ("GuessFerry$Tellers", "belied", "[I", true)
  | 6 => ("GuessFerry$Tellers", "byLies", "[I", true)
  | _ => ("GuessFerry$Tellers", "told", "I", false)
noncomputable def tyX8 : Nat → FieldType := fun k => match k with
  | 0 => .object "GuessFerry$Sound"
  | 1 => .object "GuessFerry$Crossing"
  | 2 => .array .int
  | 3 => .array .int
  | 4 => .array .int
  | 5 => .array .int
  | 6 => .array .int
  | _ => .int
theorem nmX8 : ∀ a, a < 8 → ∀ b, b < 8 → a ≠ b → (TX8 a).2.1 ≠ (TX8 b).2.1 := by decide +kernel
theorem tyX8_ok : ∀ k, k < 8 → parseFieldDescriptor (TX8 k).2.2.1 = some (tyX8 k) := by decide +kernel
noncomputable abbrev cX8_init : ByteArray := prog_10_method_1_code
noncomputable def yX8_init : MethodName := ⟨RX8, "<init>", "(LGuessFerry$Sound;LGuessFerry$Crossing;)V"⟩
noncomputable abbrev cX8_add : ByteArray := prog_10_method_2_code
noncomputable def yX8_add : MethodName := ⟨RX8, "add", "(II)I"⟩
noncomputable abbrev cX8_areSuch : ByteArray := prog_10_method_3_code
noncomputable def yX8_areSuch : MethodName := ⟨RX8, "areSuch", "(II)Z"⟩
noncomputable abbrev cX8_believe : ByteArray := prog_10_method_4_code
noncomputable def yX8_believe : MethodName := ⟨RX8, "believe", "(LGuessFerry$Standing;I)V"⟩
noncomputable abbrev cX8_beliedBy : ByteArray := prog_10_method_5_code
noncomputable def yX8_beliedBy : MethodName := ⟨RX8, "beliedBy", "(III)I"⟩
noncomputable abbrev cX8_sortByLies : ByteArray := prog_10_method_6_code
noncomputable def yX8_sortByLies : MethodName := ⟨RX8, "sortByLies", "(IZ)V"⟩
noncomputable abbrev cX8_withWave : ByteArray := prog_10_method_7_code
noncomputable def yX8_withWave : MethodName := ⟨RX8, "withWave", "(IIZ)I"⟩
noncomputable abbrev cX8_upTo : ByteArray := prog_10_method_8_code
noncomputable def yX8_upTo : MethodName := ⟨RX8, "upTo", "(I)I"⟩
noncomputable abbrev cX8_fitting : ByteArray := prog_10_method_9_code
noncomputable def yX8_fitting : MethodName := ⟨RX8, "fitting", "(IZ)I"⟩
noncomputable abbrev cX8_fittingWith : ByteArray := prog_10_method_10_code
noncomputable def yX8_fittingWith : MethodName := ⟨RX8, "fittingWith", "(III)I"⟩
noncomputable abbrev cX8_liars : ByteArray := prog_10_method_11_code
noncomputable def yX8_liars : MethodName := ⟨RX8, "liars", "(II)I"⟩
noncomputable abbrev cX8_waveToAsk : ByteArray := prog_10_method_12_code
noncomputable def yX8_waveToAsk : MethodName := ⟨RX8, "waveToAsk", "(I)I"⟩
noncomputable def RX9 : String := "GuessFerry$Tokens"
noncomputable def TX9 : u_T := fun k => match k with
  | 0 => ("GuessFerry$Tokens", "tape", "LGuessFerry$Tape;", true)
  | 1 => ("GuessFerry$Tokens", "words", "[J", true)
  | 2 => ("GuessFerry$Tokens", "kinds", "[I", true)
  | 3 => ("GuessFerry$Tokens", "starts", "[I", true)
  | 4 => ("GuessFerry$Tokens", "values", "[J", true)
  | 5 => ("GuessFerry$Tokens", "end", "I", false)
  | _ => ("GuessFerry$Tokens", "value", "J", false)
noncomputable def tyX9 : Nat → FieldType := fun k => match k with
  | 0 => .object "GuessFerry$Tape"
  | 1 => .array .long
  | 2 => .array .int
  | 3 => .array .int
  | 4 => .array .long
  | 5 => .int
  | _ => .long
theorem nmX9 : ∀ a, a < 7 → ∀ b, b < 7 → a ≠ b → (TX9 a).2.1 ≠ (TX9 b).2.1 := by decide +kernel
theorem tyX9_ok : ∀ k, k < 7 → parseFieldDescriptor (TX9 k).2.2.1 = some (tyX9 k) := by decide +kernel
noncomputable abbrev cX9_init : ByteArray := prog_11_method_1_code
noncomputable def yX9_init : MethodName := ⟨RX9, "<init>", "(LGuessFerry$Tape;)V"⟩
noncomputable abbrev cX9_isBlank : ByteArray := prog_11_method_2_code
noncomputable def yX9_isBlank : MethodName := ⟨RX9, "isBlank", "(I)Z"⟩
noncomputable abbrev cX9_isLetter : ByteArray := prog_11_method_3_code
noncomputable def yX9_isLetter : MethodName := ⟨RX9, "isLetter", "(I)Z"⟩
noncomputable abbrev cX9_isDigit : ByteArray := prog_11_method_4_code
noncomputable def yX9_isDigit : MethodName := ⟨RX9, "isDigit", "(I)Z"⟩
noncomputable abbrev cX9_withLetter : ByteArray := prog_11_method_5_code
noncomputable def yX9_withLetter : MethodName := ⟨RX9, "withLetter", "(JI)J"⟩
noncomputable abbrev cX9_split : ByteArray := prog_11_method_6_code
noncomputable def yX9_split : MethodName := ⟨RX9, "split", "()V"⟩
noncomputable abbrev cX9_skipBlanks : ByteArray := prog_11_method_7_code
noncomputable def yX9_skipBlanks : MethodName := ⟨RX9, "skipBlanks", "()V"⟩
noncomputable abbrev cX9_splitOne : ByteArray := prog_11_method_8_code
noncomputable def yX9_splitOne : MethodName := ⟨RX9, "splitOne", "()I"⟩
noncomputable abbrev cX9_splitLetters : ByteArray := prog_11_method_9_code
noncomputable def yX9_splitLetters : MethodName := ⟨RX9, "splitLetters", "()I"⟩
noncomputable abbrev cX9_splitDigits : ByteArray := prog_11_method_10_code
noncomputable def yX9_splitDigits : MethodName := ⟨RX9, "splitDigits", "()I"⟩
noncomputable def RX10 : String := "GuessFerry"
noncomputable def TX10 : u_T := fun k => match k with
  | 0 => ("GuessFerry", "tape", "LGuessFerry$Tape;", true)
  | 1 => ("GuessFerry", "sound", "LGuessFerry$Sound;", true)
  | 2 => ("GuessFerry", "reader", "LGuessFerry$Reader;", true)
  | 3 => ("GuessFerry", "now", "LGuessFerry$Standing;", true)
  | 4 => ("GuessFerry", "trial", "LGuessFerry$Standing;", true)
  | 5 => ("GuessFerry", "past", "LGuessFerry$Past;", true)
  | 6 => ("GuessFerry", "crossing", "LGuessFerry$Crossing;", true)
  | 7 => ("GuessFerry", "outlook", "LGuessFerry$Outlook;", true)
  | _ => ("GuessFerry", "tellers", "LGuessFerry$Tellers;", true)
noncomputable def tyX10 : Nat → FieldType := fun k => match k with
  | 0 => .object "GuessFerry$Tape"
  | 1 => .object "GuessFerry$Sound"
  | 2 => .object "GuessFerry$Reader"
  | 3 => .object "GuessFerry$Standing"
  | 4 => .object "GuessFerry$Standing"
  | 5 => .object "GuessFerry$Past"
  | 6 => .object "GuessFerry$Crossing"
  | 7 => .object "GuessFerry$Outlook"
  | _ => .object "GuessFerry$Tellers"
theorem nmX10 : ∀ a, a < 9 → ∀ b, b < 9 → a ≠ b → (TX10 a).2.1 ≠ (TX10 b).2.1 := by decide +kernel
theorem tyX10_ok : ∀ k, k < 9 → parseFieldDescriptor (TX10 k).2.2.1 = some (tyX10 k) := by decide +kernel
noncomputable abbrev cX10_init : ByteArray := prog_1_method_1_code
noncomputable def yX10_init : MethodName := ⟨RX10, "<init>", "()V"⟩
noncomputable abbrev cX10_feed : ByteArray := prog_1_method_2_code
noncomputable def yX10_feed : MethodName := ⟨RX10, "feed", "(IIIII)I"⟩
noncomputable abbrev cX10_back : ByteArray := prog_1_method_3_code
noncomputable def yX10_back : MethodName := ⟨RX10, "back", "(I)I"⟩
noncomputable abbrev cX10_read : ByteArray := prog_1_method_4_code
noncomputable def yX10_read : MethodName := ⟨RX10, "read", "()I"⟩
noncomputable abbrev cX10_place : ByteArray := prog_1_method_5_code
noncomputable def yX10_place : MethodName := ⟨RX10, "place", "()I"⟩
noncomputable abbrev cX10_wave : ByteArray := prog_1_method_6_code
noncomputable def yX10_wave : MethodName := ⟨RX10, "wave", "(II)I"⟩
noncomputable abbrev cX10_odds : ByteArray := prog_1_method_7_code
noncomputable def yX10_odds : MethodName := ⟨RX10, "odds", "(II)I"⟩
noncomputable abbrev cX10_party : ByteArray := prog_1_method_8_code
noncomputable def yX10_party : MethodName := ⟨RX10, "party", "(II)I"⟩
noncomputable abbrev cX10_needs : ByteArray := prog_1_method_9_code
noncomputable def yX10_needs : MethodName := ⟨RX10, "needs", "(III)I"⟩
noncomputable abbrev cX10_go : ByteArray := prog_1_method_10_code
noncomputable def yX10_go : MethodName := ⟨RX10, "go", "(II)I"⟩
noncomputable abbrev cX10_buoy : ByteArray := prog_1_method_11_code
noncomputable def yX10_buoy : MethodName := ⟨RX10, "buoy", "(IIZ)Z"⟩
noncomputable abbrev cX10_fetch : ByteArray := prog_1_method_12_code
noncomputable def yX10_fetch : MethodName := ⟨RX10, "fetch", "(I)Z"⟩
noncomputable abbrev cX10_years : ByteArray := prog_1_method_13_code
noncomputable def yX10_years : MethodName := ⟨RX10, "years", "(I)I"⟩
noncomputable abbrev cX10_undo : ByteArray := prog_1_method_14_code
noncomputable def yX10_undo : MethodName := ⟨RX10, "undo", "()Z"⟩
noncomputable abbrev cX10_cases : ByteArray := prog_1_method_15_code
noncomputable def yX10_cases : MethodName := ⟨RX10, "cases", "()I"⟩
noncomputable abbrev cX10_chance : ByteArray := prog_1_method_16_code
noncomputable def yX10_chance : MethodName := ⟨RX10, "chance", "(I)I"⟩
noncomputable abbrev cX10_all : ByteArray := prog_1_method_17_code
noncomputable def yX10_all : MethodName := ⟨RX10, "all", "()I"⟩
noncomputable abbrev cX10_likeliest : ByteArray := prog_1_method_18_code
noncomputable def yX10_likeliest : MethodName := ⟨RX10, "likeliest", "()I"⟩
noncomputable abbrev cX10_bears : ByteArray := prog_1_method_19_code
noncomputable def yX10_bears : MethodName := ⟨RX10, "bears", "(II)I"⟩
noncomputable abbrev cX10_safest : ByteArray := prog_1_method_20_code
noncomputable def yX10_safest : MethodName := ⟨RX10, "safest", "(I)I"⟩
noncomputable abbrev cX10_enough : ByteArray := prog_1_method_21_code
noncomputable def yX10_enough : MethodName := ⟨RX10, "enough", "()I"⟩
noncomputable abbrev cX10_left : ByteArray := prog_1_method_22_code
noncomputable def yX10_left : MethodName := ⟨RX10, "left", "(I)I"⟩
noncomputable abbrev cX10_wisest : ByteArray := prog_1_method_23_code
noncomputable def yX10_wisest : MethodName := ⟨RX10, "wisest", "(I)I"⟩
noncomputable abbrev cX10_rank : ByteArray := prog_1_method_24_code
noncomputable def yX10_rank : MethodName := ⟨RX10, "rank", "(I)I"⟩
noncomputable abbrev cX10_ranked : ByteArray := prog_1_method_25_code
noncomputable def yX10_ranked : MethodName := ⟨RX10, "ranked", "(I)I"⟩
noncomputable abbrev cX10_share : ByteArray := prog_1_method_26_code
noncomputable def yX10_share : MethodName := ⟨RX10, "share", "(II)I"⟩
noncomputable abbrev cX10_sure : ByteArray := prog_1_method_27_code
noncomputable def yX10_sure : MethodName := ⟨RX10, "sure", "(II)I"⟩
noncomputable abbrev cX10_alike : ByteArray := prog_1_method_28_code
noncomputable def yX10_alike : MethodName := ⟨RX10, "alike", "(II)I"⟩
noncomputable abbrev cX10_sunk : ByteArray := prog_1_method_29_code
noncomputable def yX10_sunk : MethodName := ⟨RX10, "sunk", "(I)I"⟩
noncomputable abbrev cX10_stuck : ByteArray := prog_1_method_30_code
noncomputable def yX10_stuck : MethodName := ⟨RX10, "stuck", "()I"⟩
noncomputable abbrev cX10_spread : ByteArray := prog_1_method_31_code
noncomputable def yX10_spread : MethodName := ⟨RX10, "spread", "(I)I"⟩
noncomputable abbrev cX10_dearest : ByteArray := prog_1_method_32_code
noncomputable def yX10_dearest : MethodName := ⟨RX10, "dearest", "(I)I"⟩
noncomputable abbrev cX10_chosen : ByteArray := prog_1_method_33_code
noncomputable def yX10_chosen : MethodName := ⟨RX10, "chosen", "()I"⟩
noncomputable abbrev cX10_allGo : ByteArray := prog_1_method_34_code
noncomputable def yX10_allGo : MethodName := ⟨RX10, "allGo", "(I)I"⟩
noncomputable abbrev cX10_darers : ByteArray := prog_1_method_35_code
noncomputable def yX10_darers : MethodName := ⟨RX10, "darers", "()I"⟩
noncomputable abbrev cX10_open : ByteArray := prog_1_method_36_code
noncomputable def yX10_open : MethodName := ⟨RX10, "open", "()I"⟩
noncomputable abbrev cX10_then : ByteArray := prog_1_method_37_code
noncomputable def yX10_then : MethodName := ⟨RX10, "then", "(III)I"⟩
noncomputable abbrev cX10_next : ByteArray := prog_1_method_38_code
noncomputable def yX10_next : MethodName := ⟨RX10, "next", "(I)I"⟩
noncomputable abbrev cX10_year : ByteArray := prog_1_method_39_code
noncomputable def yX10_year : MethodName := ⟨RX10, "year", "(II)I"⟩
noncomputable abbrev cX10_drawn : ByteArray := prog_1_method_40_code
noncomputable def yX10_drawn : MethodName := ⟨RX10, "drawn", "(II)I"⟩
noncomputable abbrev cX10_tell : ByteArray := prog_1_method_41_code
noncomputable def yX10_tell : MethodName := ⟨RX10, "tell", "(IIZ)I"⟩
noncomputable abbrev cX10_forget : ByteArray := prog_1_method_42_code
noncomputable def yX10_forget : MethodName := ⟨RX10, "forget", "()I"⟩
noncomputable abbrev cX10_fit : ByteArray := prog_1_method_43_code
noncomputable def yX10_fit : MethodName := ⟨RX10, "fit", "(III)I"⟩
noncomputable abbrev cX10_lie : ByteArray := prog_1_method_44_code
noncomputable def yX10_lie : MethodName := ⟨RX10, "lie", "(II)I"⟩
noncomputable abbrev cX10_ask : ByteArray := prog_1_method_45_code
noncomputable def yX10_ask : MethodName := ⟨RX10, "ask", "(II)I"⟩
noncomputable abbrev cX10_hold : ByteArray := prog_1_method_46_code
noncomputable def yX10_hold : MethodName := ⟨RX10, "hold", "(I)Z"⟩
noncomputable abbrev cX10_restore : ByteArray := prog_1_method_47_code
noncomputable def yX10_restore : MethodName := ⟨RX10, "restore", "(I)Z"⟩
noncomputable abbrev cX10_count : ByteArray := prog_1_method_48_code
noncomputable def yX10_count : MethodName := ⟨RX10, "count", "(I)I"⟩
noncomputable abbrev cX10_isHere : ByteArray := prog_1_method_49_code
noncomputable def yX10_isHere : MethodName := ⟨RX10, "isHere", "(I)Z"⟩
noncomputable abbrev cX10_partiesThatAre : ByteArray := prog_1_method_50_code
noncomputable def yX10_partiesThatAre : MethodName := ⟨RX10, "partiesThatAre", "(LGuessFerry$Standing;I)I"⟩
noncomputable abbrev cX10_buoysLying : ByteArray := prog_1_method_51_code
noncomputable def yX10_buoysLying : MethodName := ⟨RX10, "buoysLying", "()I"⟩
noncomputable abbrev cX10_wavesFound : ByteArray := prog_1_method_52_code
noncomputable def yX10_wavesFound : MethodName := ⟨RX10, "wavesFound", "()I"⟩
noncomputable abbrev cX10_wavesWithNothing : ByteArray := prog_1_method_53_code
noncomputable def yX10_wavesWithNothing : MethodName := ⟨RX10, "wavesWithNothing", "()I"⟩
noncomputable abbrev cX10_faresOfAllHere : ByteArray := prog_1_method_54_code
noncomputable def yX10_faresOfAllHere : MethodName := ⟨RX10, "faresOfAllHere", "()I"⟩
noncomputable abbrev cX10_isThing : ByteArray := prog_1_method_55_code
noncomputable def yX10_isThing : MethodName := ⟨RX10, "isThing", "(I)Z"⟩
noncomputable abbrev cX10_has : ByteArray := prog_1_method_56_code
noncomputable def yX10_has : MethodName := ⟨RX10, "has", "(II)Z"⟩
noncomputable abbrev cX10_sumOf : ByteArray := prog_1_method_57_code
noncomputable def yX10_sumOf : MethodName := ⟨RX10, "sumOf", "([I)I"⟩
noncomputable abbrev cX10_thingIn : ByteArray := prog_1_method_58_code
noncomputable def yX10_thingIn : MethodName := ⟨RX10, "thingIn", "(II)I"⟩
noncomputable abbrev cX10_heldTo : ByteArray := prog_1_method_59_code
noncomputable def yX10_heldTo : MethodName := ⟨RX10, "heldTo", "(II)I"⟩
noncomputable abbrev cX10_lot : ByteArray := prog_1_method_60_code
noncomputable def yX10_lot : MethodName := ⟨RX10, "lot", "(III)I"⟩
noncomputable abbrev cX10_stirred : ByteArray := prog_1_method_61_code
noncomputable def yX10_stirred : MethodName := ⟨RX10, "stirred", "(II)I"⟩
noncomputable def RX11 : String := "GuessFerryModel"
noncomputable def TX11 : u_T := fun k => match k with
  | 0 => ("GuessFerryModel", "thrown", "I", false)
  | 1 => ("GuessFerryModel", "tape", "[B", true)
  | 2 => ("GuessFerryModel", "taped", "I", false)
  | 3 => ("GuessFerryModel", "text", "[B", true)
  | 4 => ("GuessFerryModel", "size", "I", false)
  | 5 => ("GuessFerryModel", "tKind", "[I", true)
  | 6 => ("GuessFerryModel", "tPlace", "[I", true)
  | 7 => ("GuessFerryModel", "tValue", "[I", true)
  | 8 => ("GuessFerryModel", "tName", "[J", true)
  | 9 => ("GuessFerryModel", "keys", "[J", true)
  | 10 => ("GuessFerryModel", "tokens", "I", false)
  | 11 => ("GuessFerryModel", "t", "I", false)
  | 12 => ("GuessFerryModel", "open", "I", false)
  | 13 => ("GuessFerryModel", "fault", "I", false)
  | 14 => ("GuessFerryModel", "faultPlace", "I", false)
  | 15 => ("GuessFerryModel", "worst", "I", false)
  | 16 => ("GuessFerryModel", "worstPlace", "I", false)
  | 17 => ("GuessFerryModel", "place", "I", false)
  | 18 => ("GuessFerryModel", "live", "I", false)
  | 19 => ("GuessFerryModel", "side", "I", false)
  | 20 => ("GuessFerryModel", "waves", "[I", true)
  | 21 => ("GuessFerryModel", "oddsOf", "[I", true)
  | 22 => ("GuessFerryModel", "nameOf", "[J", true)
  | 23 => ("GuessFerryModel", "parties", "[I", true)
  | 24 => ("GuessFerryModel", "heavyOf", "[I", true)
  | 25 => ("GuessFerryModel", "nerveOf", "[I", true)
  | 26 => ("GuessFerryModel", "seed", "[I", true)
  | 27 => ("GuessFerryModel", "lawFirst", "[I", true)
  | 28 => ("GuessFerryModel", "lawLast", "[I", true)
  | 29 => ("GuessFerryModel", "branches", "I", false)
  | 30 => ("GuessFerryModel", "hasTest", "[Z", true)
  | 31 => ("GuessFerryModel", "testFrom", "[I", true)
  | 32 => ("GuessFerryModel", "testMid", "[I", true)
  | 33 => ("GuessFerryModel", "testTo", "[I", true)
  | 34 => ("GuessFerryModel", "termTo", "[I", true)
  | 35 => ("GuessFerryModel", "codes", "I", false)
  | 36 => ("GuessFerryModel", "code", "[I", true)
  | 37 => ("GuessFerryModel", "codeInt", "[I", true)
  | 38 => ("GuessFerryModel", "waits", "[I", true)
  | 39 => ("GuessFerryModel", "waiting", "I", false)
  | 40 => ("GuessFerryModel", "variables", "[I", true)
  | 41 => ("GuessFerryModel", "pile", "[I", true)
  | 42 => ("GuessFerryModel", "isBroken", "Z", false)
  | 43 => ("GuessFerryModel", "now", "[I", true)
  | 44 => ("GuessFerryModel", "row", "[I", true)
  | 45 => ("GuessFerryModel", "lots", "I", false)
  | 46 => ("GuessFerryModel", "sixes", "[I", true)
  | 47 => ("GuessFerryModel", "shiftsNow", "[Z", true)
  | 48 => ("GuessFerryModel", "undos", "I", false)
  | 49 => ("GuessFerryModel", "history", "[I", true)
  | 50 => ("GuessFerryModel", "chanceBy", "[I", true)
  | 51 => ("GuessFerryModel", "tolds", "I", false)
  | 52 => ("GuessFerryModel", "toldWave", "[I", true)
  | 53 => ("GuessFerryModel", "toldThings", "[I", true)
  | 54 => ("GuessFerryModel", "toldSo", "[Z", true)
  | 55 => ("GuessFerryModel", "fitBy", "[I", true)
  | 56 => ("GuessFerryModel", "isHeld", "[Z", true)
  | _ => ("GuessFerryModel", "heldRows", "[I", true)
noncomputable def tyX11 : Nat → FieldType := fun k => match k with
  | 0 => .int
  | 1 => .array .byte
  | 2 => .int
  | 3 => .array .byte
  | 4 => .int
  | 5 => .array .int
  | 6 => .array .int
  | 7 => .array .int
  | 8 => .array .long
  | 9 => .array .long
  | 10 => .int
  | 11 => .int
  | 12 => .int
  | 13 => .int
  | 14 => .int
  | 15 => .int
  | 16 => .int
  | 17 => .int
  | 18 => .int
  | 19 => .int
  | 20 => .array .int
  | 21 => .array .int
  | 22 => .array .long
  | 23 => .array .int
  | 24 => .array .int
  | 25 => .array .int
  | 26 => .array .int
  | 27 => .array .int
  | 28 => .array .int
  | 29 => .int
  | 30 => .array .boolean
  | 31 => .array .int
  | 32 => .array .int
  | 33 => .array .int
  | 34 => .array .int
  | 35 => .int
  | 36 => .array .int
  | 37 => .array .int
  | 38 => .array .int
  | 39 => .int
  | 40 => .array .int
  | 41 => .array .int
  | 42 => .boolean
  | 43 => .array .int
  | 44 => .array .int
  | 45 => .int
  | 46 => .array .int
  | 47 => .array .boolean
  | 48 => .int
  | 49 => .array .int
  | 50 => .array .int
  | 51 => .int
  | 52 => .array .int
  | 53 => .array .int
  | 54 => .array .boolean
  | 55 => .array .int
  | 56 => .array .boolean
  | _ => .array .int
theorem nmX11 : ∀ a, a < 58 → ∀ b, b < 58 → a ≠ b → (TX11 a).2.1 ≠ (TX11 b).2.1 := by decide +kernel
theorem tyX11_ok : ∀ k, k < 58 → parseFieldDescriptor (TX11 k).2.2.1 = some (tyX11 k) := by decide +kernel
noncomputable abbrev cX11_init : ByteArray := prog_13_method_2_code
noncomputable def yX11_init : MethodName := ⟨RX11, "<init>", "()V"⟩
noncomputable abbrev cX11_feed : ByteArray := prog_13_method_3_code
noncomputable def yX11_feed : MethodName := ⟨RX11, "feed", "(IIIII)I"⟩
noncomputable abbrev cX11_put : ByteArray := prog_13_method_4_code
noncomputable def yX11_put : MethodName := ⟨RX11, "put", "(I)V"⟩
noncomputable abbrev cX11_back : ByteArray := prog_13_method_5_code
noncomputable def yX11_back : MethodName := ⟨RX11, "back", "(I)I"⟩
noncomputable abbrev cX11_byteAt : ByteArray := prog_13_method_6_code
noncomputable def yX11_byteAt : MethodName := ⟨RX11, "byteAt", "(I)I"⟩
noncomputable abbrev cX11_isDigit : ByteArray := prog_13_method_7_code
noncomputable def yX11_isDigit : MethodName := ⟨RX11, "isDigit", "(I)Z"⟩
noncomputable abbrev cX11_isLetter : ByteArray := prog_13_method_8_code
noncomputable def yX11_isLetter : MethodName := ⟨RX11, "isLetter", "(I)Z"⟩
noncomputable abbrev cX11_appends : ByteArray := prog_13_method_9_code
noncomputable def yX11_appends : MethodName := ⟨RX11, "appends", "(JI)J"⟩
noncomputable abbrev cX11_word : ByteArray := prog_13_method_10_code
noncomputable def yX11_word : MethodName := ⟨RX11, "word", "(IIIIIII)J"⟩
noncomputable abbrev cX11_token : ByteArray := prog_13_method_11_code
noncomputable def yX11_token : MethodName := ⟨RX11, "token", "(IIIJ)V"⟩
noncomputable abbrev cX11_cut : ByteArray := prog_13_method_12_code
noncomputable def yX11_cut : MethodName := ⟨RX11, "cut", "()V"⟩
noncomputable abbrev cX11_sign : ByteArray := prog_13_method_13_code
noncomputable def yX11_sign : MethodName := ⟨RX11, "sign", "(III)I"⟩
noncomputable abbrev cX11_is : ByteArray := prog_13_method_14_code
noncomputable def yX11_is : MethodName := ⟨RX11, "is", "(I)Z"⟩
noncomputable abbrev cX11_fail : ByteArray := prog_13_method_15_code
noncomputable def yX11_fail : MethodName := ⟨RX11, "fail", "(I)V"⟩
noncomputable abbrev cX11_wrong : ByteArray := prog_13_method_16_code
noncomputable def yX11_wrong : MethodName := ⟨RX11, "wrong", "(II)V"⟩
noncomputable abbrev cX11_goesOn : ByteArray := prog_13_method_17_code
noncomputable def yX11_goesOn : MethodName := ⟨RX11, "goesOn", "()V"⟩
noncomputable abbrev cX11_must : ByteArray := prog_13_method_18_code
noncomputable def yX11_must : MethodName := ⟨RX11, "must", "(I)V"⟩
noncomputable abbrev cX11_plain : ByteArray := prog_13_method_19_code
noncomputable def yX11_plain : MethodName := ⟨RX11, "plain", "(I)V"⟩
noncomputable abbrev cX11_read : ByteArray := prog_13_method_20_code
noncomputable def yX11_read : MethodName := ⟨RX11, "read", "()I"⟩
noncomputable abbrev cX11_place : ByteArray := prog_13_method_21_code
noncomputable def yX11_place : MethodName := ⟨RX11, "place", "()I"⟩
noncomputable abbrev cX11_roomFor : ByteArray := prog_13_method_22_code
noncomputable def yX11_roomFor : MethodName := ⟨RX11, "roomFor", "(II)V"⟩
noncomputable abbrev cX11_tellOne : ByteArray := prog_13_method_23_code
noncomputable def yX11_tellOne : MethodName := ⟨RX11, "tellOne", "()V"⟩
noncomputable abbrev cX11_bounded : ByteArray := prog_13_method_24_code
noncomputable def yX11_bounded : MethodName := ⟨RX11, "bounded", "(I)I"⟩
noncomputable abbrev cX11_tellWave : ByteArray := prog_13_method_25_code
noncomputable def yX11_tellWave : MethodName := ⟨RX11, "tellWave", "()V"⟩
noncomputable abbrev cX11_tellParty : ByteArray := prog_13_method_26_code
noncomputable def yX11_tellParty : MethodName := ⟨RX11, "tellParty", "()V"⟩
noncomputable abbrev cX11_tellLaw : ByteArray := prog_13_method_27_code
noncomputable def yX11_tellLaw : MethodName := ⟨RX11, "tellLaw", "(I)V"⟩
noncomputable abbrev cX11_term : ByteArray := prog_13_method_28_code
noncomputable def yX11_term : MethodName := ⟨RX11, "term", "()V"⟩
noncomputable abbrev cX11_emit : ByteArray := prog_13_method_29_code
noncomputable def yX11_emit : MethodName := ⟨RX11, "emit", "(II)V"⟩
noncomputable abbrev cX11_comesOut : ByteArray := prog_13_method_30_code
noncomputable def yX11_comesOut : MethodName := ⟨RX11, "comesOut", "(Z)V"⟩
noncomputable abbrev cX11_expression : ByteArray := prog_13_method_31_code
noncomputable def yX11_expression : MethodName := ⟨RX11, "expression", "()V"⟩
noncomputable abbrev cX11_unit : ByteArray := prog_13_method_32_code
noncomputable def yX11_unit : MethodName := ⟨RX11, "unit", "()V"⟩
noncomputable abbrev cX11_termOf : ByteArray := prog_13_method_33_code
noncomputable def yX11_termOf : MethodName := ⟨RX11, "termOf", "(II)I"⟩
noncomputable abbrev cX11_in : ByteArray := prog_13_method_34_code
noncomputable def yX11_in : MethodName := ⟨RX11, "in", "(III)Z"⟩
noncomputable abbrev cX11_within : ByteArray := prog_13_method_35_code
noncomputable def yX11_within : MethodName := ⟨RX11, "within", "(III)I"⟩
noncomputable abbrev cX11_bits : ByteArray := prog_13_method_36_code
noncomputable def yX11_bits : MethodName := ⟨RX11, "bits", "(I)I"⟩
noncomputable abbrev cX11_isWave : ByteArray := prog_13_method_37_code
noncomputable def yX11_isWave : MethodName := ⟨RX11, "isWave", "(I)Z"⟩
noncomputable abbrev cX11_isParty : ByteArray := prog_13_method_38_code
noncomputable def yX11_isParty : MethodName := ⟨RX11, "isParty", "(I)Z"⟩
noncomputable abbrev cX11_guesses : ByteArray := prog_13_method_39_code
noncomputable def yX11_guesses : MethodName := ⟨RX11, "guesses", "()I"⟩
noncomputable abbrev cX11_isGuess : ByteArray := prog_13_method_40_code
noncomputable def yX11_isGuess : MethodName := ⟨RX11, "isGuess", "(I)Z"⟩
noncomputable abbrev cX11_isThing : ByteArray := prog_13_method_41_code
noncomputable def yX11_isThing : MethodName := ⟨RX11, "isThing", "(I)Z"⟩
noncomputable abbrev cX11_thingAt : ByteArray := prog_13_method_42_code
noncomputable def yX11_thingAt : MethodName := ⟨RX11, "thingAt", "(II)I"⟩
noncomputable abbrev cX11_begins : ByteArray := prog_13_method_43_code
noncomputable def yX11_begins : MethodName := ⟨RX11, "begins", "()V"⟩
noncomputable abbrev cX11_keepsRow : ByteArray := prog_13_method_44_code
noncomputable def yX11_keepsRow : MethodName := ⟨RX11, "keepsRow", "()V"⟩
noncomputable abbrev cX11_copies : ByteArray := prog_13_method_45_code
noncomputable def yX11_copies : MethodName := ⟨RX11, "copies", "()V"⟩
noncomputable abbrev cX11_mixed : ByteArray := prog_13_method_46_code
noncomputable def yX11_mixed : MethodName := ⟨RX11, "mixed", "(II)I"⟩
noncomputable abbrev cX11_lotOf : ByteArray := prog_13_method_47_code
noncomputable def yX11_lotOf : MethodName := ⟨RX11, "lotOf", "(II)I"⟩
noncomputable abbrev cX11_oddsAt : ByteArray := prog_13_method_48_code
noncomputable def yX11_oddsAt : MethodName := ⟨RX11, "oddsAt", "(II)I"⟩
noncomputable abbrev cX11_thereAt : ByteArray := prog_13_method_49_code
noncomputable def yX11_thereAt : MethodName := ⟨RX11, "thereAt", "(I)I"⟩
noncomputable abbrev cX11_thereNumber : ByteArray := prog_13_method_50_code
noncomputable def yX11_thereNumber : MethodName := ⟨RX11, "thereNumber", "()I"⟩
noncomputable abbrev cX11_mayAt : ByteArray := prog_13_method_51_code
noncomputable def yX11_mayAt : MethodName := ⟨RX11, "mayAt", "(I)I"⟩
noncomputable abbrev cX11_lawTells : ByteArray := prog_13_method_52_code
noncomputable def yX11_lawTells : MethodName := ⟨RX11, "lawTells", "(II)I"⟩
noncomputable abbrev cX11_looks : ByteArray := prog_13_method_53_code
noncomputable def yX11_looks : MethodName := ⟨RX11, "looks", "(I)V"⟩
noncomputable abbrev cX11_looksOver : ByteArray := prog_13_method_54_code
noncomputable def yX11_looksOver : MethodName := ⟨RX11, "looksOver", "(I)V"⟩
noncomputable abbrev cX11_needsOf : ByteArray := prog_13_method_55_code
noncomputable def yX11_needsOf : MethodName := ⟨RX11, "needsOf", "(III)I"⟩
noncomputable abbrev cX11_faresOf : ByteArray := prog_13_method_56_code
noncomputable def yX11_faresOf : MethodName := ⟨RX11, "faresOf", "(I)I"⟩
noncomputable abbrev cX11_doesDare : ByteArray := prog_13_method_57_code
noncomputable def yX11_doesDare : MethodName := ⟨RX11, "doesDare", "(I)Z"⟩
noncomputable abbrev cX11_shiftsOf : ByteArray := prog_13_method_58_code
noncomputable def yX11_shiftsOf : MethodName := ⟨RX11, "shiftsOf", "(I)I"⟩
noncomputable abbrev cX11_doesBear : ByteArray := prog_13_method_59_code
noncomputable def yX11_doesBear : MethodName := ⟨RX11, "doesBear", "(III)Z"⟩
noncomputable abbrev cX11_bearsBy : ByteArray := prog_13_method_60_code
noncomputable def yX11_bearsBy : MethodName := ⟨RX11, "bearsBy", "(II)I"⟩
noncomputable abbrev cX11_goesBy : ByteArray := prog_13_method_61_code
noncomputable def yX11_goesBy : MethodName := ⟨RX11, "goesBy", "(III)I"⟩
noncomputable abbrev cX11_yearGoes : ByteArray := prog_13_method_62_code
noncomputable def yX11_yearGoes : MethodName := ⟨RX11, "yearGoes", "()V"⟩
noncomputable abbrev cX11_yearsGo : ByteArray := prog_13_method_63_code
noncomputable def yX11_yearsGo : MethodName := ⟨RX11, "yearsGo", "(I)V"⟩
noncomputable abbrev cX11_wave : ByteArray := prog_13_method_64_code
noncomputable def yX11_wave : MethodName := ⟨RX11, "wave", "(II)I"⟩
noncomputable abbrev cX11_odds : ByteArray := prog_13_method_65_code
noncomputable def yX11_odds : MethodName := ⟨RX11, "odds", "(II)I"⟩
noncomputable abbrev cX11_party : ByteArray := prog_13_method_66_code
noncomputable def yX11_party : MethodName := ⟨RX11, "party", "(II)I"⟩
noncomputable abbrev cX11_needs : ByteArray := prog_13_method_67_code
noncomputable def yX11_needs : MethodName := ⟨RX11, "needs", "(III)I"⟩
noncomputable abbrev cX11_records : ByteArray := prog_13_method_68_code
noncomputable def yX11_records : MethodName := ⟨RX11, "records", "()V"⟩
noncomputable abbrev cX11_isHere : ByteArray := prog_13_method_69_code
noncomputable def yX11_isHere : MethodName := ⟨RX11, "isHere", "(I)Z"⟩
noncomputable abbrev cX11_go : ByteArray := prog_13_method_70_code
noncomputable def yX11_go : MethodName := ⟨RX11, "go", "(II)I"⟩
noncomputable abbrev cX11_buoy : ByteArray := prog_13_method_71_code
noncomputable def yX11_buoy : MethodName := ⟨RX11, "buoy", "(IIZ)Z"⟩
noncomputable abbrev cX11_fetch : ByteArray := prog_13_method_72_code
noncomputable def yX11_fetch : MethodName := ⟨RX11, "fetch", "(I)Z"⟩
noncomputable abbrev cX11_isLong : ByteArray := prog_13_method_73_code
noncomputable def yX11_isLong : MethodName := ⟨RX11, "isLong", "(I)Z"⟩
noncomputable abbrev cX11_years : ByteArray := prog_13_method_74_code
noncomputable def yX11_years : MethodName := ⟨RX11, "years", "(I)I"⟩
noncomputable abbrev cX11_undo : ByteArray := prog_13_method_75_code
noncomputable def yX11_undo : MethodName := ⟨RX11, "undo", "()Z"⟩
noncomputable abbrev cX11_casesNow : ByteArray := prog_13_method_76_code
noncomputable def yX11_casesNow : MethodName := ⟨RX11, "casesNow", "()I"⟩
noncomputable abbrev cX11_cases : ByteArray := prog_13_method_77_code
noncomputable def yX11_cases : MethodName := ⟨RX11, "cases", "()I"⟩
noncomputable abbrev cX11_mayBe : ByteArray := prog_13_method_78_code
noncomputable def yX11_mayBe : MethodName := ⟨RX11, "mayBe", "(II)Z"⟩
noncomputable abbrev cX11_chanceOf : ByteArray := prog_13_method_79_code
noncomputable def yX11_chanceOf : MethodName := ⟨RX11, "chanceOf", "(I)I"⟩
noncomputable abbrev cX11_isCase : ByteArray := prog_13_method_80_code
noncomputable def yX11_isCase : MethodName := ⟨RX11, "isCase", "(I)Z"⟩
noncomputable abbrev cX11_chance : ByteArray := prog_13_method_81_code
noncomputable def yX11_chance : MethodName := ⟨RX11, "chance", "(I)I"⟩
noncomputable abbrev cX11_sumAt : ByteArray := prog_13_method_82_code
noncomputable def yX11_sumAt : MethodName := ⟨RX11, "sumAt", "(I)I"⟩
noncomputable abbrev cX11_all : ByteArray := prog_13_method_83_code
noncomputable def yX11_all : MethodName := ⟨RX11, "all", "()I"⟩
noncomputable abbrev cX11_bestFor : ByteArray := prog_13_method_84_code
noncomputable def yX11_bestFor : MethodName := ⟨RX11, "bestFor", "(I)I"⟩
noncomputable abbrev cX11_likeliest : ByteArray := prog_13_method_85_code
noncomputable def yX11_likeliest : MethodName := ⟨RX11, "likeliest", "()I"⟩
noncomputable abbrev cX11_bears : ByteArray := prog_13_method_86_code
noncomputable def yX11_bears : MethodName := ⟨RX11, "bears", "(II)I"⟩
noncomputable abbrev cX11_safest : ByteArray := prog_13_method_87_code
noncomputable def yX11_safest : MethodName := ⟨RX11, "safest", "(I)I"⟩
noncomputable abbrev cX11_enough : ByteArray := prog_13_method_88_code
noncomputable def yX11_enough : MethodName := ⟨RX11, "enough", "()I"⟩
noncomputable abbrev cX11_leftOf : ByteArray := prog_13_method_89_code
noncomputable def yX11_leftOf : MethodName := ⟨RX11, "leftOf", "(I)I"⟩
noncomputable abbrev cX11_left : ByteArray := prog_13_method_90_code
noncomputable def yX11_left : MethodName := ⟨RX11, "left", "(I)I"⟩
noncomputable abbrev cX11_wisest : ByteArray := prog_13_method_91_code
noncomputable def yX11_wisest : MethodName := ⟨RX11, "wisest", "(I)I"⟩
noncomputable abbrev cX11_fillsChances : ByteArray := prog_13_method_92_code
noncomputable def yX11_fillsChances : MethodName := ⟨RX11, "fillsChances", "()V"⟩
noncomputable abbrev cX11_isAhead : ByteArray := prog_13_method_93_code
noncomputable def yX11_isAhead : MethodName := ⟨RX11, "isAhead", "(II)Z"⟩
noncomputable abbrev cX11_rank : ByteArray := prog_13_method_94_code
noncomputable def yX11_rank : MethodName := ⟨RX11, "rank", "(I)I"⟩
noncomputable abbrev cX11_ranked : ByteArray := prog_13_method_95_code
noncomputable def yX11_ranked : MethodName := ⟨RX11, "ranked", "(I)I"⟩
noncomputable abbrev cX11_share : ByteArray := prog_13_method_96_code
noncomputable def yX11_share : MethodName := ⟨RX11, "share", "(II)I"⟩
noncomputable abbrev cX11_comesOver : ByteArray := prog_13_method_97_code
noncomputable def yX11_comesOver : MethodName := ⟨RX11, "comesOver", "(III)Z"⟩
noncomputable abbrev cX11_sure : ByteArray := prog_13_method_98_code
noncomputable def yX11_sure : MethodName := ⟨RX11, "sure", "(II)I"⟩
noncomputable abbrev cX11_alike : ByteArray := prog_13_method_99_code
noncomputable def yX11_alike : MethodName := ⟨RX11, "alike", "(II)I"⟩
noncomputable abbrev cX11_sunk : ByteArray := prog_13_method_100_code
noncomputable def yX11_sunk : MethodName := ⟨RX11, "sunk", "(I)I"⟩
noncomputable abbrev cX11_stuck : ByteArray := prog_13_method_101_code
noncomputable def yX11_stuck : MethodName := ⟨RX11, "stuck", "()I"⟩
noncomputable abbrev cX11_spread : ByteArray := prog_13_method_102_code
noncomputable def yX11_spread : MethodName := ⟨RX11, "spread", "(I)I"⟩
noncomputable abbrev cX11_dearest : ByteArray := prog_13_method_103_code
noncomputable def yX11_dearest : MethodName := ⟨RX11, "dearest", "(I)I"⟩
noncomputable abbrev cX11_chosen : ByteArray := prog_13_method_104_code
noncomputable def yX11_chosen : MethodName := ⟨RX11, "chosen", "()I"⟩
noncomputable abbrev cX11_manyIn : ByteArray := prog_13_method_105_code
noncomputable def yX11_manyIn : MethodName := ⟨RX11, "manyIn", "(I)I"⟩
noncomputable abbrev cX11_allGo : ByteArray := prog_13_method_106_code
noncomputable def yX11_allGo : MethodName := ⟨RX11, "allGo", "(I)I"⟩
noncomputable abbrev cX11_darers : ByteArray := prog_13_method_107_code
noncomputable def yX11_darers : MethodName := ⟨RX11, "darers", "()I"⟩
noncomputable abbrev cX11_open : ByteArray := prog_13_method_108_code
noncomputable def yX11_open : MethodName := ⟨RX11, "open", "()I"⟩
noncomputable abbrev cX11_then : ByteArray := prog_13_method_109_code
noncomputable def yX11_then : MethodName := ⟨RX11, "then", "(III)I"⟩
noncomputable abbrev cX11_next : ByteArray := prog_13_method_110_code
noncomputable def yX11_next : MethodName := ⟨RX11, "next", "(I)I"⟩
noncomputable abbrev cX11_year : ByteArray := prog_13_method_111_code
noncomputable def yX11_year : MethodName := ⟨RX11, "year", "(II)I"⟩
noncomputable abbrev cX11_drawn : ByteArray := prog_13_method_112_code
noncomputable def yX11_drawn : MethodName := ⟨RX11, "drawn", "(II)I"⟩
noncomputable abbrev cX11_tell : ByteArray := prog_13_method_113_code
noncomputable def yX11_tell : MethodName := ⟨RX11, "tell", "(IIZ)I"⟩
noncomputable abbrev cX11_forget : ByteArray := prog_13_method_114_code
noncomputable def yX11_forget : MethodName := ⟨RX11, "forget", "()I"⟩
noncomputable abbrev cX11_isSo : ByteArray := prog_13_method_115_code
noncomputable def yX11_isSo : MethodName := ⟨RX11, "isSo", "(II)Z"⟩
noncomputable abbrev cX11_doesFit : ByteArray := prog_13_method_116_code
noncomputable def yX11_doesFit : MethodName := ⟨RX11, "doesFit", "(III)Z"⟩
noncomputable abbrev cX11_isAsked : ByteArray := prog_13_method_117_code
noncomputable def yX11_isAsked : MethodName := ⟨RX11, "isAsked", "(II)Z"⟩
noncomputable abbrev cX11_fit : ByteArray := prog_13_method_118_code
noncomputable def yX11_fit : MethodName := ⟨RX11, "fit", "(III)I"⟩
noncomputable abbrev cX11_lie : ByteArray := prog_13_method_119_code
noncomputable def yX11_lie : MethodName := ⟨RX11, "lie", "(II)I"⟩
noncomputable abbrev cX11_worstAt : ByteArray := prog_13_method_120_code
noncomputable def yX11_worstAt : MethodName := ⟨RX11, "worstAt", "(I)I"⟩
noncomputable abbrev cX11_ask : ByteArray := prog_13_method_121_code
noncomputable def yX11_ask : MethodName := ⟨RX11, "ask", "(II)I"⟩
noncomputable abbrev cX11_hold : ByteArray := prog_13_method_122_code
noncomputable def yX11_hold : MethodName := ⟨RX11, "hold", "(I)Z"⟩
noncomputable abbrev cX11_restore : ByteArray := prog_13_method_123_code
noncomputable def yX11_restore : MethodName := ⟨RX11, "restore", "(I)Z"⟩
noncomputable abbrev cX11_partiesIn : ByteArray := prog_13_method_124_code
noncomputable def yX11_partiesIn : MethodName := ⟨RX11, "partiesIn", "(I)I"⟩
noncomputable abbrev cX11_sumNow : ByteArray := prog_13_method_125_code
noncomputable def yX11_sumNow : MethodName := ⟨RX11, "sumNow", "(II)I"⟩
noncomputable abbrev cX11_count : ByteArray := prog_13_method_126_code
noncomputable def yX11_count : MethodName := ⟨RX11, "count", "(I)I"⟩
noncomputable def RJx145de : String := "java/io/Serializable"
noncomputable def TJx145de : u_T := fun k => match k with
  | _ => ("", "", "", false)
noncomputable def tyJx145de : Nat → FieldType := fun k => match k with
  | _ => .int
noncomputable def RJx9f9b0 : String := "java/lang/CharSequence"
noncomputable def TJx9f9b0 : u_T := fun k => match k with
  | _ => ("", "", "", false)
noncomputable def tyJx9f9b0 : Nat → FieldType := fun k => match k with
  | _ => .int
noncomputable def RJ11 : String := "java/lang/Character"
noncomputable def TJ11 : u_T := fun k => match k with
  | _ => ("", "", "", false)
noncomputable def tyJ11 : Nat → FieldType := fun k => match k with
  | _ => .int
noncomputable abbrev cJ11_isValidCodePoint_9a6ad : ByteArray := prog_14_method_11_code
noncomputable def yJ11_isValidCodePoint_9a6ad : MethodName := ⟨RJ11, "isValidCodePoint", "(I)Z"⟩
noncomputable abbrev cJ11_highSurrogate_5068e : ByteArray := prog_14_method_28_code
noncomputable def yJ11_highSurrogate_5068e : MethodName := ⟨RJ11, "highSurrogate", "(I)C"⟩
noncomputable abbrev cJ11_lowSurrogate_5068e : ByteArray := prog_14_method_29_code
noncomputable def yJ11_lowSurrogate_5068e : MethodName := ⟨RJ11, "lowSurrogate", "(I)C"⟩
noncomputable def RJxb160c : String := "java/lang/Comparable"
noncomputable def TJxb160c : u_T := fun k => match k with
  | _ => ("", "", "", false)
noncomputable def tyJxb160c : Nat → FieldType := fun k => match k with
  | _ => .int
noncomputable def RJ6 : String := "java/lang/Integer"
noncomputable def TJ6 : u_T := fun k => match k with
  | _ => ("", "", "", false)
noncomputable def tyJ6 : Nat → FieldType := fun k => match k with
  | _ => .int
noncomputable abbrev cJ6_numberOfTrailingZeros_0f7a4 : ByteArray := prog_15_method_48_code
noncomputable def yJ6_numberOfTrailingZeros_0f7a4 : MethodName := ⟨RJ6, "numberOfTrailingZeros", "(I)I"⟩
noncomputable abbrev cJ6_bitCount_0f7a4 : ByteArray := prog_15_method_49_code
noncomputable def yJ6_bitCount_0f7a4 : MethodName := ⟨RJ6, "bitCount", "(I)I"⟩
noncomputable def RJ9 : String := "java/lang/Math"
noncomputable def TJ9 : u_T := fun k => match k with
  | _ => ("", "", "", false)
noncomputable def tyJ9 : Nat → FieldType := fun k => match k with
  | _ => .int
noncomputable abbrev cJ9_max_7cf53 : ByteArray := prog_16_method_65_code
noncomputable def yJ9_max_7cf53 : MethodName := ⟨RJ9, "max", "(II)I"⟩
noncomputable abbrev cJ9_min_7cf53 : ByteArray := prog_16_method_69_code
noncomputable def yJ9_min_7cf53 : MethodName := ⟨RJ9, "min", "(II)I"⟩
noncomputable def RJ0 : String := "java/lang/String"
noncomputable def TJ0 : u_T := fun k => match k with
  | _ => ("", "", "", false)
noncomputable def tyJ0 : Nat → FieldType := fun k => match k with
  | _ => .int
noncomputable abbrev cJ0_length_8abf5 : ByteArray := prog_17_method_54_code
noncomputable def yJ0_length_8abf5 : MethodName := ⟨RJ0, "length", "()I"⟩
noncomputable abbrev cJ0_charAt_5068e : ByteArray := prog_17_method_56_code
noncomputable def yJ0_charAt_5068e : MethodName := ⟨RJ0, "charAt", "(I)C"⟩
noncomputable abbrev cJ0_indexOf_0f7a4 : ByteArray := prog_17_method_79_code
noncomputable def yJ0_indexOf_0f7a4 : MethodName := ⟨RJ0, "indexOf", "(I)I"⟩
noncomputable abbrev cJ0_indexOf_7cf53 : ByteArray := prog_17_method_80_code
noncomputable def yJ0_indexOf_7cf53 : MethodName := ⟨RJ0, "indexOf", "(II)I"⟩
noncomputable abbrev cJ0_coder_7d493 : ByteArray := prog_17_method_152_code
noncomputable def yJ0_coder_7d493 : MethodName := ⟨RJ0, "coder", "()B"⟩
noncomputable abbrev cJ0_isLatin1_aae02 : ByteArray := prog_17_method_154_code
noncomputable def yJ0_isLatin1_aae02 : MethodName := ⟨RJ0, "isLatin1", "()Z"⟩
noncomputable abbrev cJ0_checkIndex_df160 : ByteArray := prog_17_method_155_code
noncomputable def yJ0_checkIndex_df160 : MethodName := ⟨RJ0, "checkIndex", "(II)V"⟩
noncomputable abbrev cJ0_checkBoundsBeginEnd_23922 : ByteArray := prog_17_method_158_code
noncomputable def yJ0_checkBoundsBeginEnd_23922 : MethodName := ⟨RJ0, "checkBoundsBeginEnd", "(III)V"⟩
noncomputable def RJ1 : String := "java/lang/StringLatin1"
noncomputable def TJ1 : u_T := fun k => match k with
  | _ => ("", "", "", false)
noncomputable def tyJ1 : Nat → FieldType := fun k => match k with
  | _ => .int
noncomputable abbrev cJ1_charAt_3b067 : ByteArray := prog_18_method_2_code
noncomputable def yJ1_charAt_3b067 : MethodName := ⟨RJ1, "charAt", "([BI)C"⟩
noncomputable abbrev cJ1_canEncode_9a6ad : ByteArray := prog_18_method_4_code
noncomputable def yJ1_canEncode_9a6ad : MethodName := ⟨RJ1, "canEncode", "(I)Z"⟩
noncomputable abbrev cJ1_indexOf_4cfef : ByteArray := prog_18_method_22_code
noncomputable def yJ1_indexOf_4cfef : MethodName := ⟨RJ1, "indexOf", "([BIII)I"⟩
noncomputable abbrev cJ1_indexOfChar_4cfef : ByteArray := prog_18_method_23_code
noncomputable def yJ1_indexOfChar_4cfef : MethodName := ⟨RJ1, "indexOfChar", "([BIII)I"⟩
noncomputable def RJ2 : String := "java/lang/StringUTF16"
noncomputable def TJ2 : u_T := fun k => match k with
  | _ => ("", "", "", false)
noncomputable def tyJ2 : Nat → FieldType := fun k => match k with
  | _ => .int
noncomputable abbrev cJ2_getChar_3b067 : ByteArray := prog_19_method_5_code
noncomputable def yJ2_getChar_3b067 : MethodName := ⟨RJ2, "getChar", "([BI)C"⟩
noncomputable abbrev cJ2_length_9d52b : ByteArray := prog_19_method_6_code
noncomputable def yJ2_length_9d52b : MethodName := ⟨RJ2, "length", "([B)I"⟩
noncomputable abbrev cJ2_indexOf_4cfef : ByteArray := prog_19_method_40_code
noncomputable def yJ2_indexOf_4cfef : MethodName := ⟨RJ2, "indexOf", "([BIII)I"⟩
noncomputable abbrev cJ2_indexOfChar_4cfef : ByteArray := prog_19_method_47_code
noncomputable def yJ2_indexOfChar_4cfef : MethodName := ⟨RJ2, "indexOfChar", "([BIII)I"⟩
noncomputable abbrev cJ2_indexOfCharUnsafe_4cfef : ByteArray := prog_19_method_48_code
noncomputable def yJ2_indexOfCharUnsafe_4cfef : MethodName := ⟨RJ2, "indexOfCharUnsafe", "([BIII)I"⟩
noncomputable abbrev cJ2_indexOfSupplementary_4cfef : ByteArray := prog_19_method_49_code
noncomputable def yJ2_indexOfSupplementary_4cfef : MethodName := ⟨RJ2, "indexOfSupplementary", "([BIII)I"⟩
noncomputable abbrev cJ2_charAt_3b067 : ByteArray := prog_19_method_83_code
noncomputable def yJ2_charAt_3b067 : MethodName := ⟨RJ2, "charAt", "([BI)C"⟩
noncomputable abbrev cJ2_checkIndex_2214a : ByteArray := prog_19_method_91_code
noncomputable def yJ2_checkIndex_2214a : MethodName := ⟨RJ2, "checkIndex", "(I[B)V"⟩
noncomputable abbrev cJ2_checkBoundsBeginEnd_d044e : ByteArray := prog_19_method_93_code
noncomputable def yJ2_checkBoundsBeginEnd_d044e : MethodName := ⟨RJ2, "checkBoundsBeginEnd", "(II[B)V"⟩
noncomputable def RJ10 : String := "java/lang/System"
noncomputable def TJ10 : u_T := fun k => match k with
  | _ => ("", "", "", false)
noncomputable def tyJ10 : Nat → FieldType := fun k => match k with
  | _ => .int
noncomputable def RJxfd54e : String := "java/lang/constant/Constable"
noncomputable def TJxfd54e : u_T := fun k => match k with
  | _ => ("", "", "", false)
noncomputable def tyJxfd54e : Nat → FieldType := fun k => match k with
  | _ => .int
noncomputable def RJx3cf43 : String := "java/lang/constant/ConstantDesc"
noncomputable def TJx3cf43 : u_T := fun k => match k with
  | _ => ("", "", "", false)
noncomputable def tyJx3cf43 : Nat → FieldType := fun k => match k with
  | _ => .int
noncomputable def RJ7 : String := "java/util/Arrays"
noncomputable def TJ7 : u_T := fun k => match k with
  | _ => ("", "", "", false)
noncomputable def tyJ7 : Nat → FieldType := fun k => match k with
  | _ => .int
noncomputable abbrev cJ7_fill_53178 : ByteArray := prog_21_method_103_code
noncomputable def yJ7_fill_53178 : MethodName := ⟨RJ7, "fill", "([II)V"⟩
noncomputable def RJ3 : String := "jdk/internal/util/Preconditions"
noncomputable def TJ3 : u_T := fun k => match k with
  | _ => ("", "", "", false)
noncomputable def tyJ3 : Nat → FieldType := fun k => match k with
  | _ => .int
noncomputable abbrev cJ3_checkIndex_8e157 : ByteArray := prog_22_method_11_code
noncomputable def yJ3_checkIndex_8e157 : MethodName := ⟨RJ3, "checkIndex", "(IILjava/util/function/BiFunction;)I"⟩
noncomputable abbrev cJ3_checkFromToIndex_8c36e : ByteArray := prog_22_method_12_code
noncomputable def yJ3_checkFromToIndex_8c36e : MethodName := ⟨RJ3, "checkFromToIndex", "(IIILjava/util/function/BiFunction;)I"⟩
noncomputable def RL : String := "GuessFerryLaw"
noncomputable abbrev cL_law : ByteArray := code
noncomputable def yL_law : MethodName := ⟨RL, "law", "([I)Z"⟩
noncomputable def gdl (l : List Cond) : Prop := ∀ w ∈ l, ((w.onTables && w.keeps) = true ∨ ∃ ty, w = .arrayClass ty)
theorem gdl_dec {l : List Cond} (h : l.all goodWord = true) : gdl l := fun w hw => good_of_word (List.all_eq_true.mp h w hw)
theorem gdl_app {a b : List Cond} (ha : gdl a) (hb : gdl b) : gdl (a ++ b) := fun w h => (List.mem_append.mp h).elim (ha w) (hb w)
theorem gdl_cons {c : Cond} {l : List Cond} (hc : goodWord c = true) (hl : gdl l) : gdl (c :: l) := fun w h => (List.mem_cons.mp h).elim (fun e => by subst e; exact good_of_word hc) (hl w)
theorem gi_sub {big ws : List Cond} (hm : ∀ w ∈ ws, w ∈ big) (hg : gdl ws) : GoodIn big ws := fun w h => ⟨hm w h, hg w h⟩
noncomputable abbrev wsX00 : List Cond := u_ws RX0 TX0 2
set_option maxRecDepth 20000 in
theorem gd_wsX00 : gdl wsX00 := gdl_dec (by decide +kernel)
noncomputable abbrev wsX10 : List Cond := u_ws RX1 TX1 9
set_option maxRecDepth 20000 in
theorem gd_wsX10 : gdl wsX10 := gdl_dec (by decide +kernel)
noncomputable abbrev wsX20 : List Cond := u_ws RX2 TX2 6
set_option maxRecDepth 20000 in
theorem gd_wsX20 : gdl wsX20 := gdl_dec (by decide +kernel)
noncomputable abbrev wsX30 : List Cond := u_ws RX3 TX3 5
set_option maxRecDepth 20000 in
theorem gd_wsX30 : gdl wsX30 := gdl_dec (by decide +kernel)
noncomputable abbrev wsX40 : List Cond := u_ws RX4 TX4 8
set_option maxRecDepth 20000 in
theorem gd_wsX40 : gdl wsX40 := gdl_dec (by decide +kernel)
noncomputable abbrev wsX50 : List Cond := u_ws RX5 TX5 10
set_option maxRecDepth 20000 in
theorem gd_wsX50 : gdl wsX50 := gdl_dec (by decide +kernel)
noncomputable abbrev wsX60 : List Cond := u_ws RX6 TX6 7
set_option maxRecDepth 20000 in
theorem gd_wsX60 : gdl wsX60 := gdl_dec (by decide +kernel)
noncomputable abbrev wsX70 : List Cond := u_ws RX7 TX7 2
set_option maxRecDepth 20000 in
theorem gd_wsX70 : gdl wsX70 := gdl_dec (by decide +kernel)
noncomputable abbrev wsX80 : List Cond := u_ws RX8 TX8 8
set_option maxRecDepth 20000 in
theorem gd_wsX80 : gdl wsX80 := gdl_dec (by decide +kernel)
noncomputable abbrev wsX90 : List Cond := u_ws RX9 TX9 7
set_option maxRecDepth 20000 in
theorem gd_wsX90 : gdl wsX90 := gdl_dec (by decide +kernel)
noncomputable abbrev wsX100 : List Cond := u_ws RX10 TX10 9
set_option maxRecDepth 20000 in
theorem gd_wsX100 : gdl wsX100 := gdl_dec (by decide +kernel)
noncomputable abbrev wsX110 : List Cond := u_ws RX11 TX11 58
set_option maxRecDepth 20000 in
theorem gd_wsX110 : gdl wsX110 := gdl_dec (by decide +kernel)
noncomputable abbrev wsJx145de0 : List Cond := u_ws RJx145de TJx145de 0
set_option maxRecDepth 20000 in
theorem gd_wsJx145de0 : gdl wsJx145de0 := gdl_dec (by decide +kernel)
noncomputable abbrev wsJx9f9b00 : List Cond := u_ws RJx9f9b0 TJx9f9b0 0
set_option maxRecDepth 20000 in
theorem gd_wsJx9f9b00 : gdl wsJx9f9b00 := gdl_dec (by decide +kernel)
noncomputable abbrev wsJ110 : List Cond := u_ws RJ11 TJ11 0
set_option maxRecDepth 20000 in
theorem gd_wsJ110 : gdl wsJ110 := gdl_dec (by decide +kernel)
noncomputable abbrev wsJxb160c0 : List Cond := u_ws RJxb160c TJxb160c 0
set_option maxRecDepth 20000 in
theorem gd_wsJxb160c0 : gdl wsJxb160c0 := gdl_dec (by decide +kernel)
noncomputable abbrev wsJ60 : List Cond := u_ws RJ6 TJ6 0
set_option maxRecDepth 20000 in
theorem gd_wsJ60 : gdl wsJ60 := gdl_dec (by decide +kernel)
noncomputable abbrev wsJ90 : List Cond := u_ws RJ9 TJ9 0
set_option maxRecDepth 20000 in
theorem gd_wsJ90 : gdl wsJ90 := gdl_dec (by decide +kernel)
noncomputable abbrev wsJ00 : List Cond := u_ws RJ0 TJ0 0
set_option maxRecDepth 20000 in
theorem gd_wsJ00 : gdl wsJ00 := gdl_dec (by decide +kernel)
noncomputable abbrev wsJ10 : List Cond := u_ws RJ1 TJ1 0
set_option maxRecDepth 20000 in
theorem gd_wsJ10 : gdl wsJ10 := gdl_dec (by decide +kernel)
noncomputable abbrev wsJ20 : List Cond := u_ws RJ2 TJ2 0
set_option maxRecDepth 20000 in
theorem gd_wsJ20 : gdl wsJ20 := gdl_dec (by decide +kernel)
noncomputable abbrev wsJ100 : List Cond := u_ws RJ10 TJ10 0
set_option maxRecDepth 20000 in
theorem gd_wsJ100 : gdl wsJ100 := gdl_dec (by decide +kernel)
noncomputable abbrev wsJxfd54e0 : List Cond := u_ws RJxfd54e TJxfd54e 0
set_option maxRecDepth 20000 in
theorem gd_wsJxfd54e0 : gdl wsJxfd54e0 := gdl_dec (by decide +kernel)
noncomputable abbrev wsJx3cf430 : List Cond := u_ws RJx3cf43 TJx3cf43 0
set_option maxRecDepth 20000 in
theorem gd_wsJx3cf430 : gdl wsJx3cf430 := gdl_dec (by decide +kernel)
noncomputable abbrev wsJ70 : List Cond := u_ws RJ7 TJ7 0
set_option maxRecDepth 20000 in
theorem gd_wsJ70 : gdl wsJ70 := gdl_dec (by decide +kernel)
noncomputable abbrev wsJ30 : List Cond := u_ws RJ3 TJ3 0
set_option maxRecDepth 20000 in
theorem gd_wsJ30 : gdl wsJ30 := gdl_dec (by decide +kernel)
noncomputable def wsX0_init : List Cond := .code yX0_init cX0_init 2 none :: (([.methodLink RX0 3 objectInit, .instanceMethod objectInit, .code objectInit ⟨#[0xb1]⟩ 1 none, .fieldLink RX0 9 "GuessFerry$Crossing" "sound" "LGuessFerry$Sound;", .fieldLink RX0 27 "GuessFerry$Crossing" "vars" "[I"] : List Cond) ++ wsX00 ++ wsX50 ++ wsX10)
set_option maxRecDepth 20000 in
theorem gd_wsX0_init : gdl wsX0_init := gdl_dec (by decide +kernel)
noncomputable def wsX0_mayBe : List Cond := .code yX0_mayBe cX0_mayBe 3 (some .int) :: (([.fieldLink RX0 9 "GuessFerry$Crossing" "sound" "LGuessFerry$Sound;"] : List Cond) ++ wsX60 ++ wsX00 ++ wsX50)
set_option maxRecDepth 20000 in
theorem gd_wsX0_mayBe : gdl wsX0_mayBe := gdl_dec (by decide +kernel)
noncomputable def wsX10_stirred : List Cond := .code yX10_stirred cX10_stirred 3 (some .int) :: ([.constant RX10 325 (1103515245)])
set_option maxRecDepth 20000 in
theorem gd_wsX10_stirred : gdl wsX10_stirred := gdl_dec (by decide +kernel)
noncomputable def wsX10_lot_o : List Cond := [.methodLink RX10 322 yX10_stirred, .static yX10_stirred, .initialized RX10]
noncomputable def wsX10_lot : List Cond := .code yX10_lot cX10_lot 4 (some .int) :: ((wsX10_lot_o ++ wsX10_stirred))
set_option maxRecDepth 20000 in
theorem gd_wsX10_lot : gdl wsX10_lot := gdl_cons (by decide +kernel) (gdl_app (gdl_dec (by decide +kernel)) gd_wsX10_stirred)
noncomputable def wsX5_oddsAt : List Cond := .code yX5_oddsAt cX5_oddsAt 3 (some .int) :: (([.fieldLink RX5 9 "GuessFerry$Sound" "odds" "[I"] : List Cond) ++ wsX50)
set_option maxRecDepth 20000 in
theorem gd_wsX5_oddsAt : gdl wsX5_oddsAt := gdl_dec (by decide +kernel)
noncomputable def wsX5_thingThere_o : List Cond := [.fieldLink RX5 15 "GuessFerry$Sound" "oddsSums" "[I", .static yX10_lot, .initialized RX10, .methodLink RX5 51 yX5_oddsAt, .instanceMethod yX5_oddsAt, .selects RX5 yX5_oddsAt yX5_oddsAt, .initialized RX5]
noncomputable def wsX5_thingThere : List Cond := .code yX5_thingThere cX5_thingThere 7 (some .int) :: ((wsX5_thingThere_o ++ (wsX10_lot ++ wsX5_oddsAt)) ++ wsX50)
set_option maxRecDepth 20000 in
theorem gd_wsX5_thingThere : gdl wsX5_thingThere := gdl_cons (by decide +kernel) (gdl_app (gdl_app (gdl_dec (by decide +kernel)) (gdl_app gd_wsX10_lot gd_wsX5_oddsAt)) gd_wsX50)
noncomputable def wsX0_thereNow_o : List Cond := [.fieldLink RX0 9 "GuessFerry$Crossing" "sound" "LGuessFerry$Sound;", .instanceMethod yX5_thingThere, .initialized RX5, .selects RX5 yX5_thingThere yX5_thingThere]
noncomputable def wsX0_thereNow : List Cond := .code yX0_thereNow cX0_thereNow 3 (some .int) :: ((wsX0_thereNow_o ++ wsX5_thingThere) ++ wsX00 ++ wsX60 ++ wsX50)
set_option maxRecDepth 20000 in
theorem gd_wsX0_thereNow : gdl wsX0_thereNow := gdl_cons (by decide +kernel) (gdl_app (gdl_app (gdl_app (gdl_app (gdl_dec (by decide +kernel)) gd_wsX5_thingThere) gd_wsX00) gd_wsX60) gd_wsX50)
noncomputable def wsX0_guessThere_o : List Cond := [.fieldLink RX0 9 "GuessFerry$Crossing" "sound" "LGuessFerry$Sound;", .instanceMethod yX5_thingThere, .initialized RX5, .selects RX5 yX5_thingThere yX5_thingThere]
noncomputable def wsX0_guessThere : List Cond := .code yX0_guessThere cX0_guessThere 5 (some .int) :: ((wsX0_guessThere_o ++ wsX5_thingThere) ++ wsX00 ++ wsX50 ++ wsX60)
set_option maxRecDepth 20000 in
theorem gd_wsX0_guessThere : gdl wsX0_guessThere := gdl_cons (by decide +kernel) (gdl_app (gdl_app (gdl_app (gdl_app (gdl_dec (by decide +kernel)) gd_wsX5_thingThere) gd_wsX00) gd_wsX50) gd_wsX60)
noncomputable def wsJ7_fill_53178 : List Cond := .code yJ7_fill_53178 cJ7_fill_53178 4 none :: ([])
set_option maxRecDepth 20000 in
theorem gd_wsJ7_fill_53178 : gdl wsJ7_fill_53178 := gdl_dec (by decide +kernel)
noncomputable def wsX0_clearVars_o : List Cond := [.fieldLink RX0 27 "GuessFerry$Crossing" "vars" "[I", .methodLink RX0 53 yJ7_fill_53178, .static yJ7_fill_53178, .initialized RJ7]
noncomputable def wsX0_clearVars : List Cond := .code yX0_clearVars cX0_clearVars 2 none :: ((wsX0_clearVars_o ++ wsJ7_fill_53178) ++ wsX00 ++ wsX60)
set_option maxRecDepth 20000 in
theorem gd_wsX0_clearVars : gdl wsX0_clearVars := gdl_cons (by decide +kernel) (gdl_app (gdl_app (gdl_app (gdl_dec (by decide +kernel)) gd_wsJ7_fill_53178) gd_wsX00) gd_wsX60)
noncomputable def wsX0_setParty : List Cond := .code yX0_setParty cX0_setParty 3 none :: (([.fieldLink RX0 27 "GuessFerry$Crossing" "vars" "[I", .fieldLink RX0 9 "GuessFerry$Crossing" "sound" "LGuessFerry$Sound;"] : List Cond) ++ wsX00 ++ wsX50 ++ wsX60)
set_option maxRecDepth 20000 in
theorem gd_wsX0_setParty : gdl wsX0_setParty := gdl_dec (by decide +kernel)
noncomputable def wsJ6_bitCount_0f7a4 : List Cond := .code yJ6_bitCount_0f7a4 cJ6_bitCount_0f7a4 1 (some .int) :: ([.constant RJ6 265 (1431655765), .constant RJ6 266 (858993459), .constant RJ6 267 (252645135)])
set_option maxRecDepth 20000 in
theorem gd_wsJ6_bitCount_0f7a4 : gdl wsJ6_bitCount_0f7a4 := gdl_dec (by decide +kernel)
noncomputable def wsX0_setWave_o : List Cond := [.fieldLink RX0 27 "GuessFerry$Crossing" "vars" "[I", .methodLink RX0 71 yX0_mayBe, .instanceMethod yX0_mayBe, .selects RX0 yX0_mayBe yX0_mayBe, .initialized RX0, .methodLink RX0 75 yJ6_bitCount_0f7a4, .static yJ6_bitCount_0f7a4, .initialized RJ6]
noncomputable def wsX0_setWave : List Cond := .code yX0_setWave cX0_setWave 3 none :: ((wsX0_setWave_o ++ (wsX0_mayBe ++ wsJ6_bitCount_0f7a4)) ++ wsX00 ++ wsX60 ++ wsX50)
set_option maxRecDepth 20000 in
theorem gd_wsX0_setWave : gdl wsX0_setWave := gdl_cons (by decide +kernel) (gdl_app (gdl_app (gdl_app (gdl_app (gdl_dec (by decide +kernel)) (gdl_app gd_wsX0_mayBe gd_wsJ6_bitCount_0f7a4)) gd_wsX00) gd_wsX60) gd_wsX50)
noncomputable def wsX1_joined : List Cond := .code yX1_joined cX1_joined 4 (some .int) :: (([.fieldLink RX1 63 "GuessFerry$Laws" "isByZero" "Z"] : List Cond) ++ wsX10)
set_option maxRecDepth 20000 in
theorem gd_wsX1_joined : gdl wsX1_joined := gdl_dec (by decide +kernel)
noncomputable def wsX1_partValue_o : List Cond := [.fieldLink RX1 19 "GuessFerry$Laws" "partEnds" "[I", .fieldLink RX1 22 "GuessFerry$Laws" "lawStarts" "[I", .fieldLink RX1 15 "GuessFerry$Laws" "steps" "[I", .fieldLink RX1 31 "GuessFerry$Laws" "stack" "[I", .fieldLink RX1 28 "GuessFerry$Laws" "vars" "[I", .methodLink RX1 71 yX1_joined, .instanceMethod yX1_joined, .selects RX1 yX1_joined yX1_joined, .initialized RX1]
noncomputable def wsX1_partValue : List Cond := .code yX1_partValue cX1_partValue 8 (some .int) :: ((wsX1_partValue_o ++ wsX1_joined) ++ wsX10)
set_option maxRecDepth 20000 in
theorem gd_wsX1_partValue : gdl wsX1_partValue := gdl_cons (by decide +kernel) (gdl_app (gdl_app (gdl_dec (by decide +kernel)) gd_wsX1_joined) gd_wsX10)
noncomputable def wsX1_valueOf_o : List Cond := [.fieldLink RX1 63 "GuessFerry$Laws" "isByZero" "Z", .fieldLink RX1 25 "GuessFerry$Laws" "partCounts" "[I", .methodLink RX1 67 yX1_partValue, .instanceMethod yX1_partValue, .selects RX1 yX1_partValue yX1_partValue, .initialized RX1]
noncomputable def wsX1_valueOf : List Cond := .code yX1_valueOf cX1_valueOf 7 (some .int) :: ((wsX1_valueOf_o ++ wsX1_partValue) ++ wsX10)
set_option maxRecDepth 20000 in
theorem gd_wsX1_valueOf : gdl wsX1_valueOf := gdl_cons (by decide +kernel) (gdl_app (gdl_app (gdl_dec (by decide +kernel)) gd_wsX1_partValue) gd_wsX10)
noncomputable def wsX10_heldTo : List Cond := .code yX10_heldTo cX10_heldTo 2 (some .int) :: ([.methodLink RX10 314 Lib.Math.min.name, .static Lib.Math.min.name, .initialized "java/lang/Math", .code Lib.Math.min.name Lib.Math.min.code 2 (some .int), .methodLink RX10 319 Lib.Math.max.name, .static Lib.Math.max.name, .code Lib.Math.max.name Lib.Math.max.code 2 (some .int)])
set_option maxRecDepth 20000 in
theorem gd_wsX10_heldTo : gdl wsX10_heldTo := gdl_dec (by decide +kernel)
noncomputable def wsX0_needOf_o : List Cond := [Cond.fieldLink RX0 27 "GuessFerry$Crossing" "vars" "[I", Cond.fieldLink RX0 9 "GuessFerry$Crossing" "sound" "LGuessFerry$Sound;", Cond.methodLink RX0 81 yX0_clearVars, Cond.instanceMethod yX0_clearVars, Cond.selects RX0 yX0_clearVars yX0_clearVars, Cond.initialized RX0, Cond.methodLink RX0 85 yX0_setParty, Cond.instanceMethod yX0_setParty, Cond.selects RX0 yX0_setParty yX0_setParty, Cond.methodLink RX0 89 yX0_setWave, Cond.instanceMethod yX0_setWave, Cond.selects RX0 yX0_setWave yX0_setWave, Cond.instanceMethod yX5_oddsAt, Cond.initialized RX5, Cond.selects RX5 yX5_oddsAt yX5_oddsAt, Cond.instanceMethod yX1_valueOf, Cond.initialized RX1, Cond.selects RX1 yX1_valueOf yX1_valueOf, Cond.static yX10_heldTo, Cond.initialized RX10]
noncomputable def wsX0_needOf : List Cond := .code yX0_needOf cX0_needOf 5 (some .int) :: ((wsX0_needOf_o ++ (wsX0_clearVars ++ (wsX0_setParty ++ (wsX0_setWave ++ (wsX5_oddsAt ++ (wsX1_valueOf ++ wsX10_heldTo)))))) ++ wsX00 ++ wsX50 ++ wsX60 ++ wsX10)
set_option maxRecDepth 20000 in
theorem gd_wsX0_needOf : gdl wsX0_needOf := gdl_cons (by decide +kernel) (gdl_app (gdl_app (gdl_app (gdl_app (gdl_app (gdl_dec (by decide +kernel)) (gdl_app gd_wsX0_clearVars (gdl_app gd_wsX0_setParty (gdl_app gd_wsX0_setWave (gdl_app gd_wsX5_oddsAt (gdl_app gd_wsX1_valueOf gd_wsX10_heldTo)))))) gd_wsX00) gd_wsX50) gd_wsX60) gd_wsX10)
noncomputable def wsX0_isBearing_o : List Cond := [Cond.fieldLink RX0 9 "GuessFerry$Crossing" "sound" "LGuessFerry$Sound;", Cond.instanceMethod yX5_oddsAt, Cond.initialized RX5, Cond.selects RX5 yX5_oddsAt yX5_oddsAt, Cond.methodLink RX0 102 yX0_needOf, Cond.instanceMethod yX0_needOf, Cond.selects RX0 yX0_needOf yX0_needOf, Cond.initialized RX0]
noncomputable def wsX0_isBearing : List Cond := .code yX0_isBearing cX0_isBearing 5 (some .boolean) :: ((wsX0_isBearing_o ++ (wsX5_oddsAt ++ wsX0_needOf)) ++ wsX00 ++ wsX50 ++ wsX60 ++ wsX10)
set_option maxRecDepth 20000 in
theorem gd_wsX0_isBearing : gdl wsX0_isBearing := gdl_cons (by decide +kernel) (gdl_app (gdl_app (gdl_app (gdl_app (gdl_app (gdl_dec (by decide +kernel)) (gdl_app gd_wsX5_oddsAt gd_wsX0_needOf)) gd_wsX00) gd_wsX50) gd_wsX60) gd_wsX10)
noncomputable def wsX0_fareOf_o : List Cond := [Cond.fieldLink RX0 9 "GuessFerry$Crossing" "sound" "LGuessFerry$Sound;", Cond.methodLink RX0 81 yX0_clearVars, Cond.instanceMethod yX0_clearVars, Cond.selects RX0 yX0_clearVars yX0_clearVars, Cond.initialized RX0, Cond.methodLink RX0 85 yX0_setParty, Cond.instanceMethod yX0_setParty, Cond.selects RX0 yX0_setParty yX0_setParty, Cond.instanceMethod yX1_valueOf, Cond.initialized RX1, Cond.selects RX1 yX1_valueOf yX1_valueOf, Cond.static yX10_heldTo, Cond.initialized RX10]
noncomputable def wsX0_fareOf : List Cond := .code yX0_fareOf cX0_fareOf 3 (some .int) :: ((wsX0_fareOf_o ++ (wsX0_clearVars ++ (wsX0_setParty ++ (wsX1_valueOf ++ wsX10_heldTo)))) ++ wsX00 ++ wsX50 ++ wsX60 ++ wsX10)
set_option maxRecDepth 20000 in
theorem gd_wsX0_fareOf : gdl wsX0_fareOf := gdl_cons (by decide +kernel) (gdl_app (gdl_app (gdl_app (gdl_app (gdl_app (gdl_dec (by decide +kernel)) (gdl_app gd_wsX0_clearVars (gdl_app gd_wsX0_setParty (gdl_app gd_wsX1_valueOf gd_wsX10_heldTo)))) gd_wsX00) gd_wsX50) gd_wsX60) gd_wsX10)
noncomputable def wsX0_isDaring_o : List Cond := [Cond.fieldLink RX0 9 "GuessFerry$Crossing" "sound" "LGuessFerry$Sound;", Cond.methodLink RX0 81 yX0_clearVars, Cond.instanceMethod yX0_clearVars, Cond.selects RX0 yX0_clearVars yX0_clearVars, Cond.initialized RX0, Cond.methodLink RX0 85 yX0_setParty, Cond.instanceMethod yX0_setParty, Cond.selects RX0 yX0_setParty yX0_setParty, Cond.instanceMethod yX1_valueOf, Cond.initialized RX1, Cond.selects RX1 yX1_valueOf yX1_valueOf]
noncomputable def wsX0_isDaring : List Cond := .code yX0_isDaring cX0_isDaring 3 (some .boolean) :: ((wsX0_isDaring_o ++ (wsX0_clearVars ++ (wsX0_setParty ++ wsX1_valueOf))) ++ wsX00 ++ wsX50 ++ wsX60 ++ wsX10)
set_option maxRecDepth 20000 in
theorem gd_wsX0_isDaring : gdl wsX0_isDaring := gdl_cons (by decide +kernel) (gdl_app (gdl_app (gdl_app (gdl_app (gdl_app (gdl_dec (by decide +kernel)) (gdl_app gd_wsX0_clearVars (gdl_app gd_wsX0_setParty gd_wsX1_valueOf))) gd_wsX00) gd_wsX50) gd_wsX60) gd_wsX10)
noncomputable def wsX0_shiftsOf_o : List Cond := [Cond.fieldLink RX0 9 "GuessFerry$Crossing" "sound" "LGuessFerry$Sound;", Cond.methodLink RX0 81 yX0_clearVars, Cond.instanceMethod yX0_clearVars, Cond.selects RX0 yX0_clearVars yX0_clearVars, Cond.initialized RX0, Cond.methodLink RX0 89 yX0_setWave, Cond.instanceMethod yX0_setWave, Cond.selects RX0 yX0_setWave yX0_setWave, Cond.instanceMethod yX1_valueOf, Cond.initialized RX1, Cond.selects RX1 yX1_valueOf yX1_valueOf, Cond.static yX10_heldTo, Cond.initialized RX10]
noncomputable def wsX0_shiftsOf : List Cond := .code yX0_shiftsOf cX0_shiftsOf 3 (some .int) :: ((wsX0_shiftsOf_o ++ (wsX0_clearVars ++ (wsX0_setWave ++ (wsX1_valueOf ++ wsX10_heldTo)))) ++ wsX00 ++ wsX50 ++ wsX60 ++ wsX10)
set_option maxRecDepth 20000 in
theorem gd_wsX0_shiftsOf : gdl wsX0_shiftsOf := gdl_cons (by decide +kernel) (gdl_app (gdl_app (gdl_app (gdl_app (gdl_app (gdl_dec (by decide +kernel)) (gdl_app gd_wsX0_clearVars (gdl_app gd_wsX0_setWave (gdl_app gd_wsX1_valueOf gd_wsX10_heldTo)))) gd_wsX00) gd_wsX50) gd_wsX60) gd_wsX10)
noncomputable def wsX10_thingIn : List Cond := .code yX10_thingIn cX10_thingIn 4 (some .int) :: ([])
set_option maxRecDepth 20000 in
theorem gd_wsX10_thingIn : gdl wsX10_thingIn := gdl_dec (by decide +kernel)
noncomputable def wsX0_sendBy_o : List Cond := [Cond.fieldLink RX0 9 "GuessFerry$Crossing" "sound" "LGuessFerry$Sound;", Cond.methodLink RX0 109 yX0_fareOf, Cond.instanceMethod yX0_fareOf, Cond.selects RX0 yX0_fareOf yX0_fareOf, Cond.initialized RX0, Cond.initialized RX10, Cond.static yX10_thingIn, Cond.methodLink RX0 115 yX0_isBearing, Cond.instanceMethod yX0_isBearing, Cond.selects RX0 yX0_isBearing yX0_isBearing, Cond.methodLink RX0 119 yX0_thereNow, Cond.instanceMethod yX0_thereNow, Cond.selects RX0 yX0_thereNow yX0_thereNow]
noncomputable def wsX0_sendBy : List Cond := .code yX0_sendBy cX0_sendBy 8 (some .int) :: ((wsX0_sendBy_o ++ (wsX0_fareOf ++ (wsX10_thingIn ++ (wsX0_isBearing ++ wsX0_thereNow)))) ++ wsX60 ++ wsX00 ++ wsX50 ++ wsX10)
set_option maxRecDepth 20000 in
theorem gd_wsX0_sendBy : gdl wsX0_sendBy := gdl_cons (by decide +kernel) (gdl_app (gdl_app (gdl_app (gdl_app (gdl_app (gdl_dec (by decide +kernel)) (gdl_app gd_wsX0_fareOf (gdl_app gd_wsX10_thingIn (gdl_app gd_wsX0_isBearing gd_wsX0_thereNow)))) gd_wsX60) gd_wsX00) gd_wsX50) gd_wsX10)
noncomputable def wsX0_passYearOver_o : List Cond := [Cond.fieldLink RX0 9 "GuessFerry$Crossing" "sound" "LGuessFerry$Sound;", Cond.constant RX0 128 (1000000), Cond.static yX10_lot, Cond.initialized RX10, Cond.methodLink RX0 132 yX0_shiftsOf, Cond.instanceMethod yX0_shiftsOf, Cond.selects RX0 yX0_shiftsOf yX0_shiftsOf, Cond.initialized RX0]
noncomputable def wsX0_passYearOver : List Cond := .code yX0_passYearOver cX0_passYearOver 4 none :: ((wsX0_passYearOver_o ++ (wsX10_lot ++ wsX0_shiftsOf)) ++ wsX00 ++ wsX50 ++ wsX60 ++ wsX10)
set_option maxRecDepth 20000 in
theorem gd_wsX0_passYearOver : gdl wsX0_passYearOver := gdl_cons (by decide +kernel) (gdl_app (gdl_app (gdl_app (gdl_app (gdl_app (gdl_dec (by decide +kernel)) (gdl_app gd_wsX10_lot gd_wsX0_shiftsOf)) gd_wsX00) gd_wsX50) gd_wsX60) gd_wsX10)
noncomputable def wsX0_passYears_o : List Cond := [Cond.fieldLink RX0 9 "GuessFerry$Crossing" "sound" "LGuessFerry$Sound;", Cond.methodLink RX0 125 yX0_passYearOver, Cond.instanceMethod yX0_passYearOver, Cond.selects RX0 yX0_passYearOver yX0_passYearOver, Cond.initialized RX0]
noncomputable def wsX0_passYears : List Cond := .code yX0_passYears cX0_passYears 5 none :: ((wsX0_passYears_o ++ wsX0_passYearOver) ++ wsX00 ++ wsX50 ++ wsX60 ++ wsX10)
set_option maxRecDepth 20000 in
theorem gd_wsX0_passYears : gdl wsX0_passYears := gdl_cons (by decide +kernel) (gdl_app (gdl_app (gdl_app (gdl_app (gdl_app (gdl_dec (by decide +kernel)) gd_wsX0_passYearOver) gd_wsX00) gd_wsX50) gd_wsX60) gd_wsX10)
noncomputable def wsX1_init : List Cond := .code yX1_init cX1_init 1 none :: (([.methodLink RX1 9 objectInit, .instanceMethod objectInit, .code objectInit ⟨#[0xb1]⟩ 1 none, .arrayClass .int, .fieldLink RX1 15 "GuessFerry$Laws" "steps" "[I", .fieldLink RX1 19 "GuessFerry$Laws" "partEnds" "[I", .fieldLink RX1 22 "GuessFerry$Laws" "lawStarts" "[I", .fieldLink RX1 25 "GuessFerry$Laws" "partCounts" "[I", .fieldLink RX1 28 "GuessFerry$Laws" "vars" "[I", .fieldLink RX1 31 "GuessFerry$Laws" "stack" "[I"] : List Cond) ++ wsX10)
set_option maxRecDepth 20000 in
theorem gd_wsX1_init : gdl wsX1_init := gdl_dec (by decide +kernel)
noncomputable def wsX1_begin : List Cond := .code yX1_begin cX1_begin 2 none :: (([.fieldLink RX1 57 "GuessFerry$Laws" "current" "I", .fieldLink RX1 22 "GuessFerry$Laws" "lawStarts" "[I", .fieldLink RX1 34 "GuessFerry$Laws" "length" "I", .fieldLink RX1 25 "GuessFerry$Laws" "partCounts" "[I"] : List Cond) ++ wsX10)
set_option maxRecDepth 20000 in
theorem gd_wsX1_begin : gdl wsX1_begin := gdl_dec (by decide +kernel)
noncomputable def wsX1_put : List Cond := .code yX1_put cX1_put 2 none :: (([.fieldLink RX1 34 "GuessFerry$Laws" "length" "I", .fieldLink RX1 15 "GuessFerry$Laws" "steps" "[I"] : List Cond) ++ wsX10)
set_option maxRecDepth 20000 in
theorem gd_wsX1_put : gdl wsX1_put := gdl_dec (by decide +kernel)
noncomputable def wsX1_putVar_o : List Cond := [.methodLink RX1 60 yX1_put, .instanceMethod yX1_put, .selects RX1 yX1_put yX1_put, .initialized RX1]
noncomputable def wsX1_putVar : List Cond := .code yX1_putVar cX1_putVar 2 none :: ((wsX1_putVar_o ++ wsX1_put) ++ wsX10)
set_option maxRecDepth 20000 in
theorem gd_wsX1_putVar : gdl wsX1_putVar := gdl_cons (by decide +kernel) (gdl_app (gdl_app (gdl_dec (by decide +kernel)) gd_wsX1_put) gd_wsX10)
noncomputable def wsX1_endPart : List Cond := .code yX1_endPart cX1_endPart 2 none :: (([.fieldLink RX1 25 "GuessFerry$Laws" "partCounts" "[I", .fieldLink RX1 57 "GuessFerry$Laws" "current" "I", .fieldLink RX1 19 "GuessFerry$Laws" "partEnds" "[I", .fieldLink RX1 34 "GuessFerry$Laws" "length" "I"] : List Cond) ++ wsX10)
set_option maxRecDepth 20000 in
theorem gd_wsX1_endPart : gdl wsX1_endPart := gdl_dec (by decide +kernel)
noncomputable def wsX1_putNumber_o : List Cond := [.methodLink RX1 60 yX1_put, .instanceMethod yX1_put, .selects RX1 yX1_put yX1_put, .initialized RX1]
noncomputable def wsX1_putNumber : List Cond := .code yX1_putNumber cX1_putNumber 2 none :: ((wsX1_putNumber_o ++ wsX1_put) ++ wsX10)
set_option maxRecDepth 20000 in
theorem gd_wsX1_putNumber : gdl wsX1_putNumber := gdl_cons (by decide +kernel) (gdl_app (gdl_app (gdl_dec (by decide +kernel)) gd_wsX1_put) gd_wsX10)
noncomputable def wsX1_clear_o : List Cond := [Cond.fieldLink RX1 34 "GuessFerry$Laws" "length" "I", Cond.methodLink RX1 38 yX1_begin, Cond.instanceMethod yX1_begin, Cond.selects RX1 yX1_begin yX1_begin, Cond.initialized RX1, Cond.methodLink RX1 42 yX1_putVar, Cond.instanceMethod yX1_putVar, Cond.selects RX1 yX1_putVar yX1_putVar, Cond.methodLink RX1 45 yX1_endPart, Cond.instanceMethod yX1_endPart, Cond.selects RX1 yX1_endPart yX1_endPart, Cond.methodLink RX1 48 yX1_putNumber, Cond.instanceMethod yX1_putNumber, Cond.selects RX1 yX1_putNumber yX1_putNumber]
noncomputable def wsX1_clear : List Cond := .code yX1_clear cX1_clear 1 none :: ((wsX1_clear_o ++ (wsX1_begin ++ (wsX1_putVar ++ (wsX1_endPart ++ wsX1_putNumber)))) ++ wsX10)
set_option maxRecDepth 20000 in
theorem gd_wsX1_clear : gdl wsX1_clear := gdl_cons (by decide +kernel) (gdl_app (gdl_app (gdl_dec (by decide +kernel)) (gdl_app gd_wsX1_begin (gdl_app gd_wsX1_putVar (gdl_app gd_wsX1_endPart gd_wsX1_putNumber)))) gd_wsX10)
noncomputable def wsX1_copyFrom : List Cond := .code yX1_copyFrom cX1_copyFrom 2 none :: (([.fieldLink RX1 15 "GuessFerry$Laws" "steps" "[I", .methodLink RX1 51 arraycopyName, .native arraycopyName, .static arraycopyName, .initialized "java/lang/System", .fieldLink RX1 19 "GuessFerry$Laws" "partEnds" "[I", .fieldLink RX1 22 "GuessFerry$Laws" "lawStarts" "[I", .fieldLink RX1 25 "GuessFerry$Laws" "partCounts" "[I", .fieldLink RX1 34 "GuessFerry$Laws" "length" "I"] : List Cond) ++ wsX10)
set_option maxRecDepth 20000 in
theorem gd_wsX1_copyFrom : gdl wsX1_copyFrom := gdl_dec (by decide +kernel)
noncomputable def wsX1_putSign_o : List Cond := [.methodLink RX1 60 yX1_put, .instanceMethod yX1_put, .selects RX1 yX1_put yX1_put, .initialized RX1]
noncomputable def wsX1_putSign : List Cond := .code yX1_putSign cX1_putSign 2 none :: ((wsX1_putSign_o ++ wsX1_put) ++ wsX10)
set_option maxRecDepth 20000 in
theorem gd_wsX1_putSign : gdl wsX1_putSign := gdl_cons (by decide +kernel) (gdl_app (gdl_app (gdl_dec (by decide +kernel)) gd_wsX1_put) gd_wsX10)
noncomputable def wsX2_init : List Cond := .code yX2_init cX2_init 3 none :: (([.methodLink RX2 3 objectInit, .instanceMethod objectInit, .code objectInit ⟨#[0xb1]⟩ 1 none, .arrayClass .int, .fieldLink RX2 9 "GuessFerry$Outlook" "near" "[I", .fieldLink RX2 15 "GuessFerry$Outlook" "far" "[I", .fieldLink RX2 18 "GuessFerry$Outlook" "topGuesses" "[I", .fieldLink RX2 21 "GuessFerry$Outlook" "topOdds" "[I", .fieldLink RX2 24 "GuessFerry$Outlook" "sound" "LGuessFerry$Sound;", .fieldLink RX2 28 "GuessFerry$Outlook" "crossing" "LGuessFerry$Crossing;"] : List Cond) ++ wsX20)
set_option maxRecDepth 20000 in
theorem gd_wsX2_init : gdl wsX2_init := gdl_dec (by decide +kernel)
noncomputable def wsX2_mayCount_o : List Cond := [.fieldLink RX2 28 "GuessFerry$Outlook" "crossing" "LGuessFerry$Crossing;", .instanceMethod yX0_mayBe, .initialized RX0, .selects RX0 yX0_mayBe yX0_mayBe, .methodLink RX2 38 yJ6_bitCount_0f7a4, .static yJ6_bitCount_0f7a4, .initialized RJ6]
noncomputable def wsX2_mayCount : List Cond := .code yX2_mayCount cX2_mayCount 3 (some .int) :: ((wsX2_mayCount_o ++ (wsX0_mayBe ++ wsJ6_bitCount_0f7a4)) ++ wsX20 ++ wsX60 ++ wsX00 ++ wsX50)
set_option maxRecDepth 20000 in
theorem gd_wsX2_mayCount : gdl wsX2_mayCount := gdl_cons (by decide +kernel) (gdl_app (gdl_app (gdl_app (gdl_app (gdl_app (gdl_dec (by decide +kernel)) (gdl_app gd_wsX0_mayBe gd_wsJ6_bitCount_0f7a4)) gd_wsX20) gd_wsX60) gd_wsX00) gd_wsX50)
noncomputable def wsX2_caseCount_o : List Cond := [.fieldLink RX2 24 "GuessFerry$Outlook" "sound" "LGuessFerry$Sound;", .methodLink RX2 50 yX2_mayCount, .instanceMethod yX2_mayCount, .selects RX2 yX2_mayCount yX2_mayCount, .initialized RX2]
noncomputable def wsX2_caseCount : List Cond := .code yX2_caseCount cX2_caseCount 4 (some .int) :: ((wsX2_caseCount_o ++ wsX2_mayCount) ++ wsX20 ++ wsX50 ++ wsX60 ++ wsX00)
set_option maxRecDepth 20000 in
theorem gd_wsX2_caseCount : gdl wsX2_caseCount := gdl_cons (by decide +kernel) (gdl_app (gdl_app (gdl_app (gdl_app (gdl_app (gdl_dec (by decide +kernel)) gd_wsX2_mayCount) gd_wsX20) gd_wsX50) gd_wsX60) gd_wsX00)
noncomputable def wsX10_has : List Cond := .code yX10_has cX10_has 2 (some .boolean) :: ([])
set_option maxRecDepth 20000 in
theorem gd_wsX10_has : gdl wsX10_has := gdl_dec (by decide +kernel)
noncomputable def wsX2_oddsIfMay_o : List Cond := [.fieldLink RX2 28 "GuessFerry$Outlook" "crossing" "LGuessFerry$Crossing;", .fieldLink RX2 24 "GuessFerry$Outlook" "sound" "LGuessFerry$Sound;", .instanceMethod yX0_mayBe, .initialized RX0, .selects RX0 yX0_mayBe yX0_mayBe, .static yX10_has, .initialized RX10, .instanceMethod yX5_oddsAt, .initialized RX5, .selects RX5 yX5_oddsAt yX5_oddsAt]
noncomputable def wsX2_oddsIfMay : List Cond := .code yX2_oddsIfMay cX2_oddsIfMay 4 (some .int) :: ((wsX2_oddsIfMay_o ++ (wsX0_mayBe ++ (wsX10_has ++ wsX5_oddsAt))) ++ wsX20 ++ wsX60 ++ wsX00 ++ wsX50)
set_option maxRecDepth 20000 in
theorem gd_wsX2_oddsIfMay : gdl wsX2_oddsIfMay := gdl_cons (by decide +kernel) (gdl_app (gdl_app (gdl_app (gdl_app (gdl_app (gdl_dec (by decide +kernel)) (gdl_app gd_wsX0_mayBe (gdl_app gd_wsX10_has gd_wsX5_oddsAt))) gd_wsX20) gd_wsX60) gd_wsX00) gd_wsX50)
noncomputable def wsX2_oddsOfAll_o : List Cond := [.fieldLink RX2 24 "GuessFerry$Outlook" "sound" "LGuessFerry$Sound;", .methodLink RX2 53 yX2_oddsIfMay, .instanceMethod yX2_oddsIfMay, .selects RX2 yX2_oddsIfMay yX2_oddsIfMay, .initialized RX2]
noncomputable def wsX2_oddsOfAll : List Cond := .code yX2_oddsOfAll cX2_oddsOfAll 7 (some .int) :: ((wsX2_oddsOfAll_o ++ wsX2_oddsIfMay) ++ wsX20 ++ wsX50 ++ wsX60 ++ wsX00)
set_option maxRecDepth 20000 in
theorem gd_wsX2_oddsOfAll : gdl wsX2_oddsOfAll := gdl_cons (by decide +kernel) (gdl_app (gdl_app (gdl_app (gdl_app (gdl_app (gdl_dec (by decide +kernel)) gd_wsX2_oddsIfMay) gd_wsX20) gd_wsX50) gd_wsX60) gd_wsX00)
noncomputable def wsX2_oddsOf_o : List Cond := [.fieldLink RX2 24 "GuessFerry$Outlook" "sound" "LGuessFerry$Sound;", .static yX10_thingIn, .initialized RX10, .methodLink RX2 53 yX2_oddsIfMay, .instanceMethod yX2_oddsIfMay, .selects RX2 yX2_oddsIfMay yX2_oddsIfMay, .initialized RX2]
noncomputable def wsX2_oddsOf : List Cond := .code yX2_oddsOf cX2_oddsOf 5 (some .int) :: ((wsX2_oddsOf_o ++ (wsX10_thingIn ++ wsX2_oddsIfMay)) ++ wsX20 ++ wsX50 ++ wsX60 ++ wsX00)
set_option maxRecDepth 20000 in
theorem gd_wsX2_oddsOf : gdl wsX2_oddsOf := gdl_cons (by decide +kernel) (gdl_app (gdl_app (gdl_app (gdl_app (gdl_app (gdl_dec (by decide +kernel)) (gdl_app gd_wsX10_thingIn gd_wsX2_oddsIfMay)) gd_wsX20) gd_wsX50) gd_wsX60) gd_wsX00)
noncomputable def wsX2_bestThing_o : List Cond := [Cond.fieldLink RX2 28 "GuessFerry$Outlook" "crossing" "LGuessFerry$Crossing;", Cond.methodLink RX2 53 yX2_oddsIfMay, Cond.instanceMethod yX2_oddsIfMay, Cond.selects RX2 yX2_oddsIfMay yX2_oddsIfMay, Cond.initialized RX2, Cond.initialized RX0, Cond.instanceMethod yX0_needOf, Cond.selects RX0 yX0_needOf yX0_needOf]
noncomputable def wsX2_bestThing : List Cond := .code yX2_bestThing cX2_bestThing 8 (some .int) :: ((wsX2_bestThing_o ++ (wsX2_oddsIfMay ++ wsX0_needOf)) ++ wsX20 ++ wsX60 ++ wsX00 ++ wsX50 ++ wsX10)
set_option maxRecDepth 20000 in
theorem gd_wsX2_bestThing : gdl wsX2_bestThing := gdl_cons (by decide +kernel) (gdl_app (gdl_app (gdl_app (gdl_app (gdl_app (gdl_app (gdl_dec (by decide +kernel)) (gdl_app gd_wsX2_oddsIfMay gd_wsX0_needOf)) gd_wsX20) gd_wsX60) gd_wsX00) gd_wsX50) gd_wsX10)
noncomputable def wsX2_bestGuess_o : List Cond := [Cond.fieldLink RX2 24 "GuessFerry$Outlook" "sound" "LGuessFerry$Sound;", Cond.methodLink RX2 68 yX2_bestThing, Cond.instanceMethod yX2_bestThing, Cond.selects RX2 yX2_bestThing yX2_bestThing, Cond.initialized RX2]
noncomputable def wsX2_bestGuess : List Cond := .code yX2_bestGuess cX2_bestGuess 6 (some .int) :: ((wsX2_bestGuess_o ++ wsX2_bestThing) ++ wsX20 ++ wsX50 ++ wsX60 ++ wsX00 ++ wsX10)
set_option maxRecDepth 20000 in
theorem gd_wsX2_bestGuess : gdl wsX2_bestGuess := gdl_cons (by decide +kernel) (gdl_app (gdl_app (gdl_app (gdl_app (gdl_app (gdl_app (gdl_dec (by decide +kernel)) gd_wsX2_bestThing) gd_wsX20) gd_wsX50) gd_wsX60) gd_wsX00) gd_wsX10)
noncomputable def wsX2_borneOver_o : List Cond := [Cond.fieldLink RX2 24 "GuessFerry$Outlook" "sound" "LGuessFerry$Sound;", Cond.fieldLink RX2 28 "GuessFerry$Outlook" "crossing" "LGuessFerry$Crossing;", Cond.static yX10_thingIn, Cond.initialized RX10, Cond.instanceMethod yX0_isBearing, Cond.initialized RX0, Cond.selects RX0 yX0_isBearing yX0_isBearing]
noncomputable def wsX2_borneOver : List Cond := .code yX2_borneOver cX2_borneOver 5 (some .int) :: ((wsX2_borneOver_o ++ (wsX10_thingIn ++ wsX0_isBearing)) ++ wsX20 ++ wsX50 ++ wsX00 ++ wsX60 ++ wsX10)
set_option maxRecDepth 20000 in
theorem gd_wsX2_borneOver : gdl wsX2_borneOver := gdl_cons (by decide +kernel) (gdl_app (gdl_app (gdl_app (gdl_app (gdl_app (gdl_app (gdl_dec (by decide +kernel)) (gdl_app gd_wsX10_thingIn gd_wsX0_isBearing)) gd_wsX20) gd_wsX50) gd_wsX00) gd_wsX60) gd_wsX10)
noncomputable def wsX2_goesAtMost_o : List Cond := [.fieldLink RX2 24 "GuessFerry$Outlook" "sound" "LGuessFerry$Sound;", .methodLink RX2 50 yX2_mayCount, .instanceMethod yX2_mayCount, .selects RX2 yX2_mayCount yX2_mayCount, .initialized RX2]
noncomputable def wsX2_goesAtMost : List Cond := .code yX2_goesAtMost cX2_goesAtMost 4 (some .int) :: ((wsX2_goesAtMost_o ++ wsX2_mayCount) ++ wsX20 ++ wsX50 ++ wsX60 ++ wsX00)
set_option maxRecDepth 20000 in
theorem gd_wsX2_goesAtMost : gdl wsX2_goesAtMost := gdl_cons (by decide +kernel) (gdl_app (gdl_app (gdl_app (gdl_app (gdl_app (gdl_dec (by decide +kernel)) gd_wsX2_mayCount) gd_wsX20) gd_wsX50) gd_wsX60) gd_wsX00)
noncomputable def wsX2_leftBehind_o : List Cond := [Cond.fieldLink RX2 24 "GuessFerry$Outlook" "sound" "LGuessFerry$Sound;", Cond.fieldLink RX2 28 "GuessFerry$Outlook" "crossing" "LGuessFerry$Crossing;", Cond.methodLink RX2 79 Lib.Math.max.name, Cond.static Lib.Math.max.name, Cond.initialized "java/lang/Math", Cond.code Lib.Math.max.name Lib.Math.max.code 2 (some .int), Cond.methodLink RX2 50 yX2_mayCount, Cond.instanceMethod yX2_mayCount, Cond.selects RX2 yX2_mayCount yX2_mayCount, Cond.initialized RX2, Cond.instanceMethod yX0_mayBe, Cond.initialized RX0, Cond.selects RX0 yX0_mayBe yX0_mayBe, Cond.static yX10_thingIn, Cond.initialized RX10, Cond.static yX10_has]
noncomputable def wsX2_leftBehind : List Cond := .code yX2_leftBehind cX2_leftBehind 7 (some .int) :: ((wsX2_leftBehind_o ++ (wsX2_mayCount ++ (wsX0_mayBe ++ (wsX10_thingIn ++ wsX10_has)))) ++ wsX20 ++ wsX50 ++ wsX60 ++ wsX00)
set_option maxRecDepth 20000 in
theorem gd_wsX2_leftBehind : gdl wsX2_leftBehind := gdl_cons (by decide +kernel) (gdl_app (gdl_app (gdl_app (gdl_app (gdl_app (gdl_dec (by decide +kernel)) (gdl_app gd_wsX2_mayCount (gdl_app gd_wsX0_mayBe (gdl_app gd_wsX10_thingIn gd_wsX10_has)))) gd_wsX20) gd_wsX50) gd_wsX60) gd_wsX00)
noncomputable def wsJ6_numberOfTrailingZeros_0f7a4 : List Cond := .code yJ6_numberOfTrailingZeros_0f7a4 cJ6_numberOfTrailingZeros_0f7a4 2 (some .int) :: ([.constant RJ6 264 (65536)])
set_option maxRecDepth 20000 in
theorem gd_wsJ6_numberOfTrailingZeros_0f7a4 : gdl wsJ6_numberOfTrailingZeros_0f7a4 := gdl_dec (by decide +kernel)
noncomputable def wsX2_wisestGuess_o : List Cond := [.fieldLink RX2 24 "GuessFerry$Outlook" "sound" "LGuessFerry$Sound;", .fieldLink RX2 28 "GuessFerry$Outlook" "crossing" "LGuessFerry$Crossing;", .instanceMethod yX0_mayBe, .initialized RX0, .selects RX0 yX0_mayBe yX0_mayBe, .methodLink RX2 84 yJ6_numberOfTrailingZeros_0f7a4, .static yJ6_numberOfTrailingZeros_0f7a4, .initialized RJ6, .methodLink RX2 50 yX2_mayCount, .instanceMethod yX2_mayCount, .selects RX2 yX2_mayCount yX2_mayCount, .initialized RX2]
noncomputable def wsX2_wisestGuess : List Cond := .code yX2_wisestGuess cX2_wisestGuess 5 (some .int) :: ((wsX2_wisestGuess_o ++ (wsX0_mayBe ++ (wsJ6_numberOfTrailingZeros_0f7a4 ++ wsX2_mayCount))) ++ wsX20 ++ wsX50 ++ wsX60 ++ wsX00)
set_option maxRecDepth 20000 in
theorem gd_wsX2_wisestGuess : gdl wsX2_wisestGuess := gdl_cons (by decide +kernel) (gdl_app (gdl_app (gdl_app (gdl_app (gdl_app (gdl_dec (by decide +kernel)) (gdl_app gd_wsX0_mayBe (gdl_app gd_wsJ6_numberOfTrailingZeros_0f7a4 gd_wsX2_mayCount))) gd_wsX20) gd_wsX50) gd_wsX60) gd_wsX00)
noncomputable def wsX2_oddsApart_o : List Cond := [Cond.methodLink RX2 87 Lib.Math.min.name, Cond.static Lib.Math.min.name, Cond.initialized "java/lang/Math", Cond.code Lib.Math.min.name Lib.Math.min.code 2 (some .int), Cond.methodLink RX2 79 Lib.Math.max.name, Cond.static Lib.Math.max.name, Cond.code Lib.Math.max.name Lib.Math.max.code 2 (some .int), Cond.methodLink RX2 53 yX2_oddsIfMay, Cond.instanceMethod yX2_oddsIfMay, Cond.selects RX2 yX2_oddsIfMay yX2_oddsIfMay, Cond.initialized RX2]
noncomputable def wsX2_oddsApart : List Cond := .code yX2_oddsApart cX2_oddsApart 7 (some .int) :: ((wsX2_oddsApart_o ++ wsX2_oddsIfMay) ++ wsX20 ++ wsX60 ++ wsX00 ++ wsX50)
set_option maxRecDepth 20000 in
theorem gd_wsX2_oddsApart : gdl wsX2_oddsApart := gdl_cons (by decide +kernel) (gdl_app (gdl_app (gdl_app (gdl_app (gdl_app (gdl_dec (by decide +kernel)) gd_wsX2_oddsIfMay) gd_wsX20) gd_wsX60) gd_wsX00) gd_wsX50)
noncomputable def wsX2_fillRow_o : List Cond := [.methodLink RX2 53 yX2_oddsIfMay, .instanceMethod yX2_oddsIfMay, .selects RX2 yX2_oddsIfMay yX2_oddsIfMay, .initialized RX2]
noncomputable def wsX2_fillRow : List Cond := .code yX2_fillRow cX2_fillRow 10 (some .int) :: ((wsX2_fillRow_o ++ wsX2_oddsIfMay) ++ wsX20 ++ wsX60 ++ wsX00 ++ wsX50)
set_option maxRecDepth 20000 in
theorem gd_wsX2_fillRow : gdl wsX2_fillRow := gdl_cons (by decide +kernel) (gdl_app (gdl_app (gdl_app (gdl_app (gdl_app (gdl_dec (by decide +kernel)) gd_wsX2_oddsIfMay) gd_wsX20) gd_wsX60) gd_wsX00) gd_wsX50)
noncomputable def wsX2_fillNear_o : List Cond := [Cond.fieldLink RX2 9 "GuessFerry$Outlook" "near" "[I", Cond.fieldLink RX2 24 "GuessFerry$Outlook" "sound" "LGuessFerry$Sound;", Cond.methodLink RX2 87 Lib.Math.min.name, Cond.static Lib.Math.min.name, Cond.initialized "java/lang/Math", Cond.code Lib.Math.min.name Lib.Math.min.code 2 (some .int), Cond.methodLink RX2 90 yX2_fillRow, Cond.instanceMethod yX2_fillRow, Cond.selects RX2 yX2_fillRow yX2_fillRow, Cond.initialized RX2]
noncomputable def wsX2_fillNear : List Cond := .code yX2_fillNear cX2_fillNear 2 (some .int) :: ((wsX2_fillNear_o ++ wsX2_fillRow) ++ wsX20 ++ wsX50 ++ wsX60 ++ wsX00)
set_option maxRecDepth 20000 in
theorem gd_wsX2_fillNear : gdl wsX2_fillNear := gdl_cons (by decide +kernel) (gdl_app (gdl_app (gdl_app (gdl_app (gdl_app (gdl_dec (by decide +kernel)) gd_wsX2_fillRow) gd_wsX20) gd_wsX50) gd_wsX60) gd_wsX00)
noncomputable def wsX2_fillFar_o : List Cond := [Cond.fieldLink RX2 15 "GuessFerry$Outlook" "far" "[I", Cond.fieldLink RX2 24 "GuessFerry$Outlook" "sound" "LGuessFerry$Sound;", Cond.methodLink RX2 90 yX2_fillRow, Cond.instanceMethod yX2_fillRow, Cond.selects RX2 yX2_fillRow yX2_fillRow, Cond.initialized RX2]
noncomputable def wsX2_fillFar : List Cond := .code yX2_fillFar cX2_fillFar 2 (some .int) :: ((wsX2_fillFar_o ++ wsX2_fillRow) ++ wsX20 ++ wsX50 ++ wsX60 ++ wsX00)
set_option maxRecDepth 20000 in
theorem gd_wsX2_fillFar : gdl wsX2_fillFar := gdl_cons (by decide +kernel) (gdl_app (gdl_app (gdl_app (gdl_app (gdl_app (gdl_dec (by decide +kernel)) gd_wsX2_fillRow) gd_wsX20) gd_wsX50) gd_wsX60) gd_wsX00)
noncomputable def wsX2_casesAheadOf_o : List Cond := [Cond.fieldLink RX2 15 "GuessFerry$Outlook" "far" "[I", Cond.fieldLink RX2 9 "GuessFerry$Outlook" "near" "[I", Cond.methodLink RX2 94 yX2_fillNear, Cond.instanceMethod yX2_fillNear, Cond.selects RX2 yX2_fillNear yX2_fillNear, Cond.initialized RX2, Cond.methodLink RX2 98 yX2_fillFar, Cond.instanceMethod yX2_fillFar, Cond.selects RX2 yX2_fillFar yX2_fillFar]
noncomputable def wsX2_casesAheadOf : List Cond := .code yX2_casesAheadOf cX2_casesAheadOf 11 (some .int) :: ((wsX2_casesAheadOf_o ++ (wsX2_fillNear ++ wsX2_fillFar)) ++ wsX20 ++ wsX50 ++ wsX60 ++ wsX00)
set_option maxRecDepth 20000 in
theorem gd_wsX2_casesAheadOf : gdl wsX2_casesAheadOf := gdl_cons (by decide +kernel) (gdl_app (gdl_app (gdl_app (gdl_app (gdl_app (gdl_dec (by decide +kernel)) (gdl_app gd_wsX2_fillNear gd_wsX2_fillFar)) gd_wsX20) gd_wsX50) gd_wsX60) gd_wsX00)
noncomputable def wsX2_putOnTop : List Cond := .code yX2_putOnTop cX2_putOnTop 5 none :: (([.fieldLink RX2 21 "GuessFerry$Outlook" "topOdds" "[I", .fieldLink RX2 18 "GuessFerry$Outlook" "topGuesses" "[I"] : List Cond) ++ wsX20)
set_option maxRecDepth 20000 in
theorem gd_wsX2_putOnTop : gdl wsX2_putOnTop := gdl_dec (by decide +kernel)
noncomputable def wsX2_caseAtRank_o : List Cond := [Cond.fieldLink RX2 21 "GuessFerry$Outlook" "topOdds" "[I", Cond.fieldLink RX2 18 "GuessFerry$Outlook" "topGuesses" "[I", Cond.fieldLink RX2 15 "GuessFerry$Outlook" "far" "[I", Cond.fieldLink RX2 9 "GuessFerry$Outlook" "near" "[I", Cond.methodLink RX2 94 yX2_fillNear, Cond.instanceMethod yX2_fillNear, Cond.selects RX2 yX2_fillNear yX2_fillNear, Cond.initialized RX2, Cond.initialized "java/lang/Math", Cond.initialized RX0, Cond.initialized RX10, Cond.initialized RX5, Cond.methodLink RX2 98 yX2_fillFar, Cond.instanceMethod yX2_fillFar, Cond.selects RX2 yX2_fillFar yX2_fillFar, Cond.methodLink RX2 101 yJ7_fill_53178, Cond.static yJ7_fill_53178, Cond.initialized RJ7, Cond.methodLink RX2 107 yX2_putOnTop, Cond.instanceMethod yX2_putOnTop, Cond.selects RX2 yX2_putOnTop yX2_putOnTop]
noncomputable def wsX2_caseAtRank : List Cond := .code yX2_caseAtRank cX2_caseAtRank 9 (some .int) :: ((wsX2_caseAtRank_o ++ (wsX2_fillNear ++ (wsX2_fillFar ++ (wsJ7_fill_53178 ++ wsX2_putOnTop)))) ++ wsX20 ++ wsX50 ++ wsX60 ++ wsX00)
set_option maxRecDepth 20000 in
theorem gd_wsX2_caseAtRank : gdl wsX2_caseAtRank := gdl_cons (by decide +kernel) (gdl_app (gdl_app (gdl_app (gdl_app (gdl_app (gdl_dec (by decide +kernel)) (gdl_app gd_wsX2_fillNear (gdl_app gd_wsX2_fillFar (gdl_app gd_wsJ7_fill_53178 gd_wsX2_putOnTop)))) gd_wsX20) gd_wsX50) gd_wsX60) gd_wsX00)
noncomputable def wsX2_unfind_o : List Cond := [.fieldLink RX2 24 "GuessFerry$Outlook" "sound" "LGuessFerry$Sound;", .static yX10_has, .initialized RX10]
noncomputable def wsX2_unfind : List Cond := .code yX2_unfind cX2_unfind 4 none :: ((wsX2_unfind_o ++ wsX10_has) ++ wsX20 ++ wsX50 ++ wsX60)
set_option maxRecDepth 20000 in
theorem gd_wsX2_unfind : gdl wsX2_unfind := gdl_cons (by decide +kernel) (gdl_app (gdl_app (gdl_app (gdl_app (gdl_dec (by decide +kernel)) gd_wsX10_has) gd_wsX20) gd_wsX50) gd_wsX60)
noncomputable def wsX2_oddsOverWithin_o : List Cond := [Cond.fieldLink RX2 24 "GuessFerry$Outlook" "sound" "LGuessFerry$Sound;", Cond.methodLink RX2 111 yX2_bestGuess, Cond.instanceMethod yX2_bestGuess, Cond.selects RX2 yX2_bestGuess yX2_bestGuess, Cond.initialized RX2, Cond.initialized RX10, Cond.methodLink RX2 114 yX2_oddsOf, Cond.instanceMethod yX2_oddsOf, Cond.selects RX2 yX2_oddsOf yX2_oddsOf, Cond.static yX10_thingIn, Cond.methodLink RX2 50 yX2_mayCount, Cond.instanceMethod yX2_mayCount, Cond.selects RX2 yX2_mayCount yX2_mayCount, Cond.methodLink RX2 125 yX2_oddsOverWithin, Cond.instanceMethod yX2_oddsOverWithin, Cond.selects RX2 yX2_oddsOverWithin yX2_oddsOverWithin, Cond.methodLink RX2 131 yX2_unfind, Cond.instanceMethod yX2_unfind, Cond.selects RX2 yX2_unfind yX2_unfind]
noncomputable def wsX2_oddsOverWithin : List Cond := .code yX2_oddsOverWithin cX2_oddsOverWithin 9 (some .int) :: ((wsX2_oddsOverWithin_o ++ (wsX2_bestGuess ++ (wsX2_oddsOf ++ (wsX10_thingIn ++ (wsX2_mayCount ++ wsX2_unfind))))) ++ wsX60 ++ wsX20 ++ wsX50 ++ wsX00 ++ wsX10)
set_option maxRecDepth 20000 in
theorem gd_wsX2_oddsOverWithin : gdl wsX2_oddsOverWithin := gdl_cons (by decide +kernel) (gdl_app (gdl_app (gdl_app (gdl_app (gdl_app (gdl_app (gdl_dec (by decide +kernel)) (gdl_app gd_wsX2_bestGuess (gdl_app gd_wsX2_oddsOf (gdl_app gd_wsX10_thingIn (gdl_app gd_wsX2_mayCount gd_wsX2_unfind))))) gd_wsX60) gd_wsX20) gd_wsX50) gd_wsX00) gd_wsX10)
noncomputable def wsX6_init : List Cond := .code yX6_init cX6_init 1 none :: (([.methodLink RX6 3 objectInit, .instanceMethod objectInit, .code objectInit ⟨#[0xb1]⟩ 1 none, .arrayClass .int, .fieldLink RX6 9 "GuessFerry$Standing" "found" "[I", .fieldLink RX6 15 "GuessFerry$Standing" "buoys" "[I", .fieldLink RX6 18 "GuessFerry$Standing" "shifted" "[I", .fieldLink RX6 21 "GuessFerry$Standing" "status" "[I", .fieldLink RX6 24 "GuessFerry$Standing" "goes" "[I"] : List Cond) ++ wsX60)
set_option maxRecDepth 20000 in
theorem gd_wsX6_init : gdl wsX6_init := gdl_dec (by decide +kernel)
noncomputable def wsX3_init_o : List Cond := [.methodLink RX3 3 objectInit, .classLink RX3 9 RX6, .fieldLink RX3 11 "GuessFerry$Past" "ring" "[LGuessFerry$Standing;", .fieldLink RX3 17 "GuessFerry$Past" "slots" "[LGuessFerry$Standing;", .arrayClass .boolean, .fieldLink RX3 20 "GuessFerry$Past" "isHeld" "[Z", .instantiable RX6 7, .initialized RX6, .instanceMethod yX6_init]
noncomputable def wsX3_init : List Cond := .code yX3_init cX3_init 2 none :: ((wsX3_init_o ++ wsX6_init) ++ wsX30 ++ wsX60)
set_option maxRecDepth 20000 in
theorem gd_wsX3_init : gdl wsX3_init := gdl_cons (by decide +kernel) (gdl_app (gdl_app (gdl_app (gdl_dec (by decide +kernel)) gd_wsX6_init) gd_wsX30) gd_wsX60)
noncomputable def wsX3_forgetAll : List Cond := .code yX3_forgetAll cX3_forgetAll 2 none :: (([.fieldLink RX3 25 "GuessFerry$Past" "size" "I", .fieldLink RX3 20 "GuessFerry$Past" "isHeld" "[Z"] : List Cond) ++ wsX30)
set_option maxRecDepth 20000 in
theorem gd_wsX3_forgetAll : gdl wsX3_forgetAll := gdl_dec (by decide +kernel)
noncomputable def wsX6_copyFrom : List Cond := .code yX6_copyFrom cX6_copyFrom 2 none :: (([.fieldLink RX6 9 "GuessFerry$Standing" "found" "[I", .methodLink RX6 40 arraycopyName, .native arraycopyName, .static arraycopyName, .initialized "java/lang/System", .fieldLink RX6 15 "GuessFerry$Standing" "buoys" "[I", .fieldLink RX6 18 "GuessFerry$Standing" "shifted" "[I", .fieldLink RX6 21 "GuessFerry$Standing" "status" "[I", .fieldLink RX6 24 "GuessFerry$Standing" "goes" "[I", .fieldLink RX6 33 "GuessFerry$Standing" "year" "I", .fieldLink RX6 37 "GuessFerry$Standing" "paid" "I"] : List Cond) ++ wsX60)
set_option maxRecDepth 20000 in
theorem gd_wsX6_copyFrom : gdl wsX6_copyFrom := gdl_dec (by decide +kernel)
noncomputable def wsX3_remember_o : List Cond := [.fieldLink RX3 11 "GuessFerry$Past" "ring" "[LGuessFerry$Standing;", .fieldLink RX3 29 "GuessFerry$Past" "first" "I", .fieldLink RX3 25 "GuessFerry$Past" "size" "I", .instanceMethod yX6_copyFrom, .initialized RX6, .selects RX6 yX6_copyFrom yX6_copyFrom]
noncomputable def wsX3_remember : List Cond := .code yX3_remember cX3_remember 2 none :: ((wsX3_remember_o ++ wsX6_copyFrom) ++ wsX30 ++ wsX60)
set_option maxRecDepth 20000 in
theorem gd_wsX3_remember : gdl wsX3_remember := gdl_cons (by decide +kernel) (gdl_app (gdl_app (gdl_app (gdl_dec (by decide +kernel)) gd_wsX6_copyFrom) gd_wsX30) gd_wsX60)
noncomputable def wsX3_takeBack_o : List Cond := [.fieldLink RX3 25 "GuessFerry$Past" "size" "I", .fieldLink RX3 11 "GuessFerry$Past" "ring" "[LGuessFerry$Standing;", .fieldLink RX3 29 "GuessFerry$Past" "first" "I", .instanceMethod yX6_copyFrom, .initialized RX6, .selects RX6 yX6_copyFrom yX6_copyFrom]
noncomputable def wsX3_takeBack : List Cond := .code yX3_takeBack cX3_takeBack 2 (some .boolean) :: ((wsX3_takeBack_o ++ wsX6_copyFrom) ++ wsX30 ++ wsX60)
set_option maxRecDepth 20000 in
theorem gd_wsX3_takeBack : gdl wsX3_takeBack := gdl_cons (by decide +kernel) (gdl_app (gdl_app (gdl_app (gdl_dec (by decide +kernel)) gd_wsX6_copyFrom) gd_wsX30) gd_wsX60)
noncomputable def wsX3_keepIn_o : List Cond := [.fieldLink RX3 17 "GuessFerry$Past" "slots" "[LGuessFerry$Standing;", .fieldLink RX3 20 "GuessFerry$Past" "isHeld" "[Z", .instanceMethod yX6_copyFrom, .initialized RX6, .selects RX6 yX6_copyFrom yX6_copyFrom]
noncomputable def wsX3_keepIn : List Cond := .code yX3_keepIn cX3_keepIn 3 (some .boolean) :: ((wsX3_keepIn_o ++ wsX6_copyFrom) ++ wsX30 ++ wsX60)
set_option maxRecDepth 20000 in
theorem gd_wsX3_keepIn : gdl wsX3_keepIn := gdl_cons (by decide +kernel) (gdl_app (gdl_app (gdl_app (gdl_dec (by decide +kernel)) gd_wsX6_copyFrom) gd_wsX30) gd_wsX60)
noncomputable def wsX3_goOnFrom_o : List Cond := [.fieldLink RX3 20 "GuessFerry$Past" "isHeld" "[Z", .fieldLink RX3 17 "GuessFerry$Past" "slots" "[LGuessFerry$Standing;", .fieldLink RX3 25 "GuessFerry$Past" "size" "I", .instanceMethod yX6_copyFrom, .initialized RX6, .selects RX6 yX6_copyFrom yX6_copyFrom]
noncomputable def wsX3_goOnFrom : List Cond := .code yX3_goOnFrom cX3_goOnFrom 3 (some .boolean) :: ((wsX3_goOnFrom_o ++ wsX6_copyFrom) ++ wsX30 ++ wsX60)
set_option maxRecDepth 20000 in
theorem gd_wsX3_goOnFrom : gdl wsX3_goOnFrom := gdl_cons (by decide +kernel) (gdl_app (gdl_app (gdl_app (gdl_dec (by decide +kernel)) gd_wsX6_copyFrom) gd_wsX30) gd_wsX60)
noncomputable def wsX3_slotsHeld : List Cond := .code yX3_slotsHeld cX3_slotsHeld 3 (some .int) :: (([.fieldLink RX3 20 "GuessFerry$Past" "isHeld" "[Z"] : List Cond) ++ wsX30)
set_option maxRecDepth 20000 in
theorem gd_wsX3_slotsHeld : gdl wsX3_slotsHeld := gdl_dec (by decide +kernel)
noncomputable def wsX5_clear_o : List Cond := [Cond.fieldLink RX5 37 "GuessFerry$Sound" "waves" "I", Cond.fieldLink RX5 41 "GuessFerry$Sound" "parties" "I", Cond.fieldLink RX5 44 "GuessFerry$Sound" "guesses" "I", Cond.fieldLink RX5 47 "GuessFerry$Sound" "seed" "I", Cond.fieldLink RX5 30 "GuessFerry$Sound" "laws" "LGuessFerry$Laws;", Cond.instanceMethod yX1_clear, Cond.initialized RX1, Cond.selects RX1 yX1_clear yX1_clear]
noncomputable def wsX5_clear : List Cond := .code yX5_clear cX5_clear 1 none :: ((wsX5_clear_o ++ wsX1_clear) ++ wsX50 ++ wsX10)
set_option maxRecDepth 20000 in
theorem gd_wsX5_clear : gdl wsX5_clear := gdl_cons (by decide +kernel) (gdl_app (gdl_app (gdl_app (gdl_dec (by decide +kernel)) gd_wsX1_clear) gd_wsX50) gd_wsX10)
noncomputable def wsX5_init_o : List Cond := [Cond.methodLink RX5 3 objectInit, Cond.fieldLink RX5 9 "GuessFerry$Sound" "odds" "[I", Cond.fieldLink RX5 15 "GuessFerry$Sound" "oddsSums" "[I", Cond.fieldLink RX5 18 "GuessFerry$Sound" "likely" "[I", Cond.fieldLink RX5 21 "GuessFerry$Sound" "heavy" "[I", Cond.fieldLink RX5 24 "GuessFerry$Sound" "nerve" "[I", Cond.classLink RX5 27 RX1, Cond.instantiable RX1 9, Cond.instanceMethod yX1_init, Cond.methodLink RX5 34 yX5_clear, Cond.instanceMethod yX5_clear, Cond.selects RX5 yX5_clear yX5_clear, Cond.initialized RX5]
noncomputable def wsX5_init : List Cond := .code yX5_init cX5_init 1 none :: ((wsX5_init_o ++ (wsX1_init ++ wsX5_clear)) ++ wsX50 ++ wsX10)
set_option maxRecDepth 20000 in
theorem gd_wsX5_init : gdl wsX5_init := gdl_cons (by decide +kernel) (gdl_app (gdl_app (gdl_app (gdl_dec (by decide +kernel)) (gdl_app gd_wsX1_init gd_wsX5_clear)) gd_wsX50) gd_wsX10)
noncomputable def wsJ0_coder_7d493 : List Cond := .code yJ0_coder_7d493 cJ0_coder_7d493 1 (some .byte) :: ([.fieldLink RJ0 38 "java/lang/String" "COMPACT_STRINGS" "Z", .fieldLink RJ0 15 "java/lang/String" "coder" "B"])
set_option maxRecDepth 20000 in
theorem gd_wsJ0_coder_7d493 : gdl wsJ0_coder_7d493 := gdl_dec (by decide +kernel)
noncomputable def wsJ0_length_8abf5_o : List Cond := [.fieldLink RJ0 9 "java/lang/String" "value" "[B", .methodLink RJ0 335 yJ0_coder_7d493, .instanceMethod yJ0_coder_7d493, .selects RJ0 yJ0_coder_7d493 yJ0_coder_7d493, .initialized RJ0]
noncomputable def wsJ0_length_8abf5 : List Cond := .code yJ0_length_8abf5 cJ0_length_8abf5 1 (some .int) :: ((wsJ0_length_8abf5_o ++ wsJ0_coder_7d493))
set_option maxRecDepth 20000 in
theorem gd_wsJ0_length_8abf5 : gdl wsJ0_length_8abf5 := gdl_cons (by decide +kernel) (gdl_app (gdl_dec (by decide +kernel)) gd_wsJ0_coder_7d493)
noncomputable def wsJ0_isLatin1_aae02 : List Cond := .code yJ0_isLatin1_aae02 cJ0_isLatin1_aae02 1 (some .boolean) :: ([.fieldLink RJ0 38 "java/lang/String" "COMPACT_STRINGS" "Z", .fieldLink RJ0 15 "java/lang/String" "coder" "B"])
set_option maxRecDepth 20000 in
theorem gd_wsJ0_isLatin1_aae02 : gdl wsJ0_isLatin1_aae02 := gdl_dec (by decide +kernel)
noncomputable def wsJ3_checkIndex_8e157 : List Cond := .code yJ3_checkIndex_8e157 cJ3_checkIndex_8e157 3 (some .int) :: ([])
set_option maxRecDepth 20000 in
theorem gd_wsJ3_checkIndex_8e157 : gdl wsJ3_checkIndex_8e157 := gdl_dec (by decide +kernel)
noncomputable def wsJ0_checkIndex_df160_o : List Cond := [.fieldLink RJ0 1053 "jdk/internal/util/Preconditions" "SIOOBE_FORMATTER" "Ljava/util/function/BiFunction;", .methodLink RJ0 1059 yJ3_checkIndex_8e157, .static yJ3_checkIndex_8e157, .initialized RJ3]
noncomputable def wsJ0_checkIndex_df160 : List Cond := .code yJ0_checkIndex_df160 cJ0_checkIndex_df160 2 none :: ((wsJ0_checkIndex_df160_o ++ wsJ3_checkIndex_8e157))
set_option maxRecDepth 20000 in
theorem gd_wsJ0_checkIndex_df160 : gdl wsJ0_checkIndex_df160 := gdl_cons (by decide +kernel) (gdl_app (gdl_dec (by decide +kernel)) gd_wsJ3_checkIndex_8e157)
noncomputable def wsJ1_charAt_3b067_o : List Cond := [.methodLink RJ1 9 yJ0_checkIndex_df160, .static yJ0_checkIndex_df160, .initialized RJ0, .initialized RJ3]
noncomputable def wsJ1_charAt_3b067 : List Cond := .code yJ1_charAt_3b067 cJ1_charAt_3b067 2 (some .char) :: ((wsJ1_charAt_3b067_o ++ wsJ0_checkIndex_df160))
set_option maxRecDepth 20000 in
theorem gd_wsJ1_charAt_3b067 : gdl wsJ1_charAt_3b067 := gdl_cons (by decide +kernel) (gdl_app (gdl_dec (by decide +kernel)) gd_wsJ0_checkIndex_df160)
noncomputable def wsJ2_length_9d52b : List Cond := .code yJ2_length_9d52b cJ2_length_9d52b 1 (some .int) :: ([])
set_option maxRecDepth 20000 in
theorem gd_wsJ2_length_9d52b : gdl wsJ2_length_9d52b := gdl_dec (by decide +kernel)
noncomputable def wsJ2_checkIndex_2214a_o : List Cond := [.methodLink RJ2 48 yJ2_length_9d52b, .static yJ2_length_9d52b, .initialized RJ2, .methodLink RJ2 414 yJ0_checkIndex_df160, .static yJ0_checkIndex_df160, .initialized RJ0, .initialized RJ3]
noncomputable def wsJ2_checkIndex_2214a : List Cond := .code yJ2_checkIndex_2214a cJ2_checkIndex_2214a 2 none :: ((wsJ2_checkIndex_2214a_o ++ (wsJ2_length_9d52b ++ wsJ0_checkIndex_df160)))
set_option maxRecDepth 20000 in
theorem gd_wsJ2_checkIndex_2214a : gdl wsJ2_checkIndex_2214a := gdl_cons (by decide +kernel) (gdl_app (gdl_dec (by decide +kernel)) (gdl_app gd_wsJ2_length_9d52b gd_wsJ0_checkIndex_df160))
noncomputable def wsJ2_getChar_3b067_o : List Cond := [.fieldLink RJ2 44 "java/lang/StringUTF16" "$assertionsDisabled" "Z", .fieldLink RJ2 59 "java/lang/StringUTF16" "HI_BYTE_SHIFT" "I", .fieldLink RJ2 63 "java/lang/StringUTF16" "LO_BYTE_SHIFT" "I", .methodLink RJ2 48 yJ2_length_9d52b, .static yJ2_length_9d52b, .initialized RJ2]
noncomputable def wsJ2_getChar_3b067 : List Cond := .code yJ2_getChar_3b067 cJ2_getChar_3b067 2 (some .char) :: ((wsJ2_getChar_3b067_o ++ wsJ2_length_9d52b))
set_option maxRecDepth 20000 in
theorem gd_wsJ2_getChar_3b067 : gdl wsJ2_getChar_3b067 := gdl_cons (by decide +kernel) (gdl_app (gdl_dec (by decide +kernel)) gd_wsJ2_length_9d52b)
noncomputable def wsJ2_charAt_3b067_o : List Cond := [.methodLink RJ2 67 yJ2_checkIndex_2214a, .static yJ2_checkIndex_2214a, .initialized RJ2, .initialized RJ0, .initialized RJ3, .methodLink RJ2 71 yJ2_getChar_3b067, .static yJ2_getChar_3b067]
noncomputable def wsJ2_charAt_3b067 : List Cond := .code yJ2_charAt_3b067 cJ2_charAt_3b067 2 (some .char) :: ((wsJ2_charAt_3b067_o ++ (wsJ2_checkIndex_2214a ++ wsJ2_getChar_3b067)))
set_option maxRecDepth 20000 in
theorem gd_wsJ2_charAt_3b067 : gdl wsJ2_charAt_3b067 := gdl_cons (by decide +kernel) (gdl_app (gdl_dec (by decide +kernel)) (gdl_app gd_wsJ2_checkIndex_2214a gd_wsJ2_getChar_3b067))
noncomputable def wsJ0_charAt_5068e_o : List Cond := [Cond.fieldLink RJ0 9 "java/lang/String" "value" "[B", Cond.methodLink RJ0 492 yJ0_isLatin1_aae02, Cond.instanceMethod yJ0_isLatin1_aae02, Cond.selects RJ0 yJ0_isLatin1_aae02 yJ0_isLatin1_aae02, Cond.initialized RJ0, Cond.methodLink RJ0 495 yJ1_charAt_3b067, Cond.static yJ1_charAt_3b067, Cond.initialized RJ1, Cond.initialized RJ3, Cond.methodLink RJ0 498 yJ2_charAt_3b067, Cond.static yJ2_charAt_3b067, Cond.initialized RJ2]
noncomputable def wsJ0_charAt_5068e : List Cond := .code yJ0_charAt_5068e cJ0_charAt_5068e 2 (some .char) :: ((wsJ0_charAt_5068e_o ++ (wsJ0_isLatin1_aae02 ++ (wsJ1_charAt_3b067 ++ wsJ2_charAt_3b067))))
set_option maxRecDepth 20000 in
theorem gd_wsJ0_charAt_5068e : gdl wsJ0_charAt_5068e := gdl_cons (by decide +kernel) (gdl_app (gdl_dec (by decide +kernel)) (gdl_app gd_wsJ0_isLatin1_aae02 (gdl_app gd_wsJ1_charAt_3b067 gd_wsJ2_charAt_3b067)))
noncomputable def wsX9_isLetter : List Cond := .code yX9_isLetter cX9_isLetter 1 (some .boolean) :: ([])
set_option maxRecDepth 20000 in
theorem gd_wsX9_isLetter : gdl wsX9_isLetter := gdl_dec (by decide +kernel)
noncomputable def wsX9_withLetter : List Cond := .code yX9_withLetter cX9_withLetter 3 (some .long) :: ([])
set_option maxRecDepth 20000 in
theorem gd_wsX9_withLetter : gdl wsX9_withLetter := gdl_dec (by decide +kernel)
noncomputable def wsX9_init_o : List Cond := [Cond.methodLink RX9 3 objectInit, Cond.instanceMethod objectInit, Cond.code objectInit ⟨#[0xb1]⟩ 1 none, Cond.arrayClass .long, Cond.fieldLink RX9 9 "GuessFerry$Tokens" "words" "[J", Cond.arrayClass .int, Cond.fieldLink RX9 13 "GuessFerry$Tokens" "kinds" "[I", Cond.fieldLink RX9 17 "GuessFerry$Tokens" "starts" "[I", Cond.fieldLink RX9 20 "GuessFerry$Tokens" "values" "[J", Cond.fieldLink RX9 23 "GuessFerry$Tokens" "tape" "LGuessFerry$Tape;", Cond.methodLink RX9 29 yJ0_length_8abf5, Cond.instanceMethod yJ0_length_8abf5, Cond.selects RJ0 yJ0_length_8abf5 yJ0_length_8abf5, Cond.initialized RJ0, Cond.methodLink RX9 35 yJ0_charAt_5068e, Cond.instanceMethod yJ0_charAt_5068e, Cond.selects RJ0 yJ0_charAt_5068e yJ0_charAt_5068e, Cond.initialized RJ1, Cond.initialized RJ3, Cond.initialized RJ2, Cond.methodLink RX9 39 yX9_isLetter, Cond.static yX9_isLetter, Cond.initialized RX9, Cond.methodLink RX9 43 yX9_withLetter, Cond.static yX9_withLetter]
noncomputable def wsX9_init : List Cond := .code yX9_init cX9_init 7 none :: ((wsX9_init_o ++ (wsJ0_length_8abf5 ++ (wsJ0_charAt_5068e ++ (wsX9_isLetter ++ wsX9_withLetter)))) ++ wsX90)
set_option maxRecDepth 20000 in
theorem gd_wsX9_init : gdl wsX9_init := gdl_cons (by decide +kernel) (gdl_app (gdl_app (gdl_dec (by decide +kernel)) (gdl_app gd_wsJ0_length_8abf5 (gdl_app gd_wsJ0_charAt_5068e (gdl_app gd_wsX9_isLetter gd_wsX9_withLetter)))) gd_wsX90)
noncomputable def wsX4_init_o : List Cond := [Cond.methodLink RX4 3 objectInit, Cond.classLink RX4 9 RX5, Cond.instantiable RX5 10, Cond.fieldLink RX4 12 "GuessFerry$Reader" "draft" "LGuessFerry$Sound;", Cond.fieldLink RX4 18 "GuessFerry$Reader" "names" "[J", Cond.fieldLink RX4 22 "GuessFerry$Reader" "faultPlace" "I", Cond.classLink RX4 26 RX9, Cond.instantiable RX9 7, Cond.fieldLink RX4 31 "GuessFerry$Reader" "tokens" "LGuessFerry$Tokens;", Cond.instanceMethod yX5_init, Cond.instanceMethod yX9_init]
noncomputable def wsX4_init : List Cond := .code yX4_init cX4_init 2 none :: ((wsX4_init_o ++ (wsX5_init ++ wsX9_init)) ++ wsX50 ++ wsX40 ++ wsX90 ++ wsX10)
set_option maxRecDepth 20000 in
theorem gd_wsX4_init : gdl wsX4_init := gdl_cons (by decide +kernel) (gdl_app (gdl_app (gdl_app (gdl_app (gdl_app (gdl_dec (by decide +kernel)) (gdl_app gd_wsX5_init gd_wsX9_init)) gd_wsX50) gd_wsX40) gd_wsX90) gd_wsX10)
noncomputable def wsX7_byteAt : List Cond := .code yX7_byteAt cX7_byteAt 2 (some .int) :: (([.fieldLink RX7 15 "GuessFerry$Tape" "length" "I", .fieldLink RX7 9 "GuessFerry$Tape" "bytes" "[B"] : List Cond) ++ wsX70)
set_option maxRecDepth 20000 in
theorem gd_wsX7_byteAt : gdl wsX7_byteAt := gdl_dec (by decide +kernel)
noncomputable def wsX9_isBlank : List Cond := .code yX9_isBlank cX9_isBlank 1 (some .boolean) :: ([])
set_option maxRecDepth 20000 in
theorem gd_wsX9_isBlank : gdl wsX9_isBlank := gdl_dec (by decide +kernel)
noncomputable def wsX9_skipBlanks_o : List Cond := [.fieldLink RX9 47 "GuessFerry$Tokens" "end" "I", .fieldLink RX9 23 "GuessFerry$Tokens" "tape" "LGuessFerry$Tape;", .instanceMethod yX7_byteAt, .initialized RX7, .selects RX7 yX7_byteAt yX7_byteAt, .methodLink RX9 69 yX9_isBlank, .static yX9_isBlank, .initialized RX9]
noncomputable def wsX9_skipBlanks : List Cond := .code yX9_skipBlanks cX9_skipBlanks 1 none :: ((wsX9_skipBlanks_o ++ (wsX7_byteAt ++ wsX9_isBlank)) ++ wsX90 ++ wsX70)
set_option maxRecDepth 20000 in
theorem gd_wsX9_skipBlanks : gdl wsX9_skipBlanks := gdl_cons (by decide +kernel) (gdl_app (gdl_app (gdl_app (gdl_dec (by decide +kernel)) (gdl_app gd_wsX7_byteAt gd_wsX9_isBlank)) gd_wsX90) gd_wsX70)
noncomputable def wsX9_splitLetters_o : List Cond := [.fieldLink RX9 47 "GuessFerry$Tokens" "end" "I", .fieldLink RX9 23 "GuessFerry$Tokens" "tape" "LGuessFerry$Tape;", .fieldLink RX9 57 "GuessFerry$Tokens" "value" "J", .fieldLink RX9 9 "GuessFerry$Tokens" "words" "[J", .instanceMethod yX7_byteAt, .initialized RX7, .selects RX7 yX7_byteAt yX7_byteAt, .methodLink RX9 39 yX9_isLetter, .static yX9_isLetter, .initialized RX9, .methodLink RX9 43 yX9_withLetter, .static yX9_withLetter]
noncomputable def wsX9_splitLetters : List Cond := .code yX9_splitLetters cX9_splitLetters 3 (some .int) :: ((wsX9_splitLetters_o ++ (wsX7_byteAt ++ (wsX9_isLetter ++ wsX9_withLetter))) ++ wsX90 ++ wsX70)
set_option maxRecDepth 20000 in
theorem gd_wsX9_splitLetters : gdl wsX9_splitLetters := gdl_cons (by decide +kernel) (gdl_app (gdl_app (gdl_app (gdl_dec (by decide +kernel)) (gdl_app gd_wsX7_byteAt (gdl_app gd_wsX9_isLetter gd_wsX9_withLetter))) gd_wsX90) gd_wsX70)
noncomputable def wsX9_isDigit : List Cond := .code yX9_isDigit cX9_isDigit 1 (some .boolean) :: ([])
set_option maxRecDepth 20000 in
theorem gd_wsX9_isDigit : gdl wsX9_isDigit := gdl_dec (by decide +kernel)
noncomputable def wsX9_splitDigits_o : List Cond := [.fieldLink RX9 47 "GuessFerry$Tokens" "end" "I", .fieldLink RX9 23 "GuessFerry$Tokens" "tape" "LGuessFerry$Tape;", .fieldLink RX9 57 "GuessFerry$Tokens" "value" "J", .constantLong RX9 86 (10), .constantLong RX9 88 (48), .instanceMethod yX7_byteAt, .initialized RX7, .selects RX7 yX7_byteAt yX7_byteAt, .methodLink RX9 75 yX9_isDigit, .static yX9_isDigit, .initialized RX9]
noncomputable def wsX9_splitDigits : List Cond := .code yX9_splitDigits cX9_splitDigits 2 (some .int) :: ((wsX9_splitDigits_o ++ (wsX7_byteAt ++ wsX9_isDigit)) ++ wsX90 ++ wsX70)
set_option maxRecDepth 20000 in
theorem gd_wsX9_splitDigits : gdl wsX9_splitDigits := gdl_cons (by decide +kernel) (gdl_app (gdl_app (gdl_app (gdl_dec (by decide +kernel)) (gdl_app gd_wsX7_byteAt gd_wsX9_isDigit)) gd_wsX90) gd_wsX70)
noncomputable def wsJ1_canEncode_9a6ad : List Cond := .code yJ1_canEncode_9a6ad cJ1_canEncode_9a6ad 1 (some .boolean) :: ([])
set_option maxRecDepth 20000 in
theorem gd_wsJ1_canEncode_9a6ad : gdl wsJ1_canEncode_9a6ad := gdl_dec (by decide +kernel)
noncomputable def wsJ1_indexOfChar_4cfef : List Cond := .code yJ1_indexOfChar_4cfef cJ1_indexOfChar_4cfef 6 (some .int) :: ([])
set_option maxRecDepth 20000 in
theorem gd_wsJ1_indexOfChar_4cfef : gdl wsJ1_indexOfChar_4cfef := gdl_dec (by decide +kernel)
noncomputable def wsJ1_indexOf_4cfef_o : List Cond := [.methodLink RJ1 92 Lib.Math.max.name, .static Lib.Math.max.name, .initialized "java/lang/Math", .code Lib.Math.max.name Lib.Math.max.code 2 (some .int), .methodLink RJ1 38 Lib.Math.min.name, .static Lib.Math.min.name, .code Lib.Math.min.name Lib.Math.min.code 2 (some .int), .methodLink RJ1 88 yJ1_canEncode_9a6ad, .static yJ1_canEncode_9a6ad, .initialized RJ1, .methodLink RJ1 95 yJ1_indexOfChar_4cfef, .static yJ1_indexOfChar_4cfef]
noncomputable def wsJ1_indexOf_4cfef : List Cond := .code yJ1_indexOf_4cfef cJ1_indexOf_4cfef 4 (some .int) :: ((wsJ1_indexOf_4cfef_o ++ (wsJ1_canEncode_9a6ad ++ wsJ1_indexOfChar_4cfef)))
set_option maxRecDepth 20000 in
theorem gd_wsJ1_indexOf_4cfef : gdl wsJ1_indexOf_4cfef := gdl_cons (by decide +kernel) (gdl_app (gdl_dec (by decide +kernel)) (gdl_app gd_wsJ1_canEncode_9a6ad gd_wsJ1_indexOfChar_4cfef))
noncomputable def wsJ3_checkFromToIndex_8c36e : List Cond := .code yJ3_checkFromToIndex_8c36e cJ3_checkFromToIndex_8c36e 4 (some .int) :: ([])
set_option maxRecDepth 20000 in
theorem gd_wsJ3_checkFromToIndex_8c36e : gdl wsJ3_checkFromToIndex_8c36e := gdl_dec (by decide +kernel)
noncomputable def wsJ0_checkBoundsBeginEnd_23922_o : List Cond := [.fieldLink RJ0 1053 "jdk/internal/util/Preconditions" "SIOOBE_FORMATTER" "Ljava/util/function/BiFunction;", .methodLink RJ0 1062 yJ3_checkFromToIndex_8c36e, .static yJ3_checkFromToIndex_8c36e, .initialized RJ3]
noncomputable def wsJ0_checkBoundsBeginEnd_23922 : List Cond := .code yJ0_checkBoundsBeginEnd_23922 cJ0_checkBoundsBeginEnd_23922 3 none :: ((wsJ0_checkBoundsBeginEnd_23922_o ++ wsJ3_checkFromToIndex_8c36e))
set_option maxRecDepth 20000 in
theorem gd_wsJ0_checkBoundsBeginEnd_23922 : gdl wsJ0_checkBoundsBeginEnd_23922 := gdl_cons (by decide +kernel) (gdl_app (gdl_dec (by decide +kernel)) gd_wsJ3_checkFromToIndex_8c36e)
noncomputable def wsJ2_checkBoundsBeginEnd_d044e_o : List Cond := [.methodLink RJ2 48 yJ2_length_9d52b, .static yJ2_length_9d52b, .initialized RJ2, .methodLink RJ2 241 yJ0_checkBoundsBeginEnd_23922, .static yJ0_checkBoundsBeginEnd_23922, .initialized RJ0, .initialized RJ3]
noncomputable def wsJ2_checkBoundsBeginEnd_d044e : List Cond := .code yJ2_checkBoundsBeginEnd_d044e cJ2_checkBoundsBeginEnd_d044e 3 none :: ((wsJ2_checkBoundsBeginEnd_d044e_o ++ (wsJ2_length_9d52b ++ wsJ0_checkBoundsBeginEnd_23922)))
set_option maxRecDepth 20000 in
theorem gd_wsJ2_checkBoundsBeginEnd_d044e : gdl wsJ2_checkBoundsBeginEnd_d044e := gdl_cons (by decide +kernel) (gdl_app (gdl_dec (by decide +kernel)) (gdl_app gd_wsJ2_length_9d52b gd_wsJ0_checkBoundsBeginEnd_23922))
noncomputable def wsJ2_indexOfCharUnsafe_4cfef_o : List Cond := [.methodLink RJ2 71 yJ2_getChar_3b067, .static yJ2_getChar_3b067, .initialized RJ2]
noncomputable def wsJ2_indexOfCharUnsafe_4cfef : List Cond := .code yJ2_indexOfCharUnsafe_4cfef cJ2_indexOfCharUnsafe_4cfef 5 (some .int) :: ((wsJ2_indexOfCharUnsafe_4cfef_o ++ wsJ2_getChar_3b067))
set_option maxRecDepth 20000 in
theorem gd_wsJ2_indexOfCharUnsafe_4cfef : gdl wsJ2_indexOfCharUnsafe_4cfef := gdl_cons (by decide +kernel) (gdl_app (gdl_dec (by decide +kernel)) gd_wsJ2_getChar_3b067)
noncomputable def wsJ2_indexOfChar_4cfef_o : List Cond := [Cond.methodLink RJ2 96 yJ2_checkBoundsBeginEnd_d044e, Cond.static yJ2_checkBoundsBeginEnd_d044e, Cond.initialized RJ2, Cond.initialized RJ0, Cond.initialized RJ3, Cond.methodLink RJ2 244 yJ2_indexOfCharUnsafe_4cfef, Cond.static yJ2_indexOfCharUnsafe_4cfef]
noncomputable def wsJ2_indexOfChar_4cfef : List Cond := .code yJ2_indexOfChar_4cfef cJ2_indexOfChar_4cfef 4 (some .int) :: ((wsJ2_indexOfChar_4cfef_o ++ (wsJ2_checkBoundsBeginEnd_d044e ++ wsJ2_indexOfCharUnsafe_4cfef)))
set_option maxRecDepth 20000 in
theorem gd_wsJ2_indexOfChar_4cfef : gdl wsJ2_indexOfChar_4cfef := gdl_cons (by decide +kernel) (gdl_app (gdl_dec (by decide +kernel)) (gdl_app gd_wsJ2_checkBoundsBeginEnd_d044e gd_wsJ2_indexOfCharUnsafe_4cfef))
noncomputable def wsJ11_isValidCodePoint_9a6ad : List Cond := .code yJ11_isValidCodePoint_9a6ad cJ11_isValidCodePoint_9a6ad 2 (some .boolean) :: ([])
set_option maxRecDepth 20000 in
theorem gd_wsJ11_isValidCodePoint_9a6ad : gdl wsJ11_isValidCodePoint_9a6ad := gdl_dec (by decide +kernel)
noncomputable def wsJ11_highSurrogate_5068e : List Cond := .code yJ11_highSurrogate_5068e cJ11_highSurrogate_5068e 1 (some .char) :: ([.constant RJ11 110 (55232)])
set_option maxRecDepth 20000 in
theorem gd_wsJ11_highSurrogate_5068e : gdl wsJ11_highSurrogate_5068e := gdl_dec (by decide +kernel)
noncomputable def wsJ11_lowSurrogate_5068e : List Cond := .code yJ11_lowSurrogate_5068e cJ11_lowSurrogate_5068e 1 (some .char) :: ([.constant RJ11 76 (56320)])
set_option maxRecDepth 20000 in
theorem gd_wsJ11_lowSurrogate_5068e : gdl wsJ11_lowSurrogate_5068e := gdl_dec (by decide +kernel)
noncomputable def wsJ2_indexOfSupplementary_4cfef_o : List Cond := [Cond.methodLink RJ2 164 yJ11_isValidCodePoint_9a6ad, Cond.static yJ11_isValidCodePoint_9a6ad, Cond.initialized RJ11, Cond.methodLink RJ2 157 yJ11_highSurrogate_5068e, Cond.static yJ11_highSurrogate_5068e, Cond.methodLink RJ2 161 yJ11_lowSurrogate_5068e, Cond.static yJ11_lowSurrogate_5068e, Cond.methodLink RJ2 96 yJ2_checkBoundsBeginEnd_d044e, Cond.static yJ2_checkBoundsBeginEnd_d044e, Cond.initialized RJ2, Cond.initialized RJ0, Cond.initialized RJ3, Cond.methodLink RJ2 71 yJ2_getChar_3b067, Cond.static yJ2_getChar_3b067]
noncomputable def wsJ2_indexOfSupplementary_4cfef : List Cond := .code yJ2_indexOfSupplementary_4cfef cJ2_indexOfSupplementary_4cfef 7 (some .int) :: ((wsJ2_indexOfSupplementary_4cfef_o ++ (wsJ11_isValidCodePoint_9a6ad ++ (wsJ11_highSurrogate_5068e ++ (wsJ11_lowSurrogate_5068e ++ (wsJ2_checkBoundsBeginEnd_d044e ++ wsJ2_getChar_3b067))))))
set_option maxRecDepth 20000 in
theorem gd_wsJ2_indexOfSupplementary_4cfef : gdl wsJ2_indexOfSupplementary_4cfef := gdl_cons (by decide +kernel) (gdl_app (gdl_dec (by decide +kernel)) (gdl_app gd_wsJ11_isValidCodePoint_9a6ad (gdl_app gd_wsJ11_highSurrogate_5068e (gdl_app gd_wsJ11_lowSurrogate_5068e (gdl_app gd_wsJ2_checkBoundsBeginEnd_d044e gd_wsJ2_getChar_3b067)))))
noncomputable def wsJ2_indexOf_4cfef_o : List Cond := [Cond.methodLink RJ2 224 Lib.Math.max.name, Cond.static Lib.Math.max.name, Cond.initialized "java/lang/Math", Cond.code Lib.Math.max.name Lib.Math.max.code 2 (some .int), Cond.methodLink RJ2 183 Lib.Math.min.name, Cond.static Lib.Math.min.name, Cond.code Lib.Math.min.name Lib.Math.min.code 2 (some .int), Cond.constant RJ2 227 (65536), Cond.methodLink RJ2 228 yJ2_indexOfChar_4cfef, Cond.static yJ2_indexOfChar_4cfef, Cond.initialized RJ2, Cond.initialized RJ0, Cond.initialized RJ3, Cond.methodLink RJ2 232 yJ2_indexOfSupplementary_4cfef, Cond.static yJ2_indexOfSupplementary_4cfef, Cond.initialized RJ11]
noncomputable def wsJ2_indexOf_4cfef : List Cond := .code yJ2_indexOf_4cfef cJ2_indexOf_4cfef 4 (some .int) :: ((wsJ2_indexOf_4cfef_o ++ (wsJ2_indexOfChar_4cfef ++ wsJ2_indexOfSupplementary_4cfef)))
set_option maxRecDepth 20000 in
theorem gd_wsJ2_indexOf_4cfef : gdl wsJ2_indexOf_4cfef := gdl_cons (by decide +kernel) (gdl_app (gdl_dec (by decide +kernel)) (gdl_app gd_wsJ2_indexOfChar_4cfef gd_wsJ2_indexOfSupplementary_4cfef))
noncomputable def wsJ0_indexOf_7cf53_o : List Cond := [Cond.fieldLink RJ0 9 "java/lang/String" "value" "[B", Cond.methodLink RJ0 492 yJ0_isLatin1_aae02, Cond.instanceMethod yJ0_isLatin1_aae02, Cond.selects RJ0 yJ0_isLatin1_aae02 yJ0_isLatin1_aae02, Cond.initialized RJ0, Cond.methodLink RJ0 505 yJ0_length_8abf5, Cond.instanceMethod yJ0_length_8abf5, Cond.selects RJ0 yJ0_length_8abf5 yJ0_length_8abf5, Cond.methodLink RJ0 637 yJ1_indexOf_4cfef, Cond.static yJ1_indexOf_4cfef, Cond.initialized RJ1, Cond.initialized "java/lang/Math", Cond.methodLink RJ0 640 yJ2_indexOf_4cfef, Cond.static yJ2_indexOf_4cfef, Cond.initialized RJ2, Cond.initialized RJ3, Cond.initialized RJ11]
noncomputable def wsJ0_indexOf_7cf53 : List Cond := .code yJ0_indexOf_7cf53 cJ0_indexOf_7cf53 3 (some .int) :: ((wsJ0_indexOf_7cf53_o ++ (wsJ0_isLatin1_aae02 ++ (wsJ0_length_8abf5 ++ (wsJ1_indexOf_4cfef ++ wsJ2_indexOf_4cfef)))))
set_option maxRecDepth 20000 in
theorem gd_wsJ0_indexOf_7cf53 : gdl wsJ0_indexOf_7cf53 := gdl_cons (by decide +kernel) (gdl_app (gdl_dec (by decide +kernel)) (gdl_app gd_wsJ0_isLatin1_aae02 (gdl_app gd_wsJ0_length_8abf5 (gdl_app gd_wsJ1_indexOf_4cfef gd_wsJ2_indexOf_4cfef))))
noncomputable def wsJ0_indexOf_0f7a4_o : List Cond := [Cond.methodLink RJ0 633 yJ0_indexOf_7cf53, Cond.instanceMethod yJ0_indexOf_7cf53, Cond.selects RJ0 yJ0_indexOf_7cf53 yJ0_indexOf_7cf53, Cond.initialized RJ0]
noncomputable def wsJ0_indexOf_0f7a4 : List Cond := .code yJ0_indexOf_0f7a4 cJ0_indexOf_0f7a4 2 (some .int) :: ((wsJ0_indexOf_0f7a4_o ++ wsJ0_indexOf_7cf53))
set_option maxRecDepth 20000 in
theorem gd_wsJ0_indexOf_0f7a4 : gdl wsJ0_indexOf_0f7a4 := gdl_cons (by decide +kernel) (gdl_app (gdl_dec (by decide +kernel)) gd_wsJ0_indexOf_7cf53)
noncomputable def wsX9_splitOne_o : List Cond := [Cond.fieldLink RX9 57 "GuessFerry$Tokens" "value" "J", Cond.fieldLink RX9 23 "GuessFerry$Tokens" "tape" "LGuessFerry$Tape;", Cond.fieldLink RX9 47 "GuessFerry$Tokens" "end" "I", Cond.instanceMethod yX7_byteAt, Cond.initialized RX7, Cond.selects RX7 yX7_byteAt yX7_byteAt, Cond.methodLink RX9 39 yX9_isLetter, Cond.static yX9_isLetter, Cond.initialized RX9, Cond.methodLink RX9 72 yX9_splitLetters, Cond.instanceMethod yX9_splitLetters, Cond.selects RX9 yX9_splitLetters yX9_splitLetters, Cond.methodLink RX9 75 yX9_isDigit, Cond.static yX9_isDigit, Cond.methodLink RX9 78 yX9_splitDigits, Cond.instanceMethod yX9_splitDigits, Cond.selects RX9 yX9_splitDigits yX9_splitDigits, Cond.methodLink RX9 83 yJ0_indexOf_0f7a4, Cond.instanceMethod yJ0_indexOf_0f7a4, Cond.selects RJ0 yJ0_indexOf_0f7a4 yJ0_indexOf_0f7a4, Cond.initialized RJ0, Cond.initialized RJ1, Cond.initialized "java/lang/Math", Cond.initialized RJ2, Cond.initialized RJ3, Cond.initialized RJ11]
noncomputable def wsX9_splitOne : List Cond := .code yX9_splitOne cX9_splitOne 2 (some .int) :: ((wsX9_splitOne_o ++ (wsX7_byteAt ++ (wsX9_isLetter ++ (wsX9_splitLetters ++ (wsX9_isDigit ++ (wsX9_splitDigits ++ wsJ0_indexOf_0f7a4)))))) ++ wsX90 ++ wsX70)
set_option maxRecDepth 20000 in
theorem gd_wsX9_splitOne : gdl wsX9_splitOne := gdl_cons (by decide +kernel) (gdl_app (gdl_app (gdl_app (gdl_dec (by decide +kernel)) (gdl_app gd_wsX7_byteAt (gdl_app gd_wsX9_isLetter (gdl_app gd_wsX9_splitLetters (gdl_app gd_wsX9_isDigit (gdl_app gd_wsX9_splitDigits gd_wsJ0_indexOf_0f7a4)))))) gd_wsX90) gd_wsX70)
noncomputable def wsX9_split_o : List Cond := [Cond.fieldLink RX9 47 "GuessFerry$Tokens" "end" "I", Cond.fieldLink RX9 17 "GuessFerry$Tokens" "starts" "[I", Cond.fieldLink RX9 13 "GuessFerry$Tokens" "kinds" "[I", Cond.fieldLink RX9 20 "GuessFerry$Tokens" "values" "[J", Cond.fieldLink RX9 57 "GuessFerry$Tokens" "value" "J", Cond.methodLink RX9 51 yX9_skipBlanks, Cond.instanceMethod yX9_skipBlanks, Cond.selects RX9 yX9_skipBlanks yX9_skipBlanks, Cond.initialized RX9, Cond.methodLink RX9 54 yX9_splitOne, Cond.instanceMethod yX9_splitOne, Cond.selects RX9 yX9_splitOne yX9_splitOne]
noncomputable def wsX9_split : List Cond := .code yX9_split cX9_split 3 none :: ((wsX9_split_o ++ (wsX9_skipBlanks ++ wsX9_splitOne)) ++ wsX90 ++ wsX70)
set_option maxRecDepth 20000 in
theorem gd_wsX9_split : gdl wsX9_split := gdl_cons (by decide +kernel) (gdl_app (gdl_app (gdl_app (gdl_dec (by decide +kernel)) (gdl_app gd_wsX9_skipBlanks gd_wsX9_splitOne)) gd_wsX90) gd_wsX70)
noncomputable def wsX4_isAt : List Cond := .code yX4_isAt cX4_isAt 2 (some .boolean) :: (([.fieldLink RX4 41 "GuessFerry$Reader" "fault" "I", .fieldLink RX4 31 "GuessFerry$Reader" "tokens" "LGuessFerry$Tokens;", .fieldLink RX4 38 "GuessFerry$Reader" "at" "I"] : List Cond) ++ wsX40 ++ wsX90)
set_option maxRecDepth 20000 in
theorem gd_wsX4_isAt : gdl wsX4_isAt := gdl_dec (by decide +kernel)
noncomputable def wsX4_fail : List Cond := .code yX4_fail cX4_fail 2 none :: (([.fieldLink RX4 41 "GuessFerry$Reader" "fault" "I", .fieldLink RX4 31 "GuessFerry$Reader" "tokens" "LGuessFerry$Tokens;", .fieldLink RX4 38 "GuessFerry$Reader" "at" "I", .fieldLink RX4 22 "GuessFerry$Reader" "faultPlace" "I"] : List Cond) ++ wsX40 ++ wsX90)
set_option maxRecDepth 20000 in
theorem gd_wsX4_fail : gdl wsX4_fail := gdl_dec (by decide +kernel)
noncomputable def wsX4_take_o : List Cond := [.fieldLink RX4 38 "GuessFerry$Reader" "at" "I", .methodLink RX4 53 yX4_isAt, .instanceMethod yX4_isAt, .selects RX4 yX4_isAt yX4_isAt, .initialized RX4, .methodLink RX4 70 yX4_fail, .instanceMethod yX4_fail, .selects RX4 yX4_fail yX4_fail]
noncomputable def wsX4_take : List Cond := .code yX4_take cX4_take 2 none :: ((wsX4_take_o ++ (wsX4_isAt ++ wsX4_fail)) ++ wsX40 ++ wsX90)
set_option maxRecDepth 20000 in
theorem gd_wsX4_take : gdl wsX4_take := gdl_cons (by decide +kernel) (gdl_app (gdl_app (gdl_app (gdl_dec (by decide +kernel)) (gdl_app gd_wsX4_isAt gd_wsX4_fail)) gd_wsX40) gd_wsX90)
noncomputable def wsX4_failLater : List Cond := .code yX4_failLater cX4_failLater 3 none :: (([.fieldLink RX4 44 "GuessFerry$Reader" "laterFault" "I", .fieldLink RX4 47 "GuessFerry$Reader" "laterPlace" "I"] : List Cond) ++ wsX40)
set_option maxRecDepth 20000 in
theorem gd_wsX4_failLater : gdl wsX4_failLater := gdl_dec (by decide +kernel)
noncomputable def wsX4_takeInt_o : List Cond := [.fieldLink RX4 31 "GuessFerry$Reader" "tokens" "LGuessFerry$Tokens;", .fieldLink RX4 38 "GuessFerry$Reader" "at" "I", .methodLink RX4 53 yX4_isAt, .instanceMethod yX4_isAt, .selects RX4 yX4_isAt yX4_isAt, .initialized RX4, .methodLink RX4 77 yX4_failLater, .instanceMethod yX4_failLater, .selects RX4 yX4_failLater yX4_failLater, .methodLink RX4 81 yX4_take, .instanceMethod yX4_take, .selects RX4 yX4_take yX4_take]
noncomputable def wsX4_takeInt : List Cond := .code yX4_takeInt cX4_takeInt 3 (some .int) :: ((wsX4_takeInt_o ++ (wsX4_isAt ++ (wsX4_failLater ++ wsX4_take))) ++ wsX40 ++ wsX90)
set_option maxRecDepth 20000 in
theorem gd_wsX4_takeInt : gdl wsX4_takeInt := gdl_cons (by decide +kernel) (gdl_app (gdl_app (gdl_app (gdl_dec (by decide +kernel)) (gdl_app gd_wsX4_isAt (gdl_app gd_wsX4_failLater gd_wsX4_take))) gd_wsX40) gd_wsX90)
noncomputable def wsX4_readWave_o : List Cond := [Cond.fieldLink RX4 12 "GuessFerry$Reader" "draft" "LGuessFerry$Sound;", Cond.fieldLink RX4 31 "GuessFerry$Reader" "tokens" "LGuessFerry$Tokens;", Cond.fieldLink RX4 38 "GuessFerry$Reader" "at" "I", Cond.methodLink RX4 70 yX4_fail, Cond.instanceMethod yX4_fail, Cond.selects RX4 yX4_fail yX4_fail, Cond.initialized RX4, Cond.methodLink RX4 81 yX4_take, Cond.instanceMethod yX4_take, Cond.selects RX4 yX4_take yX4_take, Cond.methodLink RX4 90 yX4_takeInt, Cond.instanceMethod yX4_takeInt, Cond.selects RX4 yX4_takeInt yX4_takeInt, Cond.methodLink RX4 77 yX4_failLater, Cond.instanceMethod yX4_failLater, Cond.selects RX4 yX4_failLater yX4_failLater]
noncomputable def wsX4_readWave : List Cond := .code yX4_readWave cX4_readWave 5 none :: ((wsX4_readWave_o ++ (wsX4_fail ++ (wsX4_take ++ (wsX4_takeInt ++ wsX4_failLater)))) ++ wsX40 ++ wsX50 ++ wsX90)
set_option maxRecDepth 20000 in
theorem gd_wsX4_readWave : gdl wsX4_readWave := gdl_cons (by decide +kernel) (gdl_app (gdl_app (gdl_app (gdl_app (gdl_dec (by decide +kernel)) (gdl_app gd_wsX4_fail (gdl_app gd_wsX4_take (gdl_app gd_wsX4_takeInt gd_wsX4_failLater)))) gd_wsX40) gd_wsX50) gd_wsX90)
noncomputable def wsX4_isTold : List Cond := .code yX4_isTold cX4_isTold 4 (some .boolean) :: (([.fieldLink RX4 12 "GuessFerry$Reader" "draft" "LGuessFerry$Sound;", .fieldLink RX4 18 "GuessFerry$Reader" "names" "[J"] : List Cond) ++ wsX40 ++ wsX50)
set_option maxRecDepth 20000 in
theorem gd_wsX4_isTold : gdl wsX4_isTold := gdl_dec (by decide +kernel)
noncomputable def wsX4_readParty_o : List Cond := [Cond.fieldLink RX4 12 "GuessFerry$Reader" "draft" "LGuessFerry$Sound;", Cond.fieldLink RX4 31 "GuessFerry$Reader" "tokens" "LGuessFerry$Tokens;", Cond.fieldLink RX4 38 "GuessFerry$Reader" "at" "I", Cond.fieldLink RX4 18 "GuessFerry$Reader" "names" "[J", Cond.methodLink RX4 70 yX4_fail, Cond.instanceMethod yX4_fail, Cond.selects RX4 yX4_fail yX4_fail, Cond.initialized RX4, Cond.methodLink RX4 81 yX4_take, Cond.instanceMethod yX4_take, Cond.selects RX4 yX4_take yX4_take, Cond.methodLink RX4 53 yX4_isAt, Cond.instanceMethod yX4_isAt, Cond.selects RX4 yX4_isAt yX4_isAt, Cond.methodLink RX4 109 yX4_isTold, Cond.instanceMethod yX4_isTold, Cond.selects RX4 yX4_isTold yX4_isTold, Cond.methodLink RX4 77 yX4_failLater, Cond.instanceMethod yX4_failLater, Cond.selects RX4 yX4_failLater yX4_failLater, Cond.methodLink RX4 90 yX4_takeInt, Cond.instanceMethod yX4_takeInt, Cond.selects RX4 yX4_takeInt yX4_takeInt]
noncomputable def wsX4_readParty : List Cond := .code yX4_readParty cX4_readParty 3 none :: ((wsX4_readParty_o ++ (wsX4_fail ++ (wsX4_take ++ (wsX4_isAt ++ (wsX4_isTold ++ (wsX4_failLater ++ wsX4_takeInt)))))) ++ wsX40 ++ wsX50 ++ wsX90)
set_option maxRecDepth 20000 in
theorem gd_wsX4_readParty : gdl wsX4_readParty := gdl_cons (by decide +kernel) (gdl_app (gdl_app (gdl_app (gdl_app (gdl_dec (by decide +kernel)) (gdl_app gd_wsX4_fail (gdl_app gd_wsX4_take (gdl_app gd_wsX4_isAt (gdl_app gd_wsX4_isTold (gdl_app gd_wsX4_failLater gd_wsX4_takeInt)))))) gd_wsX40) gd_wsX50) gd_wsX90)
noncomputable def wsX4_readProduct_g_o : List Cond := [Cond.fieldLink RX4 31 "GuessFerry$Reader" "tokens" "LGuessFerry$Tokens;", Cond.fieldLink RX4 38 "GuessFerry$Reader" "at" "I", Cond.fieldLink RX4 12 "GuessFerry$Reader" "draft" "LGuessFerry$Sound;", Cond.methodLink RX4 143 yX4_readUnit, Cond.instanceMethod yX4_readUnit, Cond.selects RX4 yX4_readUnit yX4_readUnit, Cond.initialized RX4, Cond.methodLink RX4 53 yX4_isAt, Cond.instanceMethod yX4_isAt, Cond.selects RX4 yX4_isAt yX4_isAt, Cond.methodLink RX4 81 yX4_take, Cond.instanceMethod yX4_take, Cond.selects RX4 yX4_take yX4_take, Cond.methodLink RX4 70 yX4_fail, Cond.instanceMethod yX4_fail, Cond.selects RX4 yX4_fail yX4_fail, Cond.instanceMethod yX1_putSign, Cond.initialized RX1, Cond.selects RX1 yX1_putSign yX1_putSign, Cond.methodLink RX4 137 yX4_readProduct, Cond.instanceMethod yX4_readProduct, Cond.selects RX4 yX4_readProduct yX4_readProduct, Cond.instanceMethod yX1_putNumber, Cond.selects RX1 yX1_putNumber yX1_putNumber, Cond.instanceMethod yX1_putVar, Cond.selects RX1 yX1_putVar yX1_putVar, Cond.methodLink RX4 131 yX4_readSum, Cond.instanceMethod yX4_readSum, Cond.selects RX4 yX4_readSum yX4_readSum, .code yX4_readProduct cX4_readProduct 4 none, .code yX4_readSum cX4_readSum 4 none, .code yX4_readUnit cX4_readUnit 4 none]
noncomputable def wsX4_readProduct_g : List Cond := (wsX4_readProduct_g_o ++ (wsX4_isAt ++ (wsX4_take ++ (wsX1_putSign ++ (wsX1_putNumber ++ (wsX1_putVar ++ wsX4_fail)))))) ++ wsX40 ++ wsX90 ++ wsX50 ++ wsX10
set_option maxRecDepth 20000 in
theorem gd_wsX4_readProduct_g : gdl wsX4_readProduct_g := (gdl_app (gdl_app (gdl_app (gdl_app (gdl_app (gdl_dec (by decide +kernel)) (gdl_app gd_wsX4_isAt (gdl_app gd_wsX4_take (gdl_app gd_wsX1_putSign (gdl_app gd_wsX1_putNumber (gdl_app gd_wsX1_putVar gd_wsX4_fail)))))) gd_wsX40) gd_wsX90) gd_wsX50) gd_wsX10)
noncomputable def wsX4_readProduct : List Cond := .code yX4_readProduct cX4_readProduct 4 none :: wsX4_readProduct_g
set_option maxRecDepth 20000 in
theorem gd_wsX4_readProduct : gdl wsX4_readProduct := gdl_cons (by decide +kernel) gd_wsX4_readProduct_g
noncomputable def wsX4_readSum : List Cond := .code yX4_readSum cX4_readSum 4 none :: wsX4_readProduct_g
set_option maxRecDepth 20000 in
theorem gd_wsX4_readSum : gdl wsX4_readSum := gdl_cons (by decide +kernel) gd_wsX4_readProduct_g
noncomputable def wsX4_readUnit : List Cond := .code yX4_readUnit cX4_readUnit 4 none :: wsX4_readProduct_g
set_option maxRecDepth 20000 in
theorem gd_wsX4_readUnit : gdl wsX4_readUnit := gdl_cons (by decide +kernel) gd_wsX4_readProduct_g
noncomputable def wsX4_readPart_o : List Cond := [Cond.fieldLink RX4 12 "GuessFerry$Reader" "draft" "LGuessFerry$Sound;", Cond.methodLink RX4 131 yX4_readSum, Cond.instanceMethod yX4_readSum, Cond.selects RX4 yX4_readSum yX4_readSum, Cond.initialized RX4, Cond.methodLink RX4 81 yX4_take, Cond.instanceMethod yX4_take, Cond.selects RX4 yX4_take yX4_take, Cond.initialized RX1, Cond.instanceMethod yX1_endPart, Cond.selects RX1 yX1_endPart yX1_endPart]
noncomputable def wsX4_readPart : List Cond := .code yX4_readPart cX4_readPart 2 none :: ((wsX4_readPart_o ++ (wsX4_readSum ++ (wsX1_endPart ++ wsX4_take))) ++ wsX40 ++ wsX50 ++ wsX90 ++ wsX10)
set_option maxRecDepth 20000 in
theorem gd_wsX4_readPart : gdl wsX4_readPart := gdl_cons (by decide +kernel) (gdl_app (gdl_app (gdl_app (gdl_app (gdl_app (gdl_dec (by decide +kernel)) (gdl_app gd_wsX4_readSum (gdl_app gd_wsX1_endPart gd_wsX4_take))) gd_wsX40) gd_wsX50) gd_wsX90) gd_wsX10)
noncomputable def wsX4_readLaw_o : List Cond := [Cond.fieldLink RX4 12 "GuessFerry$Reader" "draft" "LGuessFerry$Sound;", Cond.methodLink RX4 81 yX4_take, Cond.instanceMethod yX4_take, Cond.selects RX4 yX4_take yX4_take, Cond.initialized RX4, Cond.methodLink RX4 53 yX4_isAt, Cond.instanceMethod yX4_isAt, Cond.selects RX4 yX4_isAt yX4_isAt, Cond.methodLink RX4 70 yX4_fail, Cond.instanceMethod yX4_fail, Cond.selects RX4 yX4_fail yX4_fail, Cond.instanceMethod yX1_begin, Cond.initialized RX1, Cond.selects RX1 yX1_begin yX1_begin, Cond.methodLink RX4 128 yX4_readPart, Cond.instanceMethod yX4_readPart, Cond.selects RX4 yX4_readPart yX4_readPart]
noncomputable def wsX4_readLaw : List Cond := .code yX4_readLaw cX4_readLaw 3 none :: ((wsX4_readLaw_o ++ (wsX4_take ++ (wsX1_begin ++ (wsX4_isAt ++ (wsX4_fail ++ wsX4_readPart))))) ++ wsX40 ++ wsX50 ++ wsX90 ++ wsX10)
set_option maxRecDepth 20000 in
theorem gd_wsX4_readLaw : gdl wsX4_readLaw := gdl_cons (by decide +kernel) (gdl_app (gdl_app (gdl_app (gdl_app (gdl_app (gdl_dec (by decide +kernel)) (gdl_app gd_wsX4_take (gdl_app gd_wsX1_begin (gdl_app gd_wsX4_isAt (gdl_app gd_wsX4_fail gd_wsX4_readPart))))) gd_wsX40) gd_wsX50) gd_wsX90) gd_wsX10)
noncomputable def wsX4_readTell_o : List Cond := [Cond.fieldLink RX4 31 "GuessFerry$Reader" "tokens" "LGuessFerry$Tokens;", Cond.fieldLink RX4 38 "GuessFerry$Reader" "at" "I", Cond.fieldLink RX4 12 "GuessFerry$Reader" "draft" "LGuessFerry$Sound;", Cond.methodLink RX4 84 yX4_readWave, Cond.instanceMethod yX4_readWave, Cond.selects RX4 yX4_readWave yX4_readWave, Cond.initialized RX4, Cond.methodLink RX4 70 yX4_fail, Cond.instanceMethod yX4_fail, Cond.selects RX4 yX4_fail yX4_fail, Cond.methodLink RX4 81 yX4_take, Cond.instanceMethod yX4_take, Cond.selects RX4 yX4_take yX4_take, Cond.methodLink RX4 90 yX4_takeInt, Cond.instanceMethod yX4_takeInt, Cond.selects RX4 yX4_takeInt yX4_takeInt, Cond.methodLink RX4 87 yX4_readParty, Cond.instanceMethod yX4_readParty, Cond.selects RX4 yX4_readParty yX4_readParty, Cond.methodLink RX4 97 yX4_readLaw, Cond.instanceMethod yX4_readLaw, Cond.selects RX4 yX4_readLaw yX4_readLaw]
noncomputable def wsX4_readTell : List Cond := .code yX4_readTell cX4_readTell 3 none :: ((wsX4_readTell_o ++ (wsX4_readWave ++ (wsX4_readParty ++ (wsX4_take ++ (wsX4_takeInt ++ (wsX4_readLaw ++ wsX4_fail)))))) ++ wsX40 ++ wsX90 ++ wsX50 ++ wsX10)
set_option maxRecDepth 20000 in
theorem gd_wsX4_readTell : gdl wsX4_readTell := gdl_cons (by decide +kernel) (gdl_app (gdl_app (gdl_app (gdl_app (gdl_app (gdl_dec (by decide +kernel)) (gdl_app gd_wsX4_readWave (gdl_app gd_wsX4_readParty (gdl_app gd_wsX4_take (gdl_app gd_wsX4_takeInt (gdl_app gd_wsX4_readLaw gd_wsX4_fail)))))) gd_wsX40) gd_wsX90) gd_wsX50) gd_wsX10)
noncomputable def wsX5_addUp_o : List Cond := [.fieldLink RX5 44 "GuessFerry$Sound" "guesses" "I", .fieldLink RX5 37 "GuessFerry$Sound" "waves" "I", .fieldLink RX5 15 "GuessFerry$Sound" "oddsSums" "[I", .fieldLink RX5 18 "GuessFerry$Sound" "likely" "[I", .methodLink RX5 51 yX5_oddsAt, .instanceMethod yX5_oddsAt, .selects RX5 yX5_oddsAt yX5_oddsAt, .initialized RX5]
noncomputable def wsX5_addUp : List Cond := .code yX5_addUp cX5_addUp 3 none :: ((wsX5_addUp_o ++ wsX5_oddsAt) ++ wsX50)
set_option maxRecDepth 20000 in
theorem gd_wsX5_addUp : gdl wsX5_addUp := gdl_cons (by decide +kernel) (gdl_app (gdl_app (gdl_dec (by decide +kernel)) gd_wsX5_oddsAt) gd_wsX50)
noncomputable def wsX4_readTape_o : List Cond := [Cond.fieldLink RX4 12 "GuessFerry$Reader" "draft" "LGuessFerry$Sound;", Cond.fieldLink RX4 38 "GuessFerry$Reader" "at" "I", Cond.fieldLink RX4 41 "GuessFerry$Reader" "fault" "I", Cond.fieldLink RX4 22 "GuessFerry$Reader" "faultPlace" "I", Cond.fieldLink RX4 44 "GuessFerry$Reader" "laterFault" "I", Cond.fieldLink RX4 47 "GuessFerry$Reader" "laterPlace" "I", Cond.fieldLink RX4 31 "GuessFerry$Reader" "tokens" "LGuessFerry$Tokens;", Cond.instanceMethod yX5_clear, Cond.initialized RX5, Cond.selects RX5 yX5_clear yX5_clear, Cond.instanceMethod yX9_split, Cond.initialized RX9, Cond.selects RX9 yX9_split yX9_split, Cond.methodLink RX4 53 yX4_isAt, Cond.instanceMethod yX4_isAt, Cond.selects RX4 yX4_isAt yX4_isAt, Cond.initialized RX4, Cond.methodLink RX4 57 yX4_readTell, Cond.instanceMethod yX4_readTell, Cond.selects RX4 yX4_readTell yX4_readTell, Cond.instanceMethod yX5_addUp, Cond.selects RX5 yX5_addUp yX5_addUp]
noncomputable def wsX4_readTape : List Cond := .code yX4_readTape cX4_readTape 2 (some .int) :: ((wsX4_readTape_o ++ (wsX5_clear ++ (wsX9_split ++ (wsX4_isAt ++ (wsX4_readTell ++ wsX5_addUp))))) ++ wsX40 ++ wsX50 ++ wsX10 ++ wsX90 ++ wsX70)
set_option maxRecDepth 20000 in
theorem gd_wsX4_readTape : gdl wsX4_readTape := gdl_cons (by decide +kernel) (gdl_app (gdl_app (gdl_app (gdl_app (gdl_app (gdl_app (gdl_dec (by decide +kernel)) (gdl_app gd_wsX5_clear (gdl_app gd_wsX9_split (gdl_app gd_wsX4_isAt (gdl_app gd_wsX4_readTell gd_wsX5_addUp))))) gd_wsX40) gd_wsX50) gd_wsX10) gd_wsX90) gd_wsX70)
noncomputable def wsX5_copyFrom_o : List Cond := [.fieldLink RX5 9 "GuessFerry$Sound" "odds" "[I", .methodLink RX5 55 arraycopyName, .native arraycopyName, .static arraycopyName, .initialized "java/lang/System", .fieldLink RX5 15 "GuessFerry$Sound" "oddsSums" "[I", .fieldLink RX5 18 "GuessFerry$Sound" "likely" "[I", .fieldLink RX5 21 "GuessFerry$Sound" "heavy" "[I", .fieldLink RX5 24 "GuessFerry$Sound" "nerve" "[I", .fieldLink RX5 30 "GuessFerry$Sound" "laws" "LGuessFerry$Laws;", .fieldLink RX5 37 "GuessFerry$Sound" "waves" "I", .fieldLink RX5 41 "GuessFerry$Sound" "parties" "I", .fieldLink RX5 44 "GuessFerry$Sound" "guesses" "I", .fieldLink RX5 47 "GuessFerry$Sound" "seed" "I", .instanceMethod yX1_copyFrom, .initialized RX1, .selects RX1 yX1_copyFrom yX1_copyFrom]
noncomputable def wsX5_copyFrom : List Cond := .code yX5_copyFrom cX5_copyFrom 2 none :: ((wsX5_copyFrom_o ++ wsX1_copyFrom) ++ wsX50 ++ wsX10)
set_option maxRecDepth 20000 in
theorem gd_wsX5_copyFrom : gdl wsX5_copyFrom := gdl_cons (by decide +kernel) (gdl_app (gdl_app (gdl_app (gdl_dec (by decide +kernel)) gd_wsX1_copyFrom) gd_wsX50) gd_wsX10)
noncomputable def wsX5_hasWave : List Cond := .code yX5_hasWave cX5_hasWave 2 (some .boolean) :: (([.fieldLink RX5 37 "GuessFerry$Sound" "waves" "I"] : List Cond) ++ wsX50)
set_option maxRecDepth 20000 in
theorem gd_wsX5_hasWave : gdl wsX5_hasWave := gdl_dec (by decide +kernel)
noncomputable def wsX5_hasParty : List Cond := .code yX5_hasParty cX5_hasParty 2 (some .boolean) :: (([.fieldLink RX5 41 "GuessFerry$Sound" "parties" "I"] : List Cond) ++ wsX50)
set_option maxRecDepth 20000 in
theorem gd_wsX5_hasParty : gdl wsX5_hasParty := gdl_dec (by decide +kernel)
noncomputable def wsX5_hasGuess : List Cond := .code yX5_hasGuess cX5_hasGuess 2 (some .boolean) :: (([.fieldLink RX5 44 "GuessFerry$Sound" "guesses" "I"] : List Cond) ++ wsX50)
set_option maxRecDepth 20000 in
theorem gd_wsX5_hasGuess : gdl wsX5_hasGuess := gdl_dec (by decide +kernel)
noncomputable def wsX6_startOver_o : List Cond := [.fieldLink RX6 9 "GuessFerry$Standing" "found" "[I", .fieldLink RX6 15 "GuessFerry$Standing" "buoys" "[I", .fieldLink RX6 18 "GuessFerry$Standing" "shifted" "[I", .fieldLink RX6 21 "GuessFerry$Standing" "status" "[I", .fieldLink RX6 24 "GuessFerry$Standing" "goes" "[I", .fieldLink RX6 33 "GuessFerry$Standing" "year" "I", .fieldLink RX6 37 "GuessFerry$Standing" "paid" "I", .methodLink RX6 27 yJ7_fill_53178, .static yJ7_fill_53178, .initialized RJ7]
noncomputable def wsX6_startOver : List Cond := .code yX6_startOver cX6_startOver 1 none :: ((wsX6_startOver_o ++ wsJ7_fill_53178) ++ wsX60)
set_option maxRecDepth 20000 in
theorem gd_wsX6_startOver : gdl wsX6_startOver := gdl_cons (by decide +kernel) (gdl_app (gdl_app (gdl_dec (by decide +kernel)) gd_wsJ7_fill_53178) gd_wsX60)
noncomputable def wsX7_init : List Cond := .code yX7_init cX7_init 1 none :: (([.methodLink RX7 3 objectInit, .instanceMethod objectInit, .code objectInit ⟨#[0xb1]⟩ 1 none, .arrayClass .byte, .fieldLink RX7 9 "GuessFerry$Tape" "bytes" "[B"] : List Cond) ++ wsX70)
set_option maxRecDepth 20000 in
theorem gd_wsX7_init : gdl wsX7_init := gdl_dec (by decide +kernel)
noncomputable def wsX7_hasRoomFor : List Cond := .code yX7_hasRoomFor cX7_hasRoomFor 2 (some .boolean) :: (([.fieldLink RX7 9 "GuessFerry$Tape" "bytes" "[B", .fieldLink RX7 15 "GuessFerry$Tape" "length" "I"] : List Cond) ++ wsX70)
set_option maxRecDepth 20000 in
theorem gd_wsX7_hasRoomFor : gdl wsX7_hasRoomFor := gdl_dec (by decide +kernel)
noncomputable def wsX7_addFour : List Cond := .code yX7_addFour cX7_addFour 3 none :: (([.fieldLink RX7 15 "GuessFerry$Tape" "length" "I", .fieldLink RX7 9 "GuessFerry$Tape" "bytes" "[B"] : List Cond) ++ wsX70)
set_option maxRecDepth 20000 in
theorem gd_wsX7_addFour : gdl wsX7_addFour := gdl_dec (by decide +kernel)
noncomputable def wsX8_init : List Cond := .code yX8_init cX8_init 3 none :: (([.methodLink RX8 3 objectInit, .instanceMethod objectInit, .code objectInit ⟨#[0xb1]⟩ 1 none, .arrayClass .int, .fieldLink RX8 9 "GuessFerry$Tellers" "toldWaves" "[I", .fieldLink RX8 15 "GuessFerry$Tellers" "toldThings" "[I", .fieldLink RX8 18 "GuessFerry$Tellers" "odds" "[I", .fieldLink RX8 21 "GuessFerry$Tellers" "belied" "[I", .fieldLink RX8 24 "GuessFerry$Tellers" "byLies" "[I", .fieldLink RX8 27 "GuessFerry$Tellers" "sound" "LGuessFerry$Sound;", .fieldLink RX8 31 "GuessFerry$Tellers" "crossing" "LGuessFerry$Crossing;"] : List Cond) ++ wsX80)
set_option maxRecDepth 20000 in
theorem gd_wsX8_init : gdl wsX8_init := gdl_dec (by decide +kernel)
noncomputable def wsX8_add : List Cond := .code yX8_add cX8_add 3 (some .int) :: (([.fieldLink RX8 35 "GuessFerry$Tellers" "told" "I", .fieldLink RX8 9 "GuessFerry$Tellers" "toldWaves" "[I", .fieldLink RX8 15 "GuessFerry$Tellers" "toldThings" "[I"] : List Cond) ++ wsX80)
set_option maxRecDepth 20000 in
theorem gd_wsX8_add : gdl wsX8_add := gdl_dec (by decide +kernel)
noncomputable def wsX8_areSuch : List Cond := .code yX8_areSuch cX8_areSuch 3 (some .boolean) :: (([.fieldLink RX8 35 "GuessFerry$Tellers" "told" "I"] : List Cond) ++ wsX80)
set_option maxRecDepth 20000 in
theorem gd_wsX8_areSuch : gdl wsX8_areSuch := gdl_dec (by decide +kernel)
noncomputable def wsX8_beliedBy_o : List Cond := [.fieldLink RX8 9 "GuessFerry$Tellers" "toldWaves" "[I", .fieldLink RX8 15 "GuessFerry$Tellers" "toldThings" "[I", .static yX10_has, .initialized RX10]
noncomputable def wsX8_beliedBy : List Cond := .code yX8_beliedBy cX8_beliedBy 6 (some .int) :: ((wsX8_beliedBy_o ++ wsX10_has) ++ wsX80)
set_option maxRecDepth 20000 in
theorem gd_wsX8_beliedBy : gdl wsX8_beliedBy := gdl_cons (by decide +kernel) (gdl_app (gdl_app (gdl_dec (by decide +kernel)) gd_wsX10_has) gd_wsX80)
noncomputable def wsX8_believe_o : List Cond := [.fieldLink RX8 27 "GuessFerry$Tellers" "sound" "LGuessFerry$Sound;", .fieldLink RX8 31 "GuessFerry$Tellers" "crossing" "LGuessFerry$Crossing;", .fieldLink RX8 18 "GuessFerry$Tellers" "odds" "[I", .fieldLink RX8 21 "GuessFerry$Tellers" "belied" "[I", .instanceMethod yX0_mayBe, .initialized RX0, .selects RX0 yX0_mayBe yX0_mayBe, .static yX10_has, .initialized RX10, .instanceMethod yX5_oddsAt, .initialized RX5, .selects RX5 yX5_oddsAt yX5_oddsAt, .methodLink RX8 58 yX8_beliedBy, .instanceMethod yX8_beliedBy, .selects RX8 yX8_beliedBy yX8_beliedBy, .initialized RX8]
noncomputable def wsX8_believe : List Cond := .code yX8_believe cX8_believe 7 none :: ((wsX8_believe_o ++ (wsX0_mayBe ++ (wsX10_has ++ (wsX5_oddsAt ++ wsX8_beliedBy)))) ++ wsX80 ++ wsX50 ++ wsX60 ++ wsX00)
set_option maxRecDepth 20000 in
theorem gd_wsX8_believe : gdl wsX8_believe := gdl_cons (by decide +kernel) (gdl_app (gdl_app (gdl_app (gdl_app (gdl_app (gdl_dec (by decide +kernel)) (gdl_app gd_wsX0_mayBe (gdl_app gd_wsX10_has (gdl_app gd_wsX5_oddsAt gd_wsX8_beliedBy)))) gd_wsX80) gd_wsX50) gd_wsX60) gd_wsX00)
noncomputable def wsX8_withWave : List Cond := .code yX8_withWave cX8_withWave 7 (some .int) :: (([.fieldLink RX8 18 "GuessFerry$Tellers" "odds" "[I", .fieldLink RX8 21 "GuessFerry$Tellers" "belied" "[I", .fieldLink RX8 24 "GuessFerry$Tellers" "byLies" "[I"] : List Cond) ++ wsX80)
set_option maxRecDepth 20000 in
theorem gd_wsX8_withWave : gdl wsX8_withWave := gdl_dec (by decide +kernel)
noncomputable def wsX8_sortByLies_o : List Cond := [.fieldLink RX8 24 "GuessFerry$Tellers" "byLies" "[I", .fieldLink RX8 27 "GuessFerry$Tellers" "sound" "LGuessFerry$Sound;", .methodLink RX8 62 yJ7_fill_53178, .static yJ7_fill_53178, .initialized RJ7, .methodLink RX8 68 yX8_withWave, .instanceMethod yX8_withWave, .selects RX8 yX8_withWave yX8_withWave, .initialized RX8]
noncomputable def wsX8_sortByLies : List Cond := .code yX8_sortByLies cX8_sortByLies 5 none :: ((wsX8_sortByLies_o ++ (wsJ7_fill_53178 ++ wsX8_withWave)) ++ wsX80 ++ wsX50)
set_option maxRecDepth 20000 in
theorem gd_wsX8_sortByLies : gdl wsX8_sortByLies := gdl_cons (by decide +kernel) (gdl_app (gdl_app (gdl_app (gdl_dec (by decide +kernel)) (gdl_app gd_wsJ7_fill_53178 gd_wsX8_withWave)) gd_wsX80) gd_wsX50)
noncomputable def wsX8_upTo : List Cond := .code yX8_upTo cX8_upTo 4 (some .int) :: (([.fieldLink RX8 24 "GuessFerry$Tellers" "byLies" "[I"] : List Cond) ++ wsX80)
set_option maxRecDepth 20000 in
theorem gd_wsX8_upTo : gdl wsX8_upTo := gdl_dec (by decide +kernel)
noncomputable def wsX8_fitting_o : List Cond := [.methodLink RX8 72 yX8_sortByLies, .instanceMethod yX8_sortByLies, .selects RX8 yX8_sortByLies yX8_sortByLies, .initialized RX8, .methodLink RX8 76 yX8_upTo, .instanceMethod yX8_upTo, .selects RX8 yX8_upTo yX8_upTo]
noncomputable def wsX8_fitting : List Cond := .code yX8_fitting cX8_fitting 3 (some .int) :: ((wsX8_fitting_o ++ (wsX8_sortByLies ++ wsX8_upTo)) ++ wsX80 ++ wsX50)
set_option maxRecDepth 20000 in
theorem gd_wsX8_fitting : gdl wsX8_fitting := gdl_cons (by decide +kernel) (gdl_app (gdl_app (gdl_app (gdl_dec (by decide +kernel)) (gdl_app gd_wsX8_sortByLies gd_wsX8_upTo)) gd_wsX80) gd_wsX50)
noncomputable def wsX8_fittingWith_o : List Cond := [.fieldLink RX8 18 "GuessFerry$Tellers" "odds" "[I", .fieldLink RX8 21 "GuessFerry$Tellers" "belied" "[I", .methodLink RX8 76 yX8_upTo, .instanceMethod yX8_upTo, .selects RX8 yX8_upTo yX8_upTo, .initialized RX8]
noncomputable def wsX8_fittingWith : List Cond := .code yX8_fittingWith cX8_fittingWith 5 (some .int) :: ((wsX8_fittingWith_o ++ wsX8_upTo) ++ wsX80)
set_option maxRecDepth 20000 in
theorem gd_wsX8_fittingWith : gdl wsX8_fittingWith := gdl_cons (by decide +kernel) (gdl_app (gdl_app (gdl_dec (by decide +kernel)) gd_wsX8_upTo) gd_wsX80)
noncomputable def wsX8_liars_o : List Cond := [Cond.fieldLink RX8 27 "GuessFerry$Tellers" "sound" "LGuessFerry$Sound;", Cond.fieldLink RX8 9 "GuessFerry$Tellers" "toldWaves" "[I", Cond.fieldLink RX8 15 "GuessFerry$Tellers" "toldThings" "[I", Cond.methodLink RX8 72 yX8_sortByLies, Cond.instanceMethod yX8_sortByLies, Cond.selects RX8 yX8_sortByLies yX8_sortByLies, Cond.initialized RX8, Cond.methodLink RX8 80 yX8_fittingWith, Cond.instanceMethod yX8_fittingWith, Cond.selects RX8 yX8_fittingWith yX8_fittingWith]
noncomputable def wsX8_liars : List Cond := .code yX8_liars cX8_liars 7 (some .int) :: ((wsX8_liars_o ++ (wsX8_sortByLies ++ wsX8_fittingWith)) ++ wsX80 ++ wsX50)
set_option maxRecDepth 20000 in
theorem gd_wsX8_liars : gdl wsX8_liars := gdl_cons (by decide +kernel) (gdl_app (gdl_app (gdl_app (gdl_dec (by decide +kernel)) (gdl_app gd_wsX8_sortByLies gd_wsX8_fittingWith)) gd_wsX80) gd_wsX50)
noncomputable def wsX8_waveToAsk_o : List Cond := [Cond.fieldLink RX8 27 "GuessFerry$Tellers" "sound" "LGuessFerry$Sound;", Cond.methodLink RX8 83 Lib.Math.max.name, Cond.static Lib.Math.max.name, Cond.initialized "java/lang/Math", Cond.code Lib.Math.max.name Lib.Math.max.code 2 (some .int), Cond.methodLink RX8 72 yX8_sortByLies, Cond.instanceMethod yX8_sortByLies, Cond.selects RX8 yX8_sortByLies yX8_sortByLies, Cond.initialized RX8, Cond.methodLink RX8 80 yX8_fittingWith, Cond.instanceMethod yX8_fittingWith, Cond.selects RX8 yX8_fittingWith yX8_fittingWith]
noncomputable def wsX8_waveToAsk : List Cond := .code yX8_waveToAsk cX8_waveToAsk 7 (some .int) :: ((wsX8_waveToAsk_o ++ (wsX8_sortByLies ++ wsX8_fittingWith)) ++ wsX80 ++ wsX50)
set_option maxRecDepth 20000 in
theorem gd_wsX8_waveToAsk : gdl wsX8_waveToAsk := gdl_cons (by decide +kernel) (gdl_app (gdl_app (gdl_app (gdl_dec (by decide +kernel)) (gdl_app gd_wsX8_sortByLies gd_wsX8_fittingWith)) gd_wsX80) gd_wsX50)
noncomputable def wsX10_init_o : List Cond := [Cond.methodLink RX10 1 objectInit, Cond.classLink RX10 7 RX7, Cond.instantiable RX7 2, Cond.initialized RX7, Cond.fieldLink RX10 10 "GuessFerry" "tape" "LGuessFerry$Tape;", Cond.classLink RX10 16 RX5, Cond.fieldLink RX10 19 "GuessFerry" "sound" "LGuessFerry$Sound;", Cond.classLink RX10 23 RX4, Cond.instantiable RX4 8, Cond.initialized RX4, Cond.fieldLink RX10 28 "GuessFerry" "reader" "LGuessFerry$Reader;", Cond.classLink RX10 32 RX6, Cond.fieldLink RX10 35 "GuessFerry" "now" "LGuessFerry$Standing;", Cond.fieldLink RX10 39 "GuessFerry" "trial" "LGuessFerry$Standing;", Cond.classLink RX10 42 RX3, Cond.instantiable RX3 5, Cond.initialized RX3, Cond.fieldLink RX10 45 "GuessFerry" "past" "LGuessFerry$Past;", Cond.classLink RX10 49 RX0, Cond.instantiable RX0 2, Cond.initialized RX0, Cond.fieldLink RX10 54 "GuessFerry" "crossing" "LGuessFerry$Crossing;", Cond.classLink RX10 58 RX2, Cond.instantiable RX2 6, Cond.initialized RX2, Cond.fieldLink RX10 63 "GuessFerry" "outlook" "LGuessFerry$Outlook;", Cond.classLink RX10 67 RX8, Cond.instantiable RX8 8, Cond.initialized RX8, Cond.fieldLink RX10 70 "GuessFerry" "tellers" "LGuessFerry$Tellers;", Cond.instanceMethod yX7_init, Cond.instanceMethod yX4_init, Cond.instanceMethod yX3_init, Cond.instanceMethod yX0_init, Cond.instanceMethod yX2_init, Cond.instanceMethod yX8_init, Cond.instanceMethod yX6_startOver, Cond.selects RX6 yX6_startOver yX6_startOver]
noncomputable def wsX10_init : List Cond := .code yX10_init cX10_init 1 none :: ((wsX10_init_o ++ (wsX7_init ++ (wsX5_init ++ (wsX4_init ++ (wsX6_init ++ (wsX3_init ++ (wsX0_init ++ (wsX2_init ++ (wsX8_init ++ wsX6_startOver))))))))) ++ wsX70 ++ wsX100 ++ wsX50 ++ wsX40 ++ wsX60 ++ wsX30 ++ wsX00 ++ wsX20 ++ wsX80 ++ wsX10 ++ wsX90)
set_option maxRecDepth 20000 in
theorem gd_wsX10_init : gdl wsX10_init := gdl_cons (by decide +kernel) (gdl_app (gdl_app (gdl_app (gdl_app (gdl_app (gdl_app (gdl_app (gdl_app (gdl_app (gdl_app (gdl_app (gdl_app (gdl_dec (by decide +kernel)) (gdl_app gd_wsX7_init (gdl_app gd_wsX5_init (gdl_app gd_wsX4_init (gdl_app gd_wsX6_init (gdl_app gd_wsX3_init (gdl_app gd_wsX0_init (gdl_app gd_wsX2_init (gdl_app gd_wsX8_init gd_wsX6_startOver))))))))) gd_wsX70) gd_wsX100) gd_wsX50) gd_wsX40) gd_wsX60) gd_wsX30) gd_wsX00) gd_wsX20) gd_wsX80) gd_wsX10) gd_wsX90)
noncomputable def wsX10_feed_o : List Cond := [.fieldLink RX10 10 "GuessFerry" "tape" "LGuessFerry$Tape;", .instanceMethod yX7_hasRoomFor, .initialized RX7, .selects RX7 yX7_hasRoomFor yX7_hasRoomFor, .instanceMethod yX7_addFour, .selects RX7 yX7_addFour yX7_addFour]
noncomputable def wsX10_feed : List Cond := .code yX10_feed cX10_feed 6 (some .int) :: ((wsX10_feed_o ++ (wsX7_hasRoomFor ++ wsX7_addFour)) ++ wsX100 ++ wsX70)
set_option maxRecDepth 20000 in
theorem gd_wsX10_feed : gdl wsX10_feed := gdl_cons (by decide +kernel) (gdl_app (gdl_app (gdl_app (gdl_dec (by decide +kernel)) (gdl_app gd_wsX7_hasRoomFor gd_wsX7_addFour)) gd_wsX100) gd_wsX70)
noncomputable def wsX10_back : List Cond := .code yX10_back cX10_back 2 (some .int) :: (([.fieldLink RX10 10 "GuessFerry" "tape" "LGuessFerry$Tape;"] : List Cond) ++ wsX100 ++ wsX70)
set_option maxRecDepth 20000 in
theorem gd_wsX10_back : gdl wsX10_back := gdl_dec (by decide +kernel)
noncomputable def wsX10_read_o : List Cond := [Cond.fieldLink RX10 28 "GuessFerry" "reader" "LGuessFerry$Reader;", Cond.fieldLink RX10 10 "GuessFerry" "tape" "LGuessFerry$Tape;", Cond.fieldLink RX10 19 "GuessFerry" "sound" "LGuessFerry$Sound;", Cond.fieldLink RX10 35 "GuessFerry" "now" "LGuessFerry$Standing;", Cond.fieldLink RX10 45 "GuessFerry" "past" "LGuessFerry$Past;", Cond.fieldLink RX10 70 "GuessFerry" "tellers" "LGuessFerry$Tellers;", Cond.instanceMethod yX4_readTape, Cond.initialized RX4, Cond.selects RX4 yX4_readTape yX4_readTape, Cond.initialized RX5, Cond.instanceMethod yX5_copyFrom, Cond.selects RX5 yX5_copyFrom yX5_copyFrom, Cond.instanceMethod yX6_startOver, Cond.initialized RX6, Cond.selects RX6 yX6_startOver yX6_startOver, Cond.instanceMethod yX3_forgetAll, Cond.initialized RX3, Cond.selects RX3 yX3_forgetAll yX3_forgetAll]
noncomputable def wsX10_read : List Cond := .code yX10_read cX10_read 2 (some .int) :: ((wsX10_read_o ++ (wsX4_readTape ++ (wsX5_copyFrom ++ (wsX6_startOver ++ wsX3_forgetAll)))) ++ wsX100 ++ wsX70 ++ wsX40 ++ wsX80 ++ wsX50 ++ wsX10 ++ wsX90 ++ wsX60 ++ wsX30)
set_option maxRecDepth 20000 in
theorem gd_wsX10_read : gdl wsX10_read := gdl_cons (by decide +kernel) (gdl_app (gdl_app (gdl_app (gdl_app (gdl_app (gdl_app (gdl_app (gdl_app (gdl_app (gdl_app (gdl_dec (by decide +kernel)) (gdl_app gd_wsX4_readTape (gdl_app gd_wsX5_copyFrom (gdl_app gd_wsX6_startOver gd_wsX3_forgetAll)))) gd_wsX100) gd_wsX70) gd_wsX40) gd_wsX80) gd_wsX50) gd_wsX10) gd_wsX90) gd_wsX60) gd_wsX30)
noncomputable def wsX10_place : List Cond := .code yX10_place cX10_place 1 (some .int) :: (([.fieldLink RX10 28 "GuessFerry" "reader" "LGuessFerry$Reader;"] : List Cond) ++ wsX100 ++ wsX40)
set_option maxRecDepth 20000 in
theorem gd_wsX10_place : gdl wsX10_place := gdl_dec (by decide +kernel)
noncomputable def wsX10_wave_o : List Cond := [Cond.fieldLink RX10 19 "GuessFerry" "sound" "LGuessFerry$Sound;", Cond.fieldLink RX10 54 "GuessFerry" "crossing" "LGuessFerry$Crossing;", Cond.fieldLink RX10 35 "GuessFerry" "now" "LGuessFerry$Standing;", Cond.instanceMethod yX5_hasWave, Cond.initialized RX5, Cond.selects RX5 yX5_hasWave yX5_hasWave, Cond.instanceMethod yX0_mayBe, Cond.initialized RX0, Cond.selects RX0 yX0_mayBe yX0_mayBe, Cond.instanceMethod yX0_thereNow, Cond.selects RX0 yX0_thereNow yX0_thereNow, Cond.instanceMethod yX0_shiftsOf, Cond.selects RX0 yX0_shiftsOf yX0_shiftsOf]
noncomputable def wsX10_wave : List Cond := .code yX10_wave cX10_wave 3 (some .int) :: ((wsX10_wave_o ++ (wsX5_hasWave ++ (wsX0_mayBe ++ (wsX0_thereNow ++ wsX0_shiftsOf)))) ++ wsX100 ++ wsX60 ++ wsX50 ++ wsX00 ++ wsX10)
set_option maxRecDepth 20000 in
theorem gd_wsX10_wave : gdl wsX10_wave := gdl_cons (by decide +kernel) (gdl_app (gdl_app (gdl_app (gdl_app (gdl_app (gdl_app (gdl_dec (by decide +kernel)) (gdl_app gd_wsX5_hasWave (gdl_app gd_wsX0_mayBe (gdl_app gd_wsX0_thereNow gd_wsX0_shiftsOf)))) gd_wsX100) gd_wsX60) gd_wsX50) gd_wsX00) gd_wsX10)
noncomputable def wsX10_isThing : List Cond := .code yX10_isThing cX10_isThing 1 (some .boolean) :: ([])
set_option maxRecDepth 20000 in
theorem gd_wsX10_isThing : gdl wsX10_isThing := gdl_dec (by decide +kernel)
noncomputable def wsX10_odds_o : List Cond := [.fieldLink RX10 19 "GuessFerry" "sound" "LGuessFerry$Sound;", .instanceMethod yX5_hasWave, .initialized RX5, .selects RX5 yX5_hasWave yX5_hasWave, .methodLink RX10 131 yX10_isThing, .static yX10_isThing, .initialized RX10, .instanceMethod yX5_oddsAt, .selects RX5 yX5_oddsAt yX5_oddsAt]
noncomputable def wsX10_odds : List Cond := .code yX10_odds cX10_odds 3 (some .int) :: ((wsX10_odds_o ++ (wsX5_hasWave ++ (wsX10_isThing ++ wsX5_oddsAt))) ++ wsX100 ++ wsX50)
set_option maxRecDepth 20000 in
theorem gd_wsX10_odds : gdl wsX10_odds := gdl_cons (by decide +kernel) (gdl_app (gdl_app (gdl_app (gdl_dec (by decide +kernel)) (gdl_app gd_wsX5_hasWave (gdl_app gd_wsX10_isThing gd_wsX5_oddsAt))) gd_wsX100) gd_wsX50)
noncomputable def wsX10_party_o : List Cond := [Cond.fieldLink RX10 19 "GuessFerry" "sound" "LGuessFerry$Sound;", Cond.fieldLink RX10 35 "GuessFerry" "now" "LGuessFerry$Standing;", Cond.fieldLink RX10 54 "GuessFerry" "crossing" "LGuessFerry$Crossing;", Cond.instanceMethod yX5_hasParty, Cond.initialized RX5, Cond.selects RX5 yX5_hasParty yX5_hasParty, Cond.instanceMethod yX0_fareOf, Cond.initialized RX0, Cond.selects RX0 yX0_fareOf yX0_fareOf, Cond.instanceMethod yX0_isDaring, Cond.selects RX0 yX0_isDaring yX0_isDaring]
noncomputable def wsX10_party : List Cond := .code yX10_party cX10_party 3 (some .int) :: ((wsX10_party_o ++ (wsX5_hasParty ++ (wsX0_fareOf ++ wsX0_isDaring))) ++ wsX100 ++ wsX50 ++ wsX60 ++ wsX00 ++ wsX10)
set_option maxRecDepth 20000 in
theorem gd_wsX10_party : gdl wsX10_party := gdl_cons (by decide +kernel) (gdl_app (gdl_app (gdl_app (gdl_app (gdl_app (gdl_app (gdl_dec (by decide +kernel)) (gdl_app gd_wsX5_hasParty (gdl_app gd_wsX0_fareOf gd_wsX0_isDaring))) gd_wsX100) gd_wsX50) gd_wsX60) gd_wsX00) gd_wsX10)
noncomputable def wsX10_needs_o : List Cond := [Cond.fieldLink RX10 19 "GuessFerry" "sound" "LGuessFerry$Sound;", Cond.fieldLink RX10 54 "GuessFerry" "crossing" "LGuessFerry$Crossing;", Cond.fieldLink RX10 35 "GuessFerry" "now" "LGuessFerry$Standing;", Cond.instanceMethod yX5_hasParty, Cond.initialized RX5, Cond.selects RX5 yX5_hasParty yX5_hasParty, Cond.instanceMethod yX5_hasWave, Cond.selects RX5 yX5_hasWave yX5_hasWave, Cond.methodLink RX10 131 yX10_isThing, Cond.static yX10_isThing, Cond.initialized RX10, Cond.instanceMethod yX0_needOf, Cond.initialized RX0, Cond.selects RX0 yX0_needOf yX0_needOf, Cond.initialized RJ7, Cond.initialized RJ6, Cond.initialized RX1, Cond.initialized "java/lang/Math"]
noncomputable def wsX10_needs : List Cond := .code yX10_needs cX10_needs 4 (some .int) :: ((wsX10_needs_o ++ (wsX5_hasParty ++ (wsX5_hasWave ++ (wsX10_isThing ++ wsX0_needOf)))) ++ wsX100 ++ wsX50 ++ wsX00 ++ wsX60 ++ wsX10)
set_option maxRecDepth 20000 in
theorem gd_wsX10_needs : gdl wsX10_needs := gdl_cons (by decide +kernel) (gdl_app (gdl_app (gdl_app (gdl_app (gdl_app (gdl_app (gdl_dec (by decide +kernel)) (gdl_app gd_wsX5_hasParty (gdl_app gd_wsX5_hasWave (gdl_app gd_wsX10_isThing gd_wsX0_needOf)))) gd_wsX100) gd_wsX50) gd_wsX00) gd_wsX60) gd_wsX10)
noncomputable def wsX10_isHere_o : List Cond := [.fieldLink RX10 19 "GuessFerry" "sound" "LGuessFerry$Sound;", .fieldLink RX10 35 "GuessFerry" "now" "LGuessFerry$Standing;", .instanceMethod yX5_hasParty, .initialized RX5, .selects RX5 yX5_hasParty yX5_hasParty]
noncomputable def wsX10_isHere : List Cond := .code yX10_isHere cX10_isHere 2 (some .boolean) :: ((wsX10_isHere_o ++ wsX5_hasParty) ++ wsX100 ++ wsX60 ++ wsX50)
set_option maxRecDepth 20000 in
theorem gd_wsX10_isHere : gdl wsX10_isHere := gdl_cons (by decide +kernel) (gdl_app (gdl_app (gdl_app (gdl_app (gdl_dec (by decide +kernel)) gd_wsX5_hasParty) gd_wsX100) gd_wsX60) gd_wsX50)
noncomputable def wsX10_go_o : List Cond := [Cond.fieldLink RX10 19 "GuessFerry" "sound" "LGuessFerry$Sound;", Cond.fieldLink RX10 45 "GuessFerry" "past" "LGuessFerry$Past;", Cond.fieldLink RX10 35 "GuessFerry" "now" "LGuessFerry$Standing;", Cond.fieldLink RX10 54 "GuessFerry" "crossing" "LGuessFerry$Crossing;", Cond.methodLink RX10 164 yX10_isHere, Cond.instanceMethod yX10_isHere, Cond.selects RX10 yX10_isHere yX10_isHere, Cond.initialized RX10, Cond.initialized RX5, Cond.instanceMethod yX5_hasGuess, Cond.selects RX5 yX5_hasGuess yX5_hasGuess, Cond.instanceMethod yX3_remember, Cond.initialized RX3, Cond.selects RX3 yX3_remember yX3_remember, Cond.instanceMethod yX0_sendBy, Cond.initialized RX0, Cond.selects RX0 yX0_sendBy yX0_sendBy]
noncomputable def wsX10_go : List Cond := .code yX10_go cX10_go 3 (some .int) :: ((wsX10_go_o ++ (wsX10_isHere ++ (wsX5_hasGuess ++ (wsX3_remember ++ wsX0_sendBy)))) ++ wsX100 ++ wsX50 ++ wsX60 ++ wsX30 ++ wsX00 ++ wsX10)
set_option maxRecDepth 20000 in
theorem gd_wsX10_go : gdl wsX10_go := gdl_cons (by decide +kernel) (gdl_app (gdl_app (gdl_app (gdl_app (gdl_app (gdl_app (gdl_app (gdl_dec (by decide +kernel)) (gdl_app gd_wsX10_isHere (gdl_app gd_wsX5_hasGuess (gdl_app gd_wsX3_remember gd_wsX0_sendBy)))) gd_wsX100) gd_wsX50) gd_wsX60) gd_wsX30) gd_wsX00) gd_wsX10)
noncomputable def wsX10_buoy_o : List Cond := [Cond.fieldLink RX10 19 "GuessFerry" "sound" "LGuessFerry$Sound;", Cond.fieldLink RX10 35 "GuessFerry" "now" "LGuessFerry$Standing;", Cond.fieldLink RX10 45 "GuessFerry" "past" "LGuessFerry$Past;", Cond.instanceMethod yX5_hasWave, Cond.initialized RX5, Cond.selects RX5 yX5_hasWave yX5_hasWave, Cond.methodLink RX10 131 yX10_isThing, Cond.static yX10_isThing, Cond.initialized RX10, Cond.methodLink RX10 181 yX10_has, Cond.static yX10_has, Cond.instanceMethod yX3_remember, Cond.initialized RX3, Cond.selects RX3 yX3_remember yX3_remember, Cond.initialized RX6, Cond.initialized "java/lang/System"]
noncomputable def wsX10_buoy : List Cond := .code yX10_buoy cX10_buoy 4 (some .boolean) :: ((wsX10_buoy_o ++ (wsX5_hasWave ++ (wsX10_isThing ++ (wsX10_has ++ wsX3_remember)))) ++ wsX100 ++ wsX60 ++ wsX50 ++ wsX30)
set_option maxRecDepth 20000 in
theorem gd_wsX10_buoy : gdl wsX10_buoy := gdl_cons (by decide +kernel) (gdl_app (gdl_app (gdl_app (gdl_app (gdl_app (gdl_dec (by decide +kernel)) (gdl_app gd_wsX5_hasWave (gdl_app gd_wsX10_isThing (gdl_app gd_wsX10_has gd_wsX3_remember)))) gd_wsX100) gd_wsX60) gd_wsX50) gd_wsX30)
noncomputable def wsX10_fetch_o : List Cond := [Cond.fieldLink RX10 19 "GuessFerry" "sound" "LGuessFerry$Sound;", Cond.fieldLink RX10 35 "GuessFerry" "now" "LGuessFerry$Standing;", Cond.fieldLink RX10 45 "GuessFerry" "past" "LGuessFerry$Past;", Cond.instanceMethod yX5_hasParty, Cond.initialized RX5, Cond.selects RX5 yX5_hasParty yX5_hasParty, Cond.instanceMethod yX3_remember, Cond.initialized RX3, Cond.selects RX3 yX3_remember yX3_remember]
noncomputable def wsX10_fetch : List Cond := .code yX10_fetch cX10_fetch 2 (some .boolean) :: ((wsX10_fetch_o ++ (wsX5_hasParty ++ wsX3_remember)) ++ wsX100 ++ wsX60 ++ wsX50 ++ wsX30)
set_option maxRecDepth 20000 in
theorem gd_wsX10_fetch : gdl wsX10_fetch := gdl_cons (by decide +kernel) (gdl_app (gdl_app (gdl_app (gdl_app (gdl_app (gdl_dec (by decide +kernel)) (gdl_app gd_wsX5_hasParty gd_wsX3_remember)) gd_wsX100) gd_wsX60) gd_wsX50) gd_wsX30)
noncomputable def wsX10_years_o : List Cond := [Cond.fieldLink RX10 45 "GuessFerry" "past" "LGuessFerry$Past;", Cond.fieldLink RX10 35 "GuessFerry" "now" "LGuessFerry$Standing;", Cond.fieldLink RX10 54 "GuessFerry" "crossing" "LGuessFerry$Crossing;", Cond.instanceMethod yX3_remember, Cond.initialized RX3, Cond.selects RX3 yX3_remember yX3_remember, Cond.instanceMethod yX0_passYears, Cond.initialized RX0, Cond.selects RX0 yX0_passYears yX0_passYears]
noncomputable def wsX10_years : List Cond := .code yX10_years cX10_years 2 (some .int) :: ((wsX10_years_o ++ (wsX3_remember ++ wsX0_passYears)) ++ wsX100 ++ wsX60 ++ wsX30 ++ wsX00 ++ wsX50 ++ wsX10)
set_option maxRecDepth 20000 in
theorem gd_wsX10_years : gdl wsX10_years := gdl_cons (by decide +kernel) (gdl_app (gdl_app (gdl_app (gdl_app (gdl_app (gdl_app (gdl_app (gdl_dec (by decide +kernel)) (gdl_app gd_wsX3_remember gd_wsX0_passYears)) gd_wsX100) gd_wsX60) gd_wsX30) gd_wsX00) gd_wsX50) gd_wsX10)
noncomputable def wsX10_undo_o : List Cond := [.fieldLink RX10 45 "GuessFerry" "past" "LGuessFerry$Past;", .fieldLink RX10 35 "GuessFerry" "now" "LGuessFerry$Standing;", .instanceMethod yX3_takeBack, .initialized RX3, .selects RX3 yX3_takeBack yX3_takeBack]
noncomputable def wsX10_undo : List Cond := .code yX10_undo cX10_undo 1 (some .boolean) :: ((wsX10_undo_o ++ wsX3_takeBack) ++ wsX100 ++ wsX30 ++ wsX60)
set_option maxRecDepth 20000 in
theorem gd_wsX10_undo : gdl wsX10_undo := gdl_cons (by decide +kernel) (gdl_app (gdl_app (gdl_app (gdl_app (gdl_dec (by decide +kernel)) gd_wsX3_takeBack) gd_wsX100) gd_wsX30) gd_wsX60)
noncomputable def wsX10_cases_o : List Cond := [.fieldLink RX10 63 "GuessFerry" "outlook" "LGuessFerry$Outlook;", .fieldLink RX10 35 "GuessFerry" "now" "LGuessFerry$Standing;", .instanceMethod yX2_caseCount, .initialized RX2, .selects RX2 yX2_caseCount yX2_caseCount]
noncomputable def wsX10_cases : List Cond := .code yX10_cases cX10_cases 1 (some .int) :: ((wsX10_cases_o ++ wsX2_caseCount) ++ wsX100 ++ wsX20 ++ wsX50 ++ wsX60 ++ wsX00)
set_option maxRecDepth 20000 in
theorem gd_wsX10_cases : gdl wsX10_cases := gdl_cons (by decide +kernel) (gdl_app (gdl_app (gdl_app (gdl_app (gdl_app (gdl_app (gdl_dec (by decide +kernel)) gd_wsX2_caseCount) gd_wsX100) gd_wsX20) gd_wsX50) gd_wsX60) gd_wsX00)
noncomputable def wsX10_chance_o : List Cond := [Cond.fieldLink RX10 19 "GuessFerry" "sound" "LGuessFerry$Sound;", Cond.fieldLink RX10 63 "GuessFerry" "outlook" "LGuessFerry$Outlook;", Cond.fieldLink RX10 35 "GuessFerry" "now" "LGuessFerry$Standing;", Cond.instanceMethod yX5_hasGuess, Cond.initialized RX5, Cond.selects RX5 yX5_hasGuess yX5_hasGuess, Cond.instanceMethod yX2_oddsOf, Cond.initialized RX2, Cond.selects RX2 yX2_oddsOf yX2_oddsOf]
noncomputable def wsX10_chance : List Cond := .code yX10_chance cX10_chance 2 (some .int) :: ((wsX10_chance_o ++ (wsX5_hasGuess ++ wsX2_oddsOf)) ++ wsX100 ++ wsX50 ++ wsX20 ++ wsX60 ++ wsX00)
set_option maxRecDepth 20000 in
theorem gd_wsX10_chance : gdl wsX10_chance := gdl_cons (by decide +kernel) (gdl_app (gdl_app (gdl_app (gdl_app (gdl_app (gdl_app (gdl_dec (by decide +kernel)) (gdl_app gd_wsX5_hasGuess gd_wsX2_oddsOf)) gd_wsX100) gd_wsX50) gd_wsX20) gd_wsX60) gd_wsX00)
noncomputable def wsX10_all_o : List Cond := [Cond.fieldLink RX10 63 "GuessFerry" "outlook" "LGuessFerry$Outlook;", Cond.fieldLink RX10 35 "GuessFerry" "now" "LGuessFerry$Standing;", Cond.instanceMethod yX2_oddsOfAll, Cond.initialized RX2, Cond.selects RX2 yX2_oddsOfAll yX2_oddsOfAll]
noncomputable def wsX10_all : List Cond := .code yX10_all cX10_all 1 (some .int) :: ((wsX10_all_o ++ wsX2_oddsOfAll) ++ wsX100 ++ wsX20 ++ wsX50 ++ wsX60 ++ wsX00)
set_option maxRecDepth 20000 in
theorem gd_wsX10_all : gdl wsX10_all := gdl_cons (by decide +kernel) (gdl_app (gdl_app (gdl_app (gdl_app (gdl_app (gdl_app (gdl_dec (by decide +kernel)) gd_wsX2_oddsOfAll) gd_wsX100) gd_wsX20) gd_wsX50) gd_wsX60) gd_wsX00)
noncomputable def wsX10_likeliest_o : List Cond := [Cond.fieldLink RX10 63 "GuessFerry" "outlook" "LGuessFerry$Outlook;", Cond.fieldLink RX10 35 "GuessFerry" "now" "LGuessFerry$Standing;", Cond.instanceMethod yX2_bestGuess, Cond.initialized RX2, Cond.selects RX2 yX2_bestGuess yX2_bestGuess]
noncomputable def wsX10_likeliest : List Cond := .code yX10_likeliest cX10_likeliest 1 (some .int) :: ((wsX10_likeliest_o ++ wsX2_bestGuess) ++ wsX100 ++ wsX20 ++ wsX50 ++ wsX60 ++ wsX00 ++ wsX10)
set_option maxRecDepth 20000 in
theorem gd_wsX10_likeliest : gdl wsX10_likeliest := gdl_cons (by decide +kernel) (gdl_app (gdl_app (gdl_app (gdl_app (gdl_app (gdl_app (gdl_app (gdl_dec (by decide +kernel)) gd_wsX2_bestGuess) gd_wsX100) gd_wsX20) gd_wsX50) gd_wsX60) gd_wsX00) gd_wsX10)
noncomputable def wsX10_bears_o : List Cond := [Cond.fieldLink RX10 19 "GuessFerry" "sound" "LGuessFerry$Sound;", Cond.fieldLink RX10 63 "GuessFerry" "outlook" "LGuessFerry$Outlook;", Cond.fieldLink RX10 35 "GuessFerry" "now" "LGuessFerry$Standing;", Cond.instanceMethod yX5_hasParty, Cond.initialized RX5, Cond.selects RX5 yX5_hasParty yX5_hasParty, Cond.instanceMethod yX5_hasGuess, Cond.selects RX5 yX5_hasGuess yX5_hasGuess, Cond.instanceMethod yX2_borneOver, Cond.initialized RX2, Cond.selects RX2 yX2_borneOver yX2_borneOver]
noncomputable def wsX10_bears : List Cond := .code yX10_bears cX10_bears 3 (some .int) :: ((wsX10_bears_o ++ (wsX5_hasParty ++ (wsX5_hasGuess ++ wsX2_borneOver))) ++ wsX100 ++ wsX50 ++ wsX20 ++ wsX00 ++ wsX60 ++ wsX10)
set_option maxRecDepth 20000 in
theorem gd_wsX10_bears : gdl wsX10_bears := gdl_cons (by decide +kernel) (gdl_app (gdl_app (gdl_app (gdl_app (gdl_app (gdl_app (gdl_app (gdl_dec (by decide +kernel)) (gdl_app gd_wsX5_hasParty (gdl_app gd_wsX5_hasGuess gd_wsX2_borneOver))) gd_wsX100) gd_wsX50) gd_wsX20) gd_wsX00) gd_wsX60) gd_wsX10)
noncomputable def wsX10_safest_o : List Cond := [Cond.fieldLink RX10 19 "GuessFerry" "sound" "LGuessFerry$Sound;", Cond.fieldLink RX10 63 "GuessFerry" "outlook" "LGuessFerry$Outlook;", Cond.fieldLink RX10 35 "GuessFerry" "now" "LGuessFerry$Standing;", Cond.instanceMethod yX5_hasParty, Cond.initialized RX5, Cond.selects RX5 yX5_hasParty yX5_hasParty, Cond.instanceMethod yX2_bestGuess, Cond.initialized RX2, Cond.selects RX2 yX2_bestGuess yX2_bestGuess]
noncomputable def wsX10_safest : List Cond := .code yX10_safest cX10_safest 2 (some .int) :: ((wsX10_safest_o ++ (wsX5_hasParty ++ wsX2_bestGuess)) ++ wsX100 ++ wsX50 ++ wsX20 ++ wsX60 ++ wsX00 ++ wsX10)
set_option maxRecDepth 20000 in
theorem gd_wsX10_safest : gdl wsX10_safest := gdl_cons (by decide +kernel) (gdl_app (gdl_app (gdl_app (gdl_app (gdl_app (gdl_app (gdl_app (gdl_dec (by decide +kernel)) (gdl_app gd_wsX5_hasParty gd_wsX2_bestGuess)) gd_wsX100) gd_wsX50) gd_wsX20) gd_wsX60) gd_wsX00) gd_wsX10)
noncomputable def wsX10_enough_o : List Cond := [Cond.fieldLink RX10 63 "GuessFerry" "outlook" "LGuessFerry$Outlook;", Cond.fieldLink RX10 35 "GuessFerry" "now" "LGuessFerry$Standing;", Cond.instanceMethod yX2_caseCount, Cond.initialized RX2, Cond.selects RX2 yX2_caseCount yX2_caseCount, Cond.instanceMethod yX2_goesAtMost, Cond.selects RX2 yX2_goesAtMost yX2_goesAtMost]
noncomputable def wsX10_enough : List Cond := .code yX10_enough cX10_enough 1 (some .int) :: ((wsX10_enough_o ++ (wsX2_caseCount ++ wsX2_goesAtMost)) ++ wsX100 ++ wsX20 ++ wsX50 ++ wsX60 ++ wsX00)
set_option maxRecDepth 20000 in
theorem gd_wsX10_enough : gdl wsX10_enough := gdl_cons (by decide +kernel) (gdl_app (gdl_app (gdl_app (gdl_app (gdl_app (gdl_app (gdl_dec (by decide +kernel)) (gdl_app gd_wsX2_caseCount gd_wsX2_goesAtMost)) gd_wsX100) gd_wsX20) gd_wsX50) gd_wsX60) gd_wsX00)
noncomputable def wsX10_left_o : List Cond := [Cond.fieldLink RX10 19 "GuessFerry" "sound" "LGuessFerry$Sound;", Cond.fieldLink RX10 63 "GuessFerry" "outlook" "LGuessFerry$Outlook;", Cond.fieldLink RX10 35 "GuessFerry" "now" "LGuessFerry$Standing;", Cond.instanceMethod yX5_hasGuess, Cond.initialized RX5, Cond.selects RX5 yX5_hasGuess yX5_hasGuess, Cond.instanceMethod yX2_caseCount, Cond.initialized RX2, Cond.selects RX2 yX2_caseCount yX2_caseCount, Cond.instanceMethod yX2_leftBehind, Cond.selects RX2 yX2_leftBehind yX2_leftBehind]
noncomputable def wsX10_left : List Cond := .code yX10_left cX10_left 2 (some .int) :: ((wsX10_left_o ++ (wsX5_hasGuess ++ (wsX2_caseCount ++ wsX2_leftBehind))) ++ wsX100 ++ wsX50 ++ wsX20 ++ wsX60 ++ wsX00)
set_option maxRecDepth 20000 in
theorem gd_wsX10_left : gdl wsX10_left := gdl_cons (by decide +kernel) (gdl_app (gdl_app (gdl_app (gdl_app (gdl_app (gdl_app (gdl_dec (by decide +kernel)) (gdl_app gd_wsX5_hasGuess (gdl_app gd_wsX2_caseCount gd_wsX2_leftBehind))) gd_wsX100) gd_wsX50) gd_wsX20) gd_wsX60) gd_wsX00)
noncomputable def wsX10_wisest_o : List Cond := [Cond.fieldLink RX10 63 "GuessFerry" "outlook" "LGuessFerry$Outlook;", Cond.fieldLink RX10 35 "GuessFerry" "now" "LGuessFerry$Standing;", Cond.instanceMethod yX2_caseCount, Cond.initialized RX2, Cond.selects RX2 yX2_caseCount yX2_caseCount, Cond.instanceMethod yX2_wisestGuess, Cond.selects RX2 yX2_wisestGuess yX2_wisestGuess, Cond.instanceMethod yX2_leftBehind, Cond.selects RX2 yX2_leftBehind yX2_leftBehind]
noncomputable def wsX10_wisest : List Cond := .code yX10_wisest cX10_wisest 3 (some .int) :: ((wsX10_wisest_o ++ (wsX2_caseCount ++ (wsX2_wisestGuess ++ wsX2_leftBehind))) ++ wsX100 ++ wsX20 ++ wsX50 ++ wsX60 ++ wsX00)
set_option maxRecDepth 20000 in
theorem gd_wsX10_wisest : gdl wsX10_wisest := gdl_cons (by decide +kernel) (gdl_app (gdl_app (gdl_app (gdl_app (gdl_app (gdl_app (gdl_dec (by decide +kernel)) (gdl_app gd_wsX2_caseCount (gdl_app gd_wsX2_wisestGuess gd_wsX2_leftBehind))) gd_wsX100) gd_wsX20) gd_wsX50) gd_wsX60) gd_wsX00)
noncomputable def wsX10_rank_o : List Cond := [Cond.fieldLink RX10 19 "GuessFerry" "sound" "LGuessFerry$Sound;", Cond.fieldLink RX10 63 "GuessFerry" "outlook" "LGuessFerry$Outlook;", Cond.fieldLink RX10 35 "GuessFerry" "now" "LGuessFerry$Standing;", Cond.instanceMethod yX5_hasGuess, Cond.initialized RX5, Cond.selects RX5 yX5_hasGuess yX5_hasGuess, Cond.instanceMethod yX2_oddsOf, Cond.initialized RX2, Cond.selects RX2 yX2_oddsOf yX2_oddsOf, Cond.instanceMethod yX2_casesAheadOf, Cond.selects RX2 yX2_casesAheadOf yX2_casesAheadOf]
noncomputable def wsX10_rank : List Cond := .code yX10_rank cX10_rank 3 (some .int) :: ((wsX10_rank_o ++ (wsX5_hasGuess ++ (wsX2_oddsOf ++ wsX2_casesAheadOf))) ++ wsX100 ++ wsX50 ++ wsX20 ++ wsX60 ++ wsX00)
set_option maxRecDepth 20000 in
theorem gd_wsX10_rank : gdl wsX10_rank := gdl_cons (by decide +kernel) (gdl_app (gdl_app (gdl_app (gdl_app (gdl_app (gdl_app (gdl_dec (by decide +kernel)) (gdl_app gd_wsX5_hasGuess (gdl_app gd_wsX2_oddsOf gd_wsX2_casesAheadOf))) gd_wsX100) gd_wsX50) gd_wsX20) gd_wsX60) gd_wsX00)
noncomputable def wsX10_ranked_o : List Cond := [Cond.fieldLink RX10 63 "GuessFerry" "outlook" "LGuessFerry$Outlook;", Cond.fieldLink RX10 35 "GuessFerry" "now" "LGuessFerry$Standing;", Cond.instanceMethod yX2_caseAtRank, Cond.initialized RX2, Cond.selects RX2 yX2_caseAtRank yX2_caseAtRank]
noncomputable def wsX10_ranked : List Cond := .code yX10_ranked cX10_ranked 2 (some .int) :: ((wsX10_ranked_o ++ wsX2_caseAtRank) ++ wsX100 ++ wsX20 ++ wsX50 ++ wsX60 ++ wsX00)
set_option maxRecDepth 20000 in
theorem gd_wsX10_ranked : gdl wsX10_ranked := gdl_cons (by decide +kernel) (gdl_app (gdl_app (gdl_app (gdl_app (gdl_app (gdl_app (gdl_dec (by decide +kernel)) gd_wsX2_caseAtRank) gd_wsX100) gd_wsX20) gd_wsX50) gd_wsX60) gd_wsX00)
noncomputable def wsX10_share_o : List Cond := [Cond.fieldLink RX10 19 "GuessFerry" "sound" "LGuessFerry$Sound;", Cond.fieldLink RX10 54 "GuessFerry" "crossing" "LGuessFerry$Crossing;", Cond.fieldLink RX10 35 "GuessFerry" "now" "LGuessFerry$Standing;", Cond.fieldLink RX10 63 "GuessFerry" "outlook" "LGuessFerry$Outlook;", Cond.instanceMethod yX5_hasWave, Cond.initialized RX5, Cond.selects RX5 yX5_hasWave yX5_hasWave, Cond.methodLink RX10 131 yX10_isThing, Cond.static yX10_isThing, Cond.initialized RX10, Cond.instanceMethod yX0_mayBe, Cond.initialized RX0, Cond.selects RX0 yX0_mayBe yX0_mayBe, Cond.methodLink RX10 181 yX10_has, Cond.static yX10_has, Cond.instanceMethod yX5_oddsAt, Cond.selects RX5 yX5_oddsAt yX5_oddsAt, Cond.instanceMethod yX2_oddsOfAll, Cond.initialized RX2, Cond.selects RX2 yX2_oddsOfAll yX2_oddsOfAll]
noncomputable def wsX10_share : List Cond := .code yX10_share cX10_share 3 (some .int) :: ((wsX10_share_o ++ (wsX5_hasWave ++ (wsX10_isThing ++ (wsX0_mayBe ++ (wsX10_has ++ (wsX5_oddsAt ++ wsX2_oddsOfAll)))))) ++ wsX100 ++ wsX50 ++ wsX60 ++ wsX00 ++ wsX20)
set_option maxRecDepth 20000 in
theorem gd_wsX10_share : gdl wsX10_share := gdl_cons (by decide +kernel) (gdl_app (gdl_app (gdl_app (gdl_app (gdl_app (gdl_app (gdl_dec (by decide +kernel)) (gdl_app gd_wsX5_hasWave (gdl_app gd_wsX10_isThing (gdl_app gd_wsX0_mayBe (gdl_app gd_wsX10_has (gdl_app gd_wsX5_oddsAt gd_wsX2_oddsOfAll)))))) gd_wsX100) gd_wsX50) gd_wsX60) gd_wsX00) gd_wsX20)
noncomputable def wsX10_sure_o : List Cond := [Cond.fieldLink RX10 19 "GuessFerry" "sound" "LGuessFerry$Sound;", Cond.fieldLink RX10 39 "GuessFerry" "trial" "LGuessFerry$Standing;", Cond.fieldLink RX10 35 "GuessFerry" "now" "LGuessFerry$Standing;", Cond.fieldLink RX10 63 "GuessFerry" "outlook" "LGuessFerry$Outlook;", Cond.methodLink RX10 164 yX10_isHere, Cond.instanceMethod yX10_isHere, Cond.selects RX10 yX10_isHere yX10_isHere, Cond.initialized RX10, Cond.instanceMethod yX6_copyFrom, Cond.initialized RX6, Cond.selects RX6 yX6_copyFrom yX6_copyFrom, Cond.instanceMethod yX2_oddsOverWithin, Cond.initialized RX2, Cond.selects RX2 yX2_oddsOverWithin yX2_oddsOverWithin]
noncomputable def wsX10_sure : List Cond := .code yX10_sure cX10_sure 3 (some .int) :: ((wsX10_sure_o ++ (wsX10_isHere ++ (wsX6_copyFrom ++ wsX2_oddsOverWithin))) ++ wsX100 ++ wsX50 ++ wsX60 ++ wsX20 ++ wsX00 ++ wsX10)
set_option maxRecDepth 20000 in
theorem gd_wsX10_sure : gdl wsX10_sure := gdl_cons (by decide +kernel) (gdl_app (gdl_app (gdl_app (gdl_app (gdl_app (gdl_app (gdl_app (gdl_dec (by decide +kernel)) (gdl_app gd_wsX10_isHere (gdl_app gd_wsX6_copyFrom gd_wsX2_oddsOverWithin))) gd_wsX100) gd_wsX50) gd_wsX60) gd_wsX20) gd_wsX00) gd_wsX10)
noncomputable def wsX10_alike_o : List Cond := [.fieldLink RX10 19 "GuessFerry" "sound" "LGuessFerry$Sound;", .instanceMethod yX5_hasGuess, .initialized RX5, .selects RX5 yX5_hasGuess yX5_hasGuess, .methodLink RX10 232 yX10_thingIn, .static yX10_thingIn, .initialized RX10]
noncomputable def wsX10_alike : List Cond := .code yX10_alike cX10_alike 4 (some .int) :: ((wsX10_alike_o ++ (wsX5_hasGuess ++ wsX10_thingIn)) ++ wsX100 ++ wsX50)
set_option maxRecDepth 20000 in
theorem gd_wsX10_alike : gdl wsX10_alike := gdl_cons (by decide +kernel) (gdl_app (gdl_app (gdl_app (gdl_dec (by decide +kernel)) (gdl_app gd_wsX5_hasGuess gd_wsX10_thingIn)) gd_wsX100) gd_wsX50)
noncomputable def wsX10_sunk_o : List Cond := [Cond.fieldLink RX10 19 "GuessFerry" "sound" "LGuessFerry$Sound;", Cond.fieldLink RX10 35 "GuessFerry" "now" "LGuessFerry$Standing;", Cond.fieldLink RX10 63 "GuessFerry" "outlook" "LGuessFerry$Outlook;", Cond.instanceMethod yX5_hasGuess, Cond.initialized RX5, Cond.selects RX5 yX5_hasGuess yX5_hasGuess, Cond.instanceMethod yX2_borneOver, Cond.initialized RX2, Cond.selects RX2 yX2_borneOver yX2_borneOver]
noncomputable def wsX10_sunk : List Cond := .code yX10_sunk cX10_sunk 4 (some .int) :: ((wsX10_sunk_o ++ (wsX5_hasGuess ++ wsX2_borneOver)) ++ wsX100 ++ wsX50 ++ wsX60 ++ wsX20 ++ wsX00 ++ wsX10)
set_option maxRecDepth 20000 in
theorem gd_wsX10_sunk : gdl wsX10_sunk := gdl_cons (by decide +kernel) (gdl_app (gdl_app (gdl_app (gdl_app (gdl_app (gdl_app (gdl_app (gdl_dec (by decide +kernel)) (gdl_app gd_wsX5_hasGuess gd_wsX2_borneOver)) gd_wsX100) gd_wsX50) gd_wsX60) gd_wsX20) gd_wsX00) gd_wsX10)
noncomputable def wsX10_stuck_o : List Cond := [Cond.fieldLink RX10 19 "GuessFerry" "sound" "LGuessFerry$Sound;", Cond.fieldLink RX10 35 "GuessFerry" "now" "LGuessFerry$Standing;", Cond.fieldLink RX10 63 "GuessFerry" "outlook" "LGuessFerry$Outlook;", Cond.instanceMethod yX2_bestGuess, Cond.initialized RX2, Cond.selects RX2 yX2_bestGuess yX2_bestGuess]
noncomputable def wsX10_stuck : List Cond := .code yX10_stuck cX10_stuck 3 (some .int) :: ((wsX10_stuck_o ++ wsX2_bestGuess) ++ wsX100 ++ wsX50 ++ wsX60 ++ wsX20 ++ wsX00 ++ wsX10)
set_option maxRecDepth 20000 in
theorem gd_wsX10_stuck : gdl wsX10_stuck := gdl_cons (by decide +kernel) (gdl_app (gdl_app (gdl_app (gdl_app (gdl_app (gdl_app (gdl_app (gdl_dec (by decide +kernel)) gd_wsX2_bestGuess) gd_wsX100) gd_wsX50) gd_wsX60) gd_wsX20) gd_wsX00) gd_wsX10)
noncomputable def wsX10_spread_o : List Cond := [Cond.fieldLink RX10 19 "GuessFerry" "sound" "LGuessFerry$Sound;", Cond.fieldLink RX10 63 "GuessFerry" "outlook" "LGuessFerry$Outlook;", Cond.fieldLink RX10 35 "GuessFerry" "now" "LGuessFerry$Standing;", Cond.instanceMethod yX5_hasWave, Cond.initialized RX5, Cond.selects RX5 yX5_hasWave yX5_hasWave, Cond.instanceMethod yX2_oddsApart, Cond.initialized RX2, Cond.selects RX2 yX2_oddsApart yX2_oddsApart]
noncomputable def wsX10_spread : List Cond := .code yX10_spread cX10_spread 2 (some .int) :: ((wsX10_spread_o ++ (wsX5_hasWave ++ wsX2_oddsApart)) ++ wsX100 ++ wsX50 ++ wsX20 ++ wsX60 ++ wsX00)
set_option maxRecDepth 20000 in
theorem gd_wsX10_spread : gdl wsX10_spread := gdl_cons (by decide +kernel) (gdl_app (gdl_app (gdl_app (gdl_app (gdl_app (gdl_app (gdl_dec (by decide +kernel)) (gdl_app gd_wsX5_hasWave gd_wsX2_oddsApart)) gd_wsX100) gd_wsX50) gd_wsX20) gd_wsX60) gd_wsX00)
noncomputable def wsX10_dearest_o : List Cond := [Cond.fieldLink RX10 19 "GuessFerry" "sound" "LGuessFerry$Sound;", Cond.fieldLink RX10 54 "GuessFerry" "crossing" "LGuessFerry$Crossing;", Cond.fieldLink RX10 35 "GuessFerry" "now" "LGuessFerry$Standing;", Cond.instanceMethod yX0_fareOf, Cond.initialized RX0, Cond.selects RX0 yX0_fareOf yX0_fareOf]
noncomputable def wsX10_dearest : List Cond := .code yX10_dearest cX10_dearest 6 (some .int) :: ((wsX10_dearest_o ++ wsX0_fareOf) ++ wsX100 ++ wsX50 ++ wsX00 ++ wsX60 ++ wsX10)
set_option maxRecDepth 20000 in
theorem gd_wsX10_dearest : gdl wsX10_dearest := gdl_cons (by decide +kernel) (gdl_app (gdl_app (gdl_app (gdl_app (gdl_app (gdl_app (gdl_dec (by decide +kernel)) gd_wsX0_fareOf) gd_wsX100) gd_wsX50) gd_wsX00) gd_wsX60) gd_wsX10)
noncomputable def wsX10_chosen_o : List Cond := [Cond.fieldLink RX10 19 "GuessFerry" "sound" "LGuessFerry$Sound;", Cond.fieldLink RX10 35 "GuessFerry" "now" "LGuessFerry$Standing;", Cond.fieldLink RX10 63 "GuessFerry" "outlook" "LGuessFerry$Outlook;", Cond.instanceMethod yX2_bestGuess, Cond.initialized RX2, Cond.selects RX2 yX2_bestGuess yX2_bestGuess, Cond.instanceMethod yX2_oddsOf, Cond.selects RX2 yX2_oddsOf yX2_oddsOf]
noncomputable def wsX10_chosen : List Cond := .code yX10_chosen cX10_chosen 6 (some .int) :: ((wsX10_chosen_o ++ (wsX2_bestGuess ++ wsX2_oddsOf)) ++ wsX100 ++ wsX50 ++ wsX60 ++ wsX20 ++ wsX00 ++ wsX10)
set_option maxRecDepth 20000 in
theorem gd_wsX10_chosen : gdl wsX10_chosen := gdl_cons (by decide +kernel) (gdl_app (gdl_app (gdl_app (gdl_app (gdl_app (gdl_app (gdl_app (gdl_dec (by decide +kernel)) (gdl_app gd_wsX2_bestGuess gd_wsX2_oddsOf)) gd_wsX100) gd_wsX50) gd_wsX60) gd_wsX20) gd_wsX00) gd_wsX10)
noncomputable def wsX10_partiesThatAre : List Cond := .code yX10_partiesThatAre cX10_partiesThatAre 5 (some .int) :: (([.fieldLink RX10 19 "GuessFerry" "sound" "LGuessFerry$Sound;"] : List Cond) ++ wsX100 ++ wsX50 ++ wsX60)
set_option maxRecDepth 20000 in
theorem gd_wsX10_partiesThatAre : gdl wsX10_partiesThatAre := gdl_dec (by decide +kernel)
noncomputable def wsX10_allGo_o : List Cond := [Cond.fieldLink RX10 39 "GuessFerry" "trial" "LGuessFerry$Standing;", Cond.fieldLink RX10 35 "GuessFerry" "now" "LGuessFerry$Standing;", Cond.fieldLink RX10 19 "GuessFerry" "sound" "LGuessFerry$Sound;", Cond.fieldLink RX10 54 "GuessFerry" "crossing" "LGuessFerry$Crossing;", Cond.fieldLink RX10 63 "GuessFerry" "outlook" "LGuessFerry$Outlook;", Cond.instanceMethod yX6_copyFrom, Cond.initialized RX6, Cond.selects RX6 yX6_copyFrom yX6_copyFrom, Cond.initialized "java/lang/System", Cond.instanceMethod yX0_isDaring, Cond.initialized RX0, Cond.selects RX0 yX0_isDaring yX0_isDaring, Cond.initialized RJ7, Cond.initialized RX1, Cond.instanceMethod yX2_bestGuess, Cond.initialized RX2, Cond.selects RX2 yX2_bestGuess yX2_bestGuess, Cond.initialized RX10, Cond.initialized RX5, Cond.static yJ6_bitCount_0f7a4, Cond.initialized RJ6, Cond.initialized "java/lang/Math", Cond.instanceMethod yX0_sendBy, Cond.selects RX0 yX0_sendBy yX0_sendBy, Cond.methodLink RX10 244 yX10_partiesThatAre, Cond.instanceMethod yX10_partiesThatAre, Cond.selects RX10 yX10_partiesThatAre yX10_partiesThatAre, Cond.methodLink RX10 247 yJ6_bitCount_0f7a4]
noncomputable def wsX10_allGo : List Cond := .code yX10_allGo cX10_allGo 4 (some .int) :: ((wsX10_allGo_o ++ (wsX6_copyFrom ++ (wsX0_isDaring ++ (wsX2_bestGuess ++ (wsX0_sendBy ++ (wsX10_partiesThatAre ++ wsJ6_bitCount_0f7a4)))))) ++ wsX100 ++ wsX50 ++ wsX60 ++ wsX00 ++ wsX10 ++ wsX20)
set_option maxRecDepth 20000 in
theorem gd_wsX10_allGo : gdl wsX10_allGo := gdl_cons (by decide +kernel) (gdl_app (gdl_app (gdl_app (gdl_app (gdl_app (gdl_app (gdl_app (gdl_dec (by decide +kernel)) (gdl_app gd_wsX6_copyFrom (gdl_app gd_wsX0_isDaring (gdl_app gd_wsX2_bestGuess (gdl_app gd_wsX0_sendBy (gdl_app gd_wsX10_partiesThatAre gd_wsJ6_bitCount_0f7a4)))))) gd_wsX100) gd_wsX50) gd_wsX60) gd_wsX00) gd_wsX10) gd_wsX20)
noncomputable def wsX10_darers_o : List Cond := [Cond.fieldLink RX10 19 "GuessFerry" "sound" "LGuessFerry$Sound;", Cond.fieldLink RX10 35 "GuessFerry" "now" "LGuessFerry$Standing;", Cond.fieldLink RX10 54 "GuessFerry" "crossing" "LGuessFerry$Crossing;", Cond.instanceMethod yX0_isDaring, Cond.initialized RX0, Cond.selects RX0 yX0_isDaring yX0_isDaring]
noncomputable def wsX10_darers : List Cond := .code yX10_darers cX10_darers 3 (some .int) :: ((wsX10_darers_o ++ wsX0_isDaring) ++ wsX100 ++ wsX50 ++ wsX60 ++ wsX00 ++ wsX10)
set_option maxRecDepth 20000 in
theorem gd_wsX10_darers : gdl wsX10_darers := gdl_cons (by decide +kernel) (gdl_app (gdl_app (gdl_app (gdl_app (gdl_app (gdl_app (gdl_dec (by decide +kernel)) gd_wsX0_isDaring) gd_wsX100) gd_wsX50) gd_wsX60) gd_wsX00) gd_wsX10)
noncomputable def wsX10_open_o : List Cond := [.fieldLink RX10 19 "GuessFerry" "sound" "LGuessFerry$Sound;", .fieldLink RX10 54 "GuessFerry" "crossing" "LGuessFerry$Crossing;", .fieldLink RX10 35 "GuessFerry" "now" "LGuessFerry$Standing;", .instanceMethod yX0_mayBe, .initialized RX0, .selects RX0 yX0_mayBe yX0_mayBe, .methodLink RX10 247 yJ6_bitCount_0f7a4, .static yJ6_bitCount_0f7a4, .initialized RJ6]
noncomputable def wsX10_open : List Cond := .code yX10_open cX10_open 3 (some .int) :: ((wsX10_open_o ++ (wsX0_mayBe ++ wsJ6_bitCount_0f7a4)) ++ wsX100 ++ wsX50 ++ wsX60 ++ wsX00)
set_option maxRecDepth 20000 in
theorem gd_wsX10_open : gdl wsX10_open := gdl_cons (by decide +kernel) (gdl_app (gdl_app (gdl_app (gdl_app (gdl_app (gdl_dec (by decide +kernel)) (gdl_app gd_wsX0_mayBe gd_wsJ6_bitCount_0f7a4)) gd_wsX100) gd_wsX50) gd_wsX60) gd_wsX00)
noncomputable def wsX10_then_o : List Cond := [Cond.fieldLink RX10 19 "GuessFerry" "sound" "LGuessFerry$Sound;", Cond.fieldLink RX10 39 "GuessFerry" "trial" "LGuessFerry$Standing;", Cond.fieldLink RX10 35 "GuessFerry" "now" "LGuessFerry$Standing;", Cond.fieldLink RX10 54 "GuessFerry" "crossing" "LGuessFerry$Crossing;", Cond.instanceMethod yX5_hasWave, Cond.initialized RX5, Cond.selects RX5 yX5_hasWave yX5_hasWave, Cond.instanceMethod yX6_copyFrom, Cond.initialized RX6, Cond.selects RX6 yX6_copyFrom yX6_copyFrom, Cond.instanceMethod yX0_passYears, Cond.initialized RX0, Cond.selects RX0 yX0_passYears yX0_passYears, Cond.instanceMethod yX0_mayBe, Cond.selects RX0 yX0_mayBe yX0_mayBe, Cond.instanceMethod yX0_thereNow, Cond.selects RX0 yX0_thereNow yX0_thereNow]
noncomputable def wsX10_then : List Cond := .code yX10_then cX10_then 4 (some .int) :: ((wsX10_then_o ++ (wsX5_hasWave ++ (wsX6_copyFrom ++ (wsX0_passYears ++ (wsX0_mayBe ++ wsX0_thereNow))))) ++ wsX100 ++ wsX60 ++ wsX50 ++ wsX00 ++ wsX10)
set_option maxRecDepth 20000 in
theorem gd_wsX10_then : gdl wsX10_then := gdl_cons (by decide +kernel) (gdl_app (gdl_app (gdl_app (gdl_app (gdl_app (gdl_app (gdl_dec (by decide +kernel)) (gdl_app gd_wsX5_hasWave (gdl_app gd_wsX6_copyFrom (gdl_app gd_wsX0_passYears (gdl_app gd_wsX0_mayBe gd_wsX0_thereNow))))) gd_wsX100) gd_wsX60) gd_wsX50) gd_wsX00) gd_wsX10)
noncomputable def wsX10_next_o : List Cond := [Cond.fieldLink RX10 19 "GuessFerry" "sound" "LGuessFerry$Sound;", Cond.fieldLink RX10 39 "GuessFerry" "trial" "LGuessFerry$Standing;", Cond.fieldLink RX10 35 "GuessFerry" "now" "LGuessFerry$Standing;", Cond.fieldLink RX10 54 "GuessFerry" "crossing" "LGuessFerry$Crossing;", Cond.instanceMethod yX5_hasWave, Cond.initialized RX5, Cond.selects RX5 yX5_hasWave yX5_hasWave, Cond.instanceMethod yX6_copyFrom, Cond.initialized RX6, Cond.selects RX6 yX6_copyFrom yX6_copyFrom, Cond.instanceMethod yX0_passYears, Cond.initialized RX0, Cond.selects RX0 yX0_passYears yX0_passYears]
noncomputable def wsX10_next : List Cond := .code yX10_next cX10_next 3 (some .int) :: ((wsX10_next_o ++ (wsX5_hasWave ++ (wsX6_copyFrom ++ wsX0_passYears))) ++ wsX100 ++ wsX60 ++ wsX50 ++ wsX00 ++ wsX10)
set_option maxRecDepth 20000 in
theorem gd_wsX10_next : gdl wsX10_next := gdl_cons (by decide +kernel) (gdl_app (gdl_app (gdl_app (gdl_app (gdl_app (gdl_app (gdl_dec (by decide +kernel)) (gdl_app gd_wsX5_hasWave (gdl_app gd_wsX6_copyFrom gd_wsX0_passYears))) gd_wsX100) gd_wsX60) gd_wsX50) gd_wsX00) gd_wsX10)
noncomputable def wsX10_year_o : List Cond := [Cond.fieldLink RX10 19 "GuessFerry" "sound" "LGuessFerry$Sound;", Cond.fieldLink RX10 54 "GuessFerry" "crossing" "LGuessFerry$Crossing;", Cond.fieldLink RX10 35 "GuessFerry" "now" "LGuessFerry$Standing;", Cond.instanceMethod yX5_hasGuess, Cond.initialized RX5, Cond.selects RX5 yX5_hasGuess yX5_hasGuess, Cond.instanceMethod yX0_guessThere, Cond.initialized RX0, Cond.selects RX0 yX0_guessThere yX0_guessThere]
noncomputable def wsX10_year : List Cond := .code yX10_year cX10_year 5 (some .int) :: ((wsX10_year_o ++ (wsX5_hasGuess ++ wsX0_guessThere)) ++ wsX100 ++ wsX50 ++ wsX00 ++ wsX60)
set_option maxRecDepth 20000 in
theorem gd_wsX10_year : gdl wsX10_year := gdl_cons (by decide +kernel) (gdl_app (gdl_app (gdl_app (gdl_app (gdl_app (gdl_dec (by decide +kernel)) (gdl_app gd_wsX5_hasGuess gd_wsX0_guessThere)) gd_wsX100) gd_wsX50) gd_wsX00) gd_wsX60)
noncomputable def wsX10_drawn_o : List Cond := [Cond.fieldLink RX10 19 "GuessFerry" "sound" "LGuessFerry$Sound;", Cond.fieldLink RX10 35 "GuessFerry" "now" "LGuessFerry$Standing;", Cond.instanceMethod yX5_hasWave, Cond.initialized RX5, Cond.selects RX5 yX5_hasWave yX5_hasWave, Cond.instanceMethod yX5_thingThere, Cond.selects RX5 yX5_thingThere yX5_thingThere, Cond.initialized RX10, Cond.methodLink RX10 247 yJ6_bitCount_0f7a4, Cond.static yJ6_bitCount_0f7a4, Cond.initialized RJ6]
noncomputable def wsX10_drawn : List Cond := .code yX10_drawn cX10_drawn 5 (some .int) :: ((wsX10_drawn_o ++ (wsX5_hasWave ++ (wsX5_thingThere ++ wsJ6_bitCount_0f7a4))) ++ wsX100 ++ wsX60 ++ wsX50)
set_option maxRecDepth 20000 in
theorem gd_wsX10_drawn : gdl wsX10_drawn := gdl_cons (by decide +kernel) (gdl_app (gdl_app (gdl_app (gdl_app (gdl_dec (by decide +kernel)) (gdl_app gd_wsX5_hasWave (gdl_app gd_wsX5_thingThere gd_wsJ6_bitCount_0f7a4))) gd_wsX100) gd_wsX60) gd_wsX50)
noncomputable def wsX10_tell_o : List Cond := [.fieldLink RX10 19 "GuessFerry" "sound" "LGuessFerry$Sound;", .fieldLink RX10 70 "GuessFerry" "tellers" "LGuessFerry$Tellers;", .instanceMethod yX5_hasWave, .initialized RX5, .selects RX5 yX5_hasWave yX5_hasWave, .instanceMethod yX8_add, .initialized RX8, .selects RX8 yX8_add yX8_add]
noncomputable def wsX10_tell : List Cond := .code yX10_tell cX10_tell 4 (some .int) :: ((wsX10_tell_o ++ (wsX5_hasWave ++ wsX8_add)) ++ wsX100 ++ wsX50 ++ wsX80)
set_option maxRecDepth 20000 in
theorem gd_wsX10_tell : gdl wsX10_tell := gdl_cons (by decide +kernel) (gdl_app (gdl_app (gdl_app (gdl_app (gdl_dec (by decide +kernel)) (gdl_app gd_wsX5_hasWave gd_wsX8_add)) gd_wsX100) gd_wsX50) gd_wsX80)
noncomputable def wsX10_forget : List Cond := .code yX10_forget cX10_forget 2 (some .int) :: (([.fieldLink RX10 70 "GuessFerry" "tellers" "LGuessFerry$Tellers;"] : List Cond) ++ wsX100 ++ wsX80)
set_option maxRecDepth 20000 in
theorem gd_wsX10_forget : gdl wsX10_forget := gdl_dec (by decide +kernel)
noncomputable def wsX10_fit_o : List Cond := [Cond.fieldLink RX10 70 "GuessFerry" "tellers" "LGuessFerry$Tellers;", Cond.fieldLink RX10 35 "GuessFerry" "now" "LGuessFerry$Standing;", Cond.instanceMethod yX8_areSuch, Cond.initialized RX8, Cond.selects RX8 yX8_areSuch yX8_areSuch, Cond.instanceMethod yX8_believe, Cond.selects RX8 yX8_believe yX8_believe, Cond.instanceMethod yX8_fitting, Cond.selects RX8 yX8_fitting yX8_fitting]
noncomputable def wsX10_fit : List Cond := .code yX10_fit cX10_fit 4 (some .int) :: ((wsX10_fit_o ++ (wsX8_areSuch ++ (wsX8_believe ++ wsX8_fitting))) ++ wsX100 ++ wsX80 ++ wsX50 ++ wsX60 ++ wsX00)
set_option maxRecDepth 20000 in
theorem gd_wsX10_fit : gdl wsX10_fit := gdl_cons (by decide +kernel) (gdl_app (gdl_app (gdl_app (gdl_app (gdl_app (gdl_app (gdl_dec (by decide +kernel)) (gdl_app gd_wsX8_areSuch (gdl_app gd_wsX8_believe gd_wsX8_fitting))) gd_wsX100) gd_wsX80) gd_wsX50) gd_wsX60) gd_wsX00)
noncomputable def wsX10_lie_o : List Cond := [Cond.fieldLink RX10 70 "GuessFerry" "tellers" "LGuessFerry$Tellers;", Cond.fieldLink RX10 35 "GuessFerry" "now" "LGuessFerry$Standing;", Cond.instanceMethod yX8_areSuch, Cond.initialized RX8, Cond.selects RX8 yX8_areSuch yX8_areSuch, Cond.instanceMethod yX8_believe, Cond.selects RX8 yX8_believe yX8_believe, Cond.instanceMethod yX8_liars, Cond.selects RX8 yX8_liars yX8_liars]
noncomputable def wsX10_lie : List Cond := .code yX10_lie cX10_lie 3 (some .int) :: ((wsX10_lie_o ++ (wsX8_areSuch ++ (wsX8_believe ++ wsX8_liars))) ++ wsX100 ++ wsX80 ++ wsX50 ++ wsX60 ++ wsX00)
set_option maxRecDepth 20000 in
theorem gd_wsX10_lie : gdl wsX10_lie := gdl_cons (by decide +kernel) (gdl_app (gdl_app (gdl_app (gdl_app (gdl_app (gdl_app (gdl_dec (by decide +kernel)) (gdl_app gd_wsX8_areSuch (gdl_app gd_wsX8_believe gd_wsX8_liars))) gd_wsX100) gd_wsX80) gd_wsX50) gd_wsX60) gd_wsX00)
noncomputable def wsX10_ask_o : List Cond := [Cond.fieldLink RX10 70 "GuessFerry" "tellers" "LGuessFerry$Tellers;", Cond.fieldLink RX10 35 "GuessFerry" "now" "LGuessFerry$Standing;", Cond.instanceMethod yX8_areSuch, Cond.initialized RX8, Cond.selects RX8 yX8_areSuch yX8_areSuch, Cond.instanceMethod yX8_believe, Cond.selects RX8 yX8_believe yX8_believe, Cond.instanceMethod yX8_waveToAsk, Cond.selects RX8 yX8_waveToAsk yX8_waveToAsk]
noncomputable def wsX10_ask : List Cond := .code yX10_ask cX10_ask 3 (some .int) :: ((wsX10_ask_o ++ (wsX8_areSuch ++ (wsX8_believe ++ wsX8_waveToAsk))) ++ wsX100 ++ wsX80 ++ wsX50 ++ wsX60 ++ wsX00)
set_option maxRecDepth 20000 in
theorem gd_wsX10_ask : gdl wsX10_ask := gdl_cons (by decide +kernel) (gdl_app (gdl_app (gdl_app (gdl_app (gdl_app (gdl_app (gdl_dec (by decide +kernel)) (gdl_app gd_wsX8_areSuch (gdl_app gd_wsX8_believe gd_wsX8_waveToAsk))) gd_wsX100) gd_wsX80) gd_wsX50) gd_wsX60) gd_wsX00)
noncomputable def wsX10_hold_o : List Cond := [.fieldLink RX10 45 "GuessFerry" "past" "LGuessFerry$Past;", .fieldLink RX10 35 "GuessFerry" "now" "LGuessFerry$Standing;", .instanceMethod yX3_keepIn, .initialized RX3, .selects RX3 yX3_keepIn yX3_keepIn]
noncomputable def wsX10_hold : List Cond := .code yX10_hold cX10_hold 2 (some .boolean) :: ((wsX10_hold_o ++ wsX3_keepIn) ++ wsX100 ++ wsX30 ++ wsX60)
set_option maxRecDepth 20000 in
theorem gd_wsX10_hold : gdl wsX10_hold := gdl_cons (by decide +kernel) (gdl_app (gdl_app (gdl_app (gdl_app (gdl_dec (by decide +kernel)) gd_wsX3_keepIn) gd_wsX100) gd_wsX30) gd_wsX60)
noncomputable def wsX10_restore_o : List Cond := [.fieldLink RX10 45 "GuessFerry" "past" "LGuessFerry$Past;", .fieldLink RX10 35 "GuessFerry" "now" "LGuessFerry$Standing;", .instanceMethod yX3_goOnFrom, .initialized RX3, .selects RX3 yX3_goOnFrom yX3_goOnFrom]
noncomputable def wsX10_restore : List Cond := .code yX10_restore cX10_restore 2 (some .boolean) :: ((wsX10_restore_o ++ wsX3_goOnFrom) ++ wsX100 ++ wsX30 ++ wsX60)
set_option maxRecDepth 20000 in
theorem gd_wsX10_restore : gdl wsX10_restore := gdl_cons (by decide +kernel) (gdl_app (gdl_app (gdl_app (gdl_app (gdl_dec (by decide +kernel)) gd_wsX3_goOnFrom) gd_wsX100) gd_wsX30) gd_wsX60)
noncomputable def wsX10_sumOf : List Cond := .code yX10_sumOf cX10_sumOf 3 (some .int) :: ([])
set_option maxRecDepth 20000 in
theorem gd_wsX10_sumOf : gdl wsX10_sumOf := gdl_dec (by decide +kernel)
noncomputable def wsX10_buoysLying_o : List Cond := [.fieldLink RX10 19 "GuessFerry" "sound" "LGuessFerry$Sound;", .fieldLink RX10 35 "GuessFerry" "now" "LGuessFerry$Standing;", .methodLink RX10 247 yJ6_bitCount_0f7a4, .static yJ6_bitCount_0f7a4, .initialized RJ6]
noncomputable def wsX10_buoysLying : List Cond := .code yX10_buoysLying cX10_buoysLying 3 (some .int) :: ((wsX10_buoysLying_o ++ wsJ6_bitCount_0f7a4) ++ wsX100 ++ wsX50 ++ wsX60)
set_option maxRecDepth 20000 in
theorem gd_wsX10_buoysLying : gdl wsX10_buoysLying := gdl_cons (by decide +kernel) (gdl_app (gdl_app (gdl_app (gdl_app (gdl_dec (by decide +kernel)) gd_wsJ6_bitCount_0f7a4) gd_wsX100) gd_wsX50) gd_wsX60)
noncomputable def wsX10_wavesFound : List Cond := .code yX10_wavesFound cX10_wavesFound 3 (some .int) :: (([.fieldLink RX10 19 "GuessFerry" "sound" "LGuessFerry$Sound;", .fieldLink RX10 35 "GuessFerry" "now" "LGuessFerry$Standing;"] : List Cond) ++ wsX100 ++ wsX50 ++ wsX60)
set_option maxRecDepth 20000 in
theorem gd_wsX10_wavesFound : gdl wsX10_wavesFound := gdl_dec (by decide +kernel)
noncomputable def wsX10_wavesWithNothing_o : List Cond := [.fieldLink RX10 19 "GuessFerry" "sound" "LGuessFerry$Sound;", .fieldLink RX10 54 "GuessFerry" "crossing" "LGuessFerry$Crossing;", .fieldLink RX10 35 "GuessFerry" "now" "LGuessFerry$Standing;", .instanceMethod yX0_mayBe, .initialized RX0, .selects RX0 yX0_mayBe yX0_mayBe]
noncomputable def wsX10_wavesWithNothing : List Cond := .code yX10_wavesWithNothing cX10_wavesWithNothing 3 (some .int) :: ((wsX10_wavesWithNothing_o ++ wsX0_mayBe) ++ wsX100 ++ wsX50 ++ wsX60 ++ wsX00)
set_option maxRecDepth 20000 in
theorem gd_wsX10_wavesWithNothing : gdl wsX10_wavesWithNothing := gdl_cons (by decide +kernel) (gdl_app (gdl_app (gdl_app (gdl_app (gdl_app (gdl_dec (by decide +kernel)) gd_wsX0_mayBe) gd_wsX100) gd_wsX50) gd_wsX60) gd_wsX00)
noncomputable def wsX10_faresOfAllHere_o : List Cond := [Cond.fieldLink RX10 19 "GuessFerry" "sound" "LGuessFerry$Sound;", Cond.fieldLink RX10 35 "GuessFerry" "now" "LGuessFerry$Standing;", Cond.fieldLink RX10 54 "GuessFerry" "crossing" "LGuessFerry$Crossing;", Cond.instanceMethod yX0_fareOf, Cond.initialized RX0, Cond.selects RX0 yX0_fareOf yX0_fareOf]
noncomputable def wsX10_faresOfAllHere : List Cond := .code yX10_faresOfAllHere cX10_faresOfAllHere 3 (some .int) :: ((wsX10_faresOfAllHere_o ++ wsX0_fareOf) ++ wsX100 ++ wsX50 ++ wsX60 ++ wsX00 ++ wsX10)
set_option maxRecDepth 20000 in
theorem gd_wsX10_faresOfAllHere : gdl wsX10_faresOfAllHere := gdl_cons (by decide +kernel) (gdl_app (gdl_app (gdl_app (gdl_app (gdl_app (gdl_app (gdl_dec (by decide +kernel)) gd_wsX0_fareOf) gd_wsX100) gd_wsX50) gd_wsX60) gd_wsX00) gd_wsX10)
noncomputable def wsX10_count_o : List Cond := [Cond.fieldLink RX10 19 "GuessFerry" "sound" "LGuessFerry$Sound;", Cond.fieldLink RX10 35 "GuessFerry" "now" "LGuessFerry$Standing;", Cond.fieldLink RX10 10 "GuessFerry" "tape" "LGuessFerry$Tape;", Cond.fieldLink RX10 45 "GuessFerry" "past" "LGuessFerry$Past;", Cond.fieldLink RX10 70 "GuessFerry" "tellers" "LGuessFerry$Tellers;", Cond.fieldLink RX10 54 "GuessFerry" "crossing" "LGuessFerry$Crossing;", Cond.methodLink RX10 244 yX10_partiesThatAre, Cond.instanceMethod yX10_partiesThatAre, Cond.selects RX10 yX10_partiesThatAre yX10_partiesThatAre, Cond.initialized RX10, Cond.methodLink RX10 289 yX10_sumOf, Cond.static yX10_sumOf, Cond.instanceMethod yX3_slotsHeld, Cond.initialized RX3, Cond.selects RX3 yX3_slotsHeld yX3_slotsHeld, Cond.methodLink RX10 299 yX10_buoysLying, Cond.instanceMethod yX10_buoysLying, Cond.selects RX10 yX10_buoysLying yX10_buoysLying, Cond.initialized RJ6, Cond.methodLink RX10 302 yX10_wavesFound, Cond.instanceMethod yX10_wavesFound, Cond.selects RX10 yX10_wavesFound yX10_wavesFound, Cond.instanceMethod yX0_guessThere, Cond.initialized RX0, Cond.selects RX0 yX0_guessThere yX0_guessThere, Cond.initialized RX5, Cond.methodLink RX10 308 yX10_wavesWithNothing, Cond.instanceMethod yX10_wavesWithNothing, Cond.selects RX10 yX10_wavesWithNothing yX10_wavesWithNothing, Cond.methodLink RX10 311 yX10_faresOfAllHere, Cond.instanceMethod yX10_faresOfAllHere, Cond.selects RX10 yX10_faresOfAllHere yX10_faresOfAllHere, Cond.initialized RJ7, Cond.initialized RX1, Cond.initialized "java/lang/Math"]
noncomputable def wsX10_count : List Cond := .code yX10_count cX10_count 2 (some .int) :: ((wsX10_count_o ++ (wsX10_partiesThatAre ++ (wsX10_sumOf ++ (wsX3_slotsHeld ++ (wsX10_buoysLying ++ (wsX10_wavesFound ++ (wsX0_guessThere ++ (wsX10_wavesWithNothing ++ wsX10_faresOfAllHere)))))))) ++ wsX100 ++ wsX50 ++ wsX60 ++ wsX70 ++ wsX30 ++ wsX80 ++ wsX00 ++ wsX10)
set_option maxRecDepth 20000 in
theorem gd_wsX10_count : gdl wsX10_count := gdl_cons (by decide +kernel) (gdl_app (gdl_app (gdl_app (gdl_app (gdl_app (gdl_app (gdl_app (gdl_app (gdl_app (gdl_dec (by decide +kernel)) (gdl_app gd_wsX10_partiesThatAre (gdl_app gd_wsX10_sumOf (gdl_app gd_wsX3_slotsHeld (gdl_app gd_wsX10_buoysLying (gdl_app gd_wsX10_wavesFound (gdl_app gd_wsX0_guessThere (gdl_app gd_wsX10_wavesWithNothing gd_wsX10_faresOfAllHere)))))))) gd_wsX100) gd_wsX50) gd_wsX60) gd_wsX70) gd_wsX30) gd_wsX80) gd_wsX00) gd_wsX10)
noncomputable def wsX11_plain : List Cond := .code yX11_plain cX11_plain 3 none :: (([.fieldLink RX11 40 "GuessFerryModel" "waves" "[I", .fieldLink RX11 49 "GuessFerryModel" "parties" "[I", .fieldLink RX11 58 "GuessFerryModel" "seed" "[I", .fieldLink RX11 61 "GuessFerryModel" "lawFirst" "[I", .fieldLink RX11 64 "GuessFerryModel" "lawLast" "[I"] : List Cond) ++ wsX110)
set_option maxRecDepth 20000 in
theorem gd_wsX11_plain : gdl wsX11_plain := gdl_dec (by decide +kernel)
noncomputable def wsX11_appends : List Cond := .code yX11_appends cX11_appends 3 (some .long) :: ([.constantLong RX11 157 (27)])
set_option maxRecDepth 20000 in
theorem gd_wsX11_appends : gdl wsX11_appends := gdl_dec (by decide +kernel)
noncomputable def wsX11_word_o : List Cond := [.methodLink RX11 159 yX11_appends, .static yX11_appends, .initialized RX11]
noncomputable def wsX11_word : List Cond := .code yX11_word cX11_word 7 (some .long) :: ((wsX11_word_o ++ wsX11_appends))
set_option maxRecDepth 20000 in
theorem gd_wsX11_word : gdl wsX11_word := gdl_cons (by decide +kernel) (gdl_app (gdl_dec (by decide +kernel)) gd_wsX11_appends)
noncomputable def wsX11_begins : List Cond := .code yX11_begins cX11_begins 2 none :: (([.fieldLink RX11 101 "GuessFerryModel" "row" "[I", .fieldLink RX11 104 "GuessFerryModel" "sixes" "[I", .fieldLink RX11 58 "GuessFerryModel" "seed" "[I", .fieldLink RX11 215 "GuessFerryModel" "live" "I", .fieldLink RX11 289 "GuessFerryModel" "lots" "I"] : List Cond) ++ wsX110)
set_option maxRecDepth 20000 in
theorem gd_wsX11_begins : gdl wsX11_begins := gdl_dec (by decide +kernel)
noncomputable def wsX11_keepsRow : List Cond := .code yX11_keepsRow cX11_keepsRow 2 none :: (([.fieldLink RX11 98 "GuessFerryModel" "now" "[I", .fieldLink RX11 101 "GuessFerryModel" "row" "[I"] : List Cond) ++ wsX110)
set_option maxRecDepth 20000 in
theorem gd_wsX11_keepsRow : gdl wsX11_keepsRow := gdl_dec (by decide +kernel)
noncomputable def wsX11_init_o : List Cond := [Cond.methodLink RX11 7 objectInit, Cond.instanceMethod objectInit, Cond.code objectInit ⟨#[0xb1]⟩ 1 none, Cond.arrayClass .byte, Cond.fieldLink RX11 13 "GuessFerryModel" "tape" "[B", Cond.fieldLink RX11 17 "GuessFerryModel" "text" "[B", Cond.arrayClass .int, Cond.fieldLink RX11 20 "GuessFerryModel" "tKind" "[I", Cond.fieldLink RX11 24 "GuessFerryModel" "tPlace" "[I", Cond.fieldLink RX11 27 "GuessFerryModel" "tValue" "[I", Cond.arrayClass .long, Cond.fieldLink RX11 30 "GuessFerryModel" "tName" "[J", Cond.fieldLink RX11 34 "GuessFerryModel" "keys" "[J", Cond.fieldLink RX11 37 "GuessFerryModel" "place" "I", Cond.fieldLink RX11 43 "GuessFerryModel" "oddsOf" "[I", Cond.fieldLink RX11 46 "GuessFerryModel" "nameOf" "[J", Cond.fieldLink RX11 52 "GuessFerryModel" "heavyOf" "[I", Cond.fieldLink RX11 55 "GuessFerryModel" "nerveOf" "[I", Cond.arrayClass .boolean, Cond.fieldLink RX11 67 "GuessFerryModel" "hasTest" "[Z", Cond.fieldLink RX11 71 "GuessFerryModel" "testFrom" "[I", Cond.fieldLink RX11 74 "GuessFerryModel" "testMid" "[I", Cond.fieldLink RX11 77 "GuessFerryModel" "testTo" "[I", Cond.fieldLink RX11 80 "GuessFerryModel" "termTo" "[I", Cond.fieldLink RX11 83 "GuessFerryModel" "code" "[I", Cond.fieldLink RX11 86 "GuessFerryModel" "codeInt" "[I", Cond.fieldLink RX11 89 "GuessFerryModel" "waits" "[I", Cond.fieldLink RX11 92 "GuessFerryModel" "variables" "[I", Cond.fieldLink RX11 95 "GuessFerryModel" "pile" "[I", Cond.fieldLink RX11 107 "GuessFerryModel" "shiftsNow" "[Z", Cond.fieldLink RX11 110 "GuessFerryModel" "history" "[I", Cond.fieldLink RX11 113 "GuessFerryModel" "chanceBy" "[I", Cond.fieldLink RX11 116 "GuessFerryModel" "toldWave" "[I", Cond.fieldLink RX11 119 "GuessFerryModel" "toldThings" "[I", Cond.fieldLink RX11 122 "GuessFerryModel" "toldSo" "[Z", Cond.fieldLink RX11 125 "GuessFerryModel" "fitBy" "[I", Cond.fieldLink RX11 128 "GuessFerryModel" "isHeld" "[Z", Cond.fieldLink RX11 131 "GuessFerryModel" "heldRows" "[I", Cond.methodLink RX11 134 yX11_plain, Cond.instanceMethod yX11_plain, Cond.selects RX11 yX11_plain yX11_plain, Cond.initialized RX11, Cond.methodLink RX11 138 yX11_word, Cond.static yX11_word, Cond.methodLink RX11 142 yX11_begins, Cond.instanceMethod yX11_begins, Cond.selects RX11 yX11_begins yX11_begins, Cond.methodLink RX11 145 yX11_keepsRow, Cond.instanceMethod yX11_keepsRow, Cond.selects RX11 yX11_keepsRow yX11_keepsRow]
noncomputable def wsX11_init : List Cond := .code yX11_init cX11_init 1 none :: ((wsX11_init_o ++ (wsX11_plain ++ (wsX11_word ++ (wsX11_begins ++ wsX11_keepsRow)))) ++ wsX110)
set_option maxRecDepth 20000 in
theorem gd_wsX11_init : gdl wsX11_init := gdl_cons (by decide +kernel) (gdl_app (gdl_app (gdl_dec (by decide +kernel)) (gdl_app gd_wsX11_plain (gdl_app gd_wsX11_word (gdl_app gd_wsX11_begins gd_wsX11_keepsRow)))) gd_wsX110)
noncomputable def wsX11_put : List Cond := .code yX11_put cX11_put 3 none :: (([.fieldLink RX11 13 "GuessFerryModel" "tape" "[B", .fieldLink RX11 148 "GuessFerryModel" "taped" "I"] : List Cond) ++ wsX110)
set_option maxRecDepth 20000 in
theorem gd_wsX11_put : gdl wsX11_put := gdl_dec (by decide +kernel)
noncomputable def wsX11_feed_o : List Cond := [.fieldLink RX11 148 "GuessFerryModel" "taped" "I", .methodLink RX11 151 yX11_put, .instanceMethod yX11_put, .selects RX11 yX11_put yX11_put, .initialized RX11]
noncomputable def wsX11_feed : List Cond := .code yX11_feed cX11_feed 6 (some .int) :: ((wsX11_feed_o ++ wsX11_put) ++ wsX110)
set_option maxRecDepth 20000 in
theorem gd_wsX11_feed : gdl wsX11_feed := gdl_cons (by decide +kernel) (gdl_app (gdl_app (gdl_dec (by decide +kernel)) gd_wsX11_put) gd_wsX110)
noncomputable def wsX11_back : List Cond := .code yX11_back cX11_back 2 (some .int) :: (([.fieldLink RX11 148 "GuessFerryModel" "taped" "I"] : List Cond) ++ wsX110)
set_option maxRecDepth 20000 in
theorem gd_wsX11_back : gdl wsX11_back := gdl_dec (by decide +kernel)
noncomputable def wsX11_byteAt : List Cond := .code yX11_byteAt cX11_byteAt 2 (some .int) :: (([.fieldLink RX11 154 "GuessFerryModel" "size" "I", .fieldLink RX11 17 "GuessFerryModel" "text" "[B"] : List Cond) ++ wsX110)
set_option maxRecDepth 20000 in
theorem gd_wsX11_byteAt : gdl wsX11_byteAt := gdl_dec (by decide +kernel)
noncomputable def wsX11_isDigit : List Cond := .code yX11_isDigit cX11_isDigit 1 (some .boolean) :: ([])
set_option maxRecDepth 20000 in
theorem gd_wsX11_isDigit : gdl wsX11_isDigit := gdl_dec (by decide +kernel)
noncomputable def wsX11_isLetter : List Cond := .code yX11_isLetter cX11_isLetter 1 (some .boolean) :: ([])
set_option maxRecDepth 20000 in
theorem gd_wsX11_isLetter : gdl wsX11_isLetter := gdl_dec (by decide +kernel)
noncomputable def wsX11_token : List Cond := .code yX11_token cX11_token 6 none :: (([.fieldLink RX11 20 "GuessFerryModel" "tKind" "[I", .fieldLink RX11 163 "GuessFerryModel" "tokens" "I", .fieldLink RX11 24 "GuessFerryModel" "tPlace" "[I", .fieldLink RX11 27 "GuessFerryModel" "tValue" "[I", .fieldLink RX11 30 "GuessFerryModel" "tName" "[J"] : List Cond) ++ wsX110)
set_option maxRecDepth 20000 in
theorem gd_wsX11_token : gdl wsX11_token := gdl_dec (by decide +kernel)
noncomputable def wsX11_sign_o : List Cond := [.methodLink RX11 170 yX11_token, .instanceMethod yX11_token, .selects RX11 yX11_token yX11_token, .initialized RX11]
noncomputable def wsX11_sign : List Cond := .code yX11_sign cX11_sign 5 (some .int) :: ((wsX11_sign_o ++ wsX11_token) ++ wsX110)
set_option maxRecDepth 20000 in
theorem gd_wsX11_sign : gdl wsX11_sign := gdl_cons (by decide +kernel) (gdl_app (gdl_app (gdl_dec (by decide +kernel)) gd_wsX11_token) gd_wsX110)
noncomputable def wsX11_cut_o : List Cond := [Cond.fieldLink RX11 163 "GuessFerryModel" "tokens" "I", Cond.fieldLink RX11 154 "GuessFerryModel" "size" "I", Cond.fieldLink RX11 34 "GuessFerryModel" "keys" "[J", Cond.methodLink RX11 166 yX11_byteAt, Cond.instanceMethod yX11_byteAt, Cond.selects RX11 yX11_byteAt yX11_byteAt, Cond.initialized RX11, Cond.methodLink RX11 170 yX11_token, Cond.instanceMethod yX11_token, Cond.selects RX11 yX11_token yX11_token, Cond.methodLink RX11 174 yX11_isLetter, Cond.static yX11_isLetter, Cond.methodLink RX11 159 yX11_appends, Cond.static yX11_appends, Cond.methodLink RX11 178 yX11_isDigit, Cond.static yX11_isDigit, Cond.methodLink RX11 181 yX11_sign, Cond.instanceMethod yX11_sign, Cond.selects RX11 yX11_sign yX11_sign]
noncomputable def wsX11_cut : List Cond := .code yX11_cut cX11_cut 8 none :: ((wsX11_cut_o ++ (wsX11_byteAt ++ (wsX11_token ++ (wsX11_isLetter ++ (wsX11_appends ++ (wsX11_isDigit ++ wsX11_sign)))))) ++ wsX110)
set_option maxRecDepth 20000 in
theorem gd_wsX11_cut : gdl wsX11_cut := gdl_cons (by decide +kernel) (gdl_app (gdl_app (gdl_dec (by decide +kernel)) (gdl_app gd_wsX11_byteAt (gdl_app gd_wsX11_token (gdl_app gd_wsX11_isLetter (gdl_app gd_wsX11_appends (gdl_app gd_wsX11_isDigit gd_wsX11_sign)))))) gd_wsX110)
noncomputable def wsX11_is : List Cond := .code yX11_is cX11_is 2 (some .boolean) :: (([.fieldLink RX11 185 "GuessFerryModel" "fault" "I", .fieldLink RX11 20 "GuessFerryModel" "tKind" "[I", .fieldLink RX11 188 "GuessFerryModel" "t" "I"] : List Cond) ++ wsX110)
set_option maxRecDepth 20000 in
theorem gd_wsX11_is : gdl wsX11_is := gdl_dec (by decide +kernel)
noncomputable def wsX11_fail : List Cond := .code yX11_fail cX11_fail 2 none :: (([.fieldLink RX11 185 "GuessFerryModel" "fault" "I", .fieldLink RX11 24 "GuessFerryModel" "tPlace" "[I", .fieldLink RX11 188 "GuessFerryModel" "t" "I", .fieldLink RX11 191 "GuessFerryModel" "faultPlace" "I"] : List Cond) ++ wsX110)
set_option maxRecDepth 20000 in
theorem gd_wsX11_fail : gdl wsX11_fail := gdl_dec (by decide +kernel)
noncomputable def wsX11_wrong : List Cond := .code yX11_wrong cX11_wrong 4 none :: (([.fieldLink RX11 24 "GuessFerryModel" "tPlace" "[I", .fieldLink RX11 185 "GuessFerryModel" "fault" "I", .fieldLink RX11 194 "GuessFerryModel" "worst" "I", .fieldLink RX11 197 "GuessFerryModel" "worstPlace" "I"] : List Cond) ++ wsX110)
set_option maxRecDepth 20000 in
theorem gd_wsX11_wrong : gdl wsX11_wrong := gdl_dec (by decide +kernel)
noncomputable def wsX11_goesOn_o : List Cond := [.fieldLink RX11 188 "GuessFerryModel" "t" "I", .methodLink RX11 200 yX11_fail, .instanceMethod yX11_fail, .selects RX11 yX11_fail yX11_fail, .initialized RX11]
noncomputable def wsX11_goesOn : List Cond := .code yX11_goesOn cX11_goesOn 1 none :: ((wsX11_goesOn_o ++ wsX11_fail) ++ wsX110)
set_option maxRecDepth 20000 in
theorem gd_wsX11_goesOn : gdl wsX11_goesOn := gdl_cons (by decide +kernel) (gdl_app (gdl_app (gdl_dec (by decide +kernel)) gd_wsX11_fail) gd_wsX110)
noncomputable def wsX11_must_o : List Cond := [.methodLink RX11 203 yX11_is, .instanceMethod yX11_is, .selects RX11 yX11_is yX11_is, .initialized RX11, .methodLink RX11 206 yX11_goesOn, .instanceMethod yX11_goesOn, .selects RX11 yX11_goesOn yX11_goesOn, .methodLink RX11 200 yX11_fail, .instanceMethod yX11_fail, .selects RX11 yX11_fail yX11_fail]
noncomputable def wsX11_must : List Cond := .code yX11_must cX11_must 2 none :: ((wsX11_must_o ++ (wsX11_is ++ (wsX11_goesOn ++ wsX11_fail))) ++ wsX110)
set_option maxRecDepth 20000 in
theorem gd_wsX11_must : gdl wsX11_must := gdl_cons (by decide +kernel) (gdl_app (gdl_app (gdl_dec (by decide +kernel)) (gdl_app gd_wsX11_is (gdl_app gd_wsX11_goesOn gd_wsX11_fail))) gd_wsX110)
noncomputable def wsX11_roomFor_o : List Cond := [.fieldLink RX11 185 "GuessFerryModel" "fault" "I", .methodLink RX11 200 yX11_fail, .instanceMethod yX11_fail, .selects RX11 yX11_fail yX11_fail, .initialized RX11, .methodLink RX11 206 yX11_goesOn, .instanceMethod yX11_goesOn, .selects RX11 yX11_goesOn yX11_goesOn]
noncomputable def wsX11_roomFor : List Cond := .code yX11_roomFor cX11_roomFor 3 none :: ((wsX11_roomFor_o ++ (wsX11_fail ++ wsX11_goesOn)) ++ wsX110)
set_option maxRecDepth 20000 in
theorem gd_wsX11_roomFor : gdl wsX11_roomFor := gdl_cons (by decide +kernel) (gdl_app (gdl_app (gdl_dec (by decide +kernel)) (gdl_app gd_wsX11_fail gd_wsX11_goesOn)) gd_wsX110)
noncomputable def wsX11_bounded_o : List Cond := [Cond.fieldLink RX11 185 "GuessFerryModel" "fault" "I", Cond.fieldLink RX11 27 "GuessFerryModel" "tValue" "[I", Cond.fieldLink RX11 188 "GuessFerryModel" "t" "I", Cond.methodLink RX11 203 yX11_is, Cond.instanceMethod yX11_is, Cond.selects RX11 yX11_is yX11_is, Cond.initialized RX11, Cond.methodLink RX11 200 yX11_fail, Cond.instanceMethod yX11_fail, Cond.selects RX11 yX11_fail yX11_fail, Cond.methodLink RX11 255 yX11_wrong, Cond.instanceMethod yX11_wrong, Cond.selects RX11 yX11_wrong yX11_wrong, Cond.methodLink RX11 206 yX11_goesOn, Cond.instanceMethod yX11_goesOn, Cond.selects RX11 yX11_goesOn yX11_goesOn]
noncomputable def wsX11_bounded : List Cond := .code yX11_bounded cX11_bounded 3 (some .int) :: ((wsX11_bounded_o ++ (wsX11_is ++ (wsX11_fail ++ (wsX11_wrong ++ wsX11_goesOn)))) ++ wsX110)
set_option maxRecDepth 20000 in
theorem gd_wsX11_bounded : gdl wsX11_bounded := gdl_cons (by decide +kernel) (gdl_app (gdl_app (gdl_dec (by decide +kernel)) (gdl_app gd_wsX11_is (gdl_app gd_wsX11_fail (gdl_app gd_wsX11_wrong gd_wsX11_goesOn)))) gd_wsX110)
noncomputable def wsX11_tellWave_o : List Cond := [Cond.fieldLink RX11 218 "GuessFerryModel" "side" "I", Cond.fieldLink RX11 40 "GuessFerryModel" "waves" "[I", Cond.fieldLink RX11 188 "GuessFerryModel" "t" "I", Cond.fieldLink RX11 43 "GuessFerryModel" "oddsOf" "[I", Cond.fieldLink RX11 185 "GuessFerryModel" "fault" "I", Cond.methodLink RX11 246 yX11_bounded, Cond.instanceMethod yX11_bounded, Cond.selects RX11 yX11_bounded yX11_bounded, Cond.initialized RX11, Cond.methodLink RX11 255 yX11_wrong, Cond.instanceMethod yX11_wrong, Cond.selects RX11 yX11_wrong yX11_wrong, Cond.methodLink RX11 249 yX11_must, Cond.instanceMethod yX11_must, Cond.selects RX11 yX11_must yX11_must]
noncomputable def wsX11_tellWave : List Cond := .code yX11_tellWave cX11_tellWave 5 none :: ((wsX11_tellWave_o ++ (wsX11_bounded ++ (wsX11_wrong ++ wsX11_must))) ++ wsX110)
set_option maxRecDepth 20000 in
theorem gd_wsX11_tellWave : gdl wsX11_tellWave := gdl_cons (by decide +kernel) (gdl_app (gdl_app (gdl_dec (by decide +kernel)) (gdl_app gd_wsX11_bounded (gdl_app gd_wsX11_wrong gd_wsX11_must))) gd_wsX110)
noncomputable def wsX11_tellParty_o : List Cond := [Cond.fieldLink RX11 218 "GuessFerryModel" "side" "I", Cond.fieldLink RX11 49 "GuessFerryModel" "parties" "[I", Cond.fieldLink RX11 188 "GuessFerryModel" "t" "I", Cond.fieldLink RX11 185 "GuessFerryModel" "fault" "I", Cond.fieldLink RX11 46 "GuessFerryModel" "nameOf" "[J", Cond.fieldLink RX11 30 "GuessFerryModel" "tName" "[J", Cond.fieldLink RX11 52 "GuessFerryModel" "heavyOf" "[I", Cond.fieldLink RX11 55 "GuessFerryModel" "nerveOf" "[I", Cond.methodLink RX11 249 yX11_must, Cond.instanceMethod yX11_must, Cond.selects RX11 yX11_must yX11_must, Cond.initialized RX11, Cond.methodLink RX11 255 yX11_wrong, Cond.instanceMethod yX11_wrong, Cond.selects RX11 yX11_wrong yX11_wrong, Cond.methodLink RX11 246 yX11_bounded, Cond.instanceMethod yX11_bounded, Cond.selects RX11 yX11_bounded yX11_bounded]
noncomputable def wsX11_tellParty : List Cond := .code yX11_tellParty cX11_tellParty 4 none :: ((wsX11_tellParty_o ++ (wsX11_must ++ (wsX11_wrong ++ wsX11_bounded))) ++ wsX110)
set_option maxRecDepth 20000 in
theorem gd_wsX11_tellParty : gdl wsX11_tellParty := gdl_cons (by decide +kernel) (gdl_app (gdl_app (gdl_dec (by decide +kernel)) (gdl_app gd_wsX11_must (gdl_app gd_wsX11_wrong gd_wsX11_bounded))) gd_wsX110)
noncomputable def wsX11_emit : List Cond := .code yX11_emit cX11_emit 3 none :: (([.fieldLink RX11 83 "GuessFerryModel" "code" "[I", .fieldLink RX11 224 "GuessFerryModel" "codes" "I", .fieldLink RX11 86 "GuessFerryModel" "codeInt" "[I"] : List Cond) ++ wsX110)
set_option maxRecDepth 20000 in
theorem gd_wsX11_emit : gdl wsX11_emit := gdl_dec (by decide +kernel)
noncomputable def wsX11_unit_o : List Cond := [Cond.fieldLink RX11 27 "GuessFerryModel" "tValue" "[I", Cond.fieldLink RX11 188 "GuessFerryModel" "t" "I", Cond.fieldLink RX11 185 "GuessFerryModel" "fault" "I", Cond.fieldLink RX11 20 "GuessFerryModel" "tKind" "[I", Cond.methodLink RX11 203 yX11_is, Cond.instanceMethod yX11_is, Cond.selects RX11 yX11_is yX11_is, Cond.initialized RX11, Cond.methodLink RX11 267 yX11_emit, Cond.instanceMethod yX11_emit, Cond.selects RX11 yX11_emit yX11_emit, Cond.methodLink RX11 206 yX11_goesOn, Cond.instanceMethod yX11_goesOn, Cond.selects RX11 yX11_goesOn yX11_goesOn, Cond.methodLink RX11 200 yX11_fail, Cond.instanceMethod yX11_fail, Cond.selects RX11 yX11_fail yX11_fail]
noncomputable def wsX11_unit : List Cond := .code yX11_unit cX11_unit 1 none :: ((wsX11_unit_o ++ (wsX11_is ++ (wsX11_emit ++ (wsX11_goesOn ++ wsX11_fail)))) ++ wsX110)
set_option maxRecDepth 20000 in
theorem gd_wsX11_unit : gdl wsX11_unit := gdl_cons (by decide +kernel) (gdl_app (gdl_app (gdl_dec (by decide +kernel)) (gdl_app gd_wsX11_is (gdl_app gd_wsX11_emit (gdl_app gd_wsX11_goesOn gd_wsX11_fail)))) gd_wsX110)
noncomputable def wsX11_comesOut_o : List Cond := [.fieldLink RX11 264 "GuessFerryModel" "waiting" "I", .fieldLink RX11 89 "GuessFerryModel" "waits" "[I", .methodLink RX11 267 yX11_emit, .instanceMethod yX11_emit, .selects RX11 yX11_emit yX11_emit, .initialized RX11]
noncomputable def wsX11_comesOut : List Cond := .code yX11_comesOut cX11_comesOut 3 none :: ((wsX11_comesOut_o ++ wsX11_emit) ++ wsX110)
set_option maxRecDepth 20000 in
theorem gd_wsX11_comesOut : gdl wsX11_comesOut := gdl_cons (by decide +kernel) (gdl_app (gdl_app (gdl_dec (by decide +kernel)) gd_wsX11_emit) gd_wsX110)
noncomputable def wsX11_expression_o : List Cond := [Cond.fieldLink RX11 264 "GuessFerryModel" "waiting" "I", Cond.fieldLink RX11 212 "GuessFerryModel" "open" "I", Cond.fieldLink RX11 185 "GuessFerryModel" "fault" "I", Cond.fieldLink RX11 89 "GuessFerryModel" "waits" "[I", Cond.fieldLink RX11 20 "GuessFerryModel" "tKind" "[I", Cond.fieldLink RX11 188 "GuessFerryModel" "t" "I", Cond.methodLink RX11 203 yX11_is, Cond.instanceMethod yX11_is, Cond.selects RX11 yX11_is yX11_is, Cond.initialized RX11, Cond.methodLink RX11 200 yX11_fail, Cond.instanceMethod yX11_fail, Cond.selects RX11 yX11_fail yX11_fail, Cond.methodLink RX11 206 yX11_goesOn, Cond.instanceMethod yX11_goesOn, Cond.selects RX11 yX11_goesOn yX11_goesOn, Cond.methodLink RX11 270 yX11_unit, Cond.instanceMethod yX11_unit, Cond.selects RX11 yX11_unit yX11_unit, Cond.methodLink RX11 273 yX11_comesOut, Cond.instanceMethod yX11_comesOut, Cond.selects RX11 yX11_comesOut yX11_comesOut]
noncomputable def wsX11_expression : List Cond := .code yX11_expression cX11_expression 3 none :: ((wsX11_expression_o ++ (wsX11_is ++ (wsX11_fail ++ (wsX11_goesOn ++ (wsX11_unit ++ wsX11_comesOut))))) ++ wsX110)
set_option maxRecDepth 20000 in
theorem gd_wsX11_expression : gdl wsX11_expression := gdl_cons (by decide +kernel) (gdl_app (gdl_app (gdl_dec (by decide +kernel)) (gdl_app gd_wsX11_is (gdl_app gd_wsX11_fail (gdl_app gd_wsX11_goesOn (gdl_app gd_wsX11_unit gd_wsX11_comesOut))))) gd_wsX110)
noncomputable def wsX11_term_o : List Cond := [Cond.fieldLink RX11 77 "GuessFerryModel" "testTo" "[I", Cond.fieldLink RX11 221 "GuessFerryModel" "branches" "I", Cond.fieldLink RX11 224 "GuessFerryModel" "codes" "I", Cond.fieldLink RX11 185 "GuessFerryModel" "fault" "I", Cond.fieldLink RX11 80 "GuessFerryModel" "termTo" "[I", Cond.methodLink RX11 258 yX11_expression, Cond.instanceMethod yX11_expression, Cond.selects RX11 yX11_expression yX11_expression, Cond.initialized RX11]
noncomputable def wsX11_term : List Cond := .code yX11_term cX11_term 1 none :: ((wsX11_term_o ++ wsX11_expression) ++ wsX110)
set_option maxRecDepth 20000 in
theorem gd_wsX11_term : gdl wsX11_term := gdl_cons (by decide +kernel) (gdl_app (gdl_app (gdl_dec (by decide +kernel)) gd_wsX11_expression) gd_wsX110)
noncomputable def wsX11_tellLaw_o : List Cond := [Cond.fieldLink RX11 221 "GuessFerryModel" "branches" "I", Cond.fieldLink RX11 185 "GuessFerryModel" "fault" "I", Cond.fieldLink RX11 67 "GuessFerryModel" "hasTest" "[Z", Cond.fieldLink RX11 71 "GuessFerryModel" "testFrom" "[I", Cond.fieldLink RX11 224 "GuessFerryModel" "codes" "I", Cond.fieldLink RX11 74 "GuessFerryModel" "testMid" "[I", Cond.fieldLink RX11 61 "GuessFerryModel" "lawFirst" "[I", Cond.fieldLink RX11 218 "GuessFerryModel" "side" "I", Cond.fieldLink RX11 64 "GuessFerryModel" "lawLast" "[I", Cond.methodLink RX11 249 yX11_must, Cond.instanceMethod yX11_must, Cond.selects RX11 yX11_must yX11_must, Cond.initialized RX11, Cond.methodLink RX11 203 yX11_is, Cond.instanceMethod yX11_is, Cond.selects RX11 yX11_is yX11_is, Cond.methodLink RX11 206 yX11_goesOn, Cond.instanceMethod yX11_goesOn, Cond.selects RX11 yX11_goesOn yX11_goesOn, Cond.methodLink RX11 200 yX11_fail, Cond.instanceMethod yX11_fail, Cond.selects RX11 yX11_fail yX11_fail, Cond.methodLink RX11 258 yX11_expression, Cond.instanceMethod yX11_expression, Cond.selects RX11 yX11_expression yX11_expression, Cond.methodLink RX11 261 yX11_term, Cond.instanceMethod yX11_term, Cond.selects RX11 yX11_term yX11_term]
noncomputable def wsX11_tellLaw : List Cond := .code yX11_tellLaw cX11_tellLaw 4 none :: ((wsX11_tellLaw_o ++ (wsX11_must ++ (wsX11_is ++ (wsX11_fail ++ (wsX11_goesOn ++ (wsX11_expression ++ wsX11_term)))))) ++ wsX110)
set_option maxRecDepth 20000 in
theorem gd_wsX11_tellLaw : gdl wsX11_tellLaw := gdl_cons (by decide +kernel) (gdl_app (gdl_app (gdl_dec (by decide +kernel)) (gdl_app gd_wsX11_must (gdl_app gd_wsX11_is (gdl_app gd_wsX11_fail (gdl_app gd_wsX11_goesOn (gdl_app gd_wsX11_expression gd_wsX11_term)))))) gd_wsX110)
noncomputable def wsX11_tellOne_o : List Cond := [Cond.fieldLink RX11 20 "GuessFerryModel" "tKind" "[I", Cond.fieldLink RX11 188 "GuessFerryModel" "t" "I", Cond.fieldLink RX11 40 "GuessFerryModel" "waves" "[I", Cond.fieldLink RX11 218 "GuessFerryModel" "side" "I", Cond.fieldLink RX11 185 "GuessFerryModel" "fault" "I", Cond.fieldLink RX11 49 "GuessFerryModel" "parties" "[I", Cond.fieldLink RX11 58 "GuessFerryModel" "seed" "[I", Cond.methodLink RX11 236 yX11_roomFor, Cond.instanceMethod yX11_roomFor, Cond.selects RX11 yX11_roomFor yX11_roomFor, Cond.initialized RX11, Cond.methodLink RX11 200 yX11_fail, Cond.instanceMethod yX11_fail, Cond.selects RX11 yX11_fail yX11_fail, Cond.methodLink RX11 206 yX11_goesOn, Cond.instanceMethod yX11_goesOn, Cond.selects RX11 yX11_goesOn yX11_goesOn, Cond.methodLink RX11 240 yX11_tellWave, Cond.instanceMethod yX11_tellWave, Cond.selects RX11 yX11_tellWave yX11_tellWave, Cond.methodLink RX11 246 yX11_bounded, Cond.instanceMethod yX11_bounded, Cond.selects RX11 yX11_bounded yX11_bounded, Cond.methodLink RX11 249 yX11_must, Cond.instanceMethod yX11_must, Cond.selects RX11 yX11_must yX11_must, Cond.methodLink RX11 243 yX11_tellParty, Cond.instanceMethod yX11_tellParty, Cond.selects RX11 yX11_tellParty yX11_tellParty, Cond.methodLink RX11 252 yX11_tellLaw, Cond.instanceMethod yX11_tellLaw, Cond.selects RX11 yX11_tellLaw yX11_tellLaw]
noncomputable def wsX11_tellOne : List Cond := .code yX11_tellOne cX11_tellOne 2 none :: ((wsX11_tellOne_o ++ (wsX11_roomFor ++ (wsX11_tellWave ++ (wsX11_tellParty ++ (wsX11_goesOn ++ (wsX11_bounded ++ (wsX11_must ++ (wsX11_fail ++ wsX11_tellLaw)))))))) ++ wsX110)
set_option maxRecDepth 20000 in
theorem gd_wsX11_tellOne : gdl wsX11_tellOne := gdl_cons (by decide +kernel) (gdl_app (gdl_app (gdl_dec (by decide +kernel)) (gdl_app gd_wsX11_roomFor (gdl_app gd_wsX11_tellWave (gdl_app gd_wsX11_tellParty (gdl_app gd_wsX11_goesOn (gdl_app gd_wsX11_bounded (gdl_app gd_wsX11_must (gdl_app gd_wsX11_fail gd_wsX11_tellLaw)))))))) gd_wsX110)
noncomputable def wsX11_read_o : List Cond := [Cond.fieldLink RX11 148 "GuessFerryModel" "taped" "I", Cond.fieldLink RX11 154 "GuessFerryModel" "size" "I", Cond.fieldLink RX11 17 "GuessFerryModel" "text" "[B", Cond.fieldLink RX11 13 "GuessFerryModel" "tape" "[B", Cond.fieldLink RX11 188 "GuessFerryModel" "t" "I", Cond.fieldLink RX11 212 "GuessFerryModel" "open" "I", Cond.fieldLink RX11 185 "GuessFerryModel" "fault" "I", Cond.fieldLink RX11 194 "GuessFerryModel" "worst" "I", Cond.fieldLink RX11 215 "GuessFerryModel" "live" "I", Cond.fieldLink RX11 218 "GuessFerryModel" "side" "I", Cond.fieldLink RX11 221 "GuessFerryModel" "branches" "I", Cond.fieldLink RX11 224 "GuessFerryModel" "codes" "I", Cond.fieldLink RX11 191 "GuessFerryModel" "faultPlace" "I", Cond.fieldLink RX11 197 "GuessFerryModel" "worstPlace" "I", Cond.fieldLink RX11 37 "GuessFerryModel" "place" "I", Cond.fieldLink RX11 230 "GuessFerryModel" "undos" "I", Cond.fieldLink RX11 233 "GuessFerryModel" "tolds" "I", Cond.fieldLink RX11 128 "GuessFerryModel" "isHeld" "[Z", Cond.methodLink RX11 209 yX11_cut, Cond.instanceMethod yX11_cut, Cond.selects RX11 yX11_cut yX11_cut, Cond.initialized RX11, Cond.methodLink RX11 134 yX11_plain, Cond.instanceMethod yX11_plain, Cond.selects RX11 yX11_plain yX11_plain, Cond.methodLink RX11 203 yX11_is, Cond.instanceMethod yX11_is, Cond.selects RX11 yX11_is yX11_is, Cond.methodLink RX11 227 yX11_tellOne, Cond.instanceMethod yX11_tellOne, Cond.selects RX11 yX11_tellOne yX11_tellOne, Cond.methodLink RX11 142 yX11_begins, Cond.instanceMethod yX11_begins, Cond.selects RX11 yX11_begins yX11_begins, Cond.methodLink RX11 145 yX11_keepsRow, Cond.instanceMethod yX11_keepsRow, Cond.selects RX11 yX11_keepsRow yX11_keepsRow]
noncomputable def wsX11_read : List Cond := .code yX11_read cX11_read 2 (some .int) :: ((wsX11_read_o ++ (wsX11_cut ++ (wsX11_plain ++ (wsX11_is ++ (wsX11_tellOne ++ (wsX11_begins ++ wsX11_keepsRow)))))) ++ wsX110)
set_option maxRecDepth 20000 in
theorem gd_wsX11_read : gdl wsX11_read := gdl_cons (by decide +kernel) (gdl_app (gdl_app (gdl_dec (by decide +kernel)) (gdl_app gd_wsX11_cut (gdl_app gd_wsX11_plain (gdl_app gd_wsX11_is (gdl_app gd_wsX11_tellOne (gdl_app gd_wsX11_begins gd_wsX11_keepsRow)))))) gd_wsX110)
noncomputable def wsX11_place : List Cond := .code yX11_place cX11_place 1 (some .int) :: (([.fieldLink RX11 37 "GuessFerryModel" "place" "I"] : List Cond) ++ wsX110)
set_option maxRecDepth 20000 in
theorem gd_wsX11_place : gdl wsX11_place := gdl_dec (by decide +kernel)
noncomputable def wsX11_termOf : List Cond := .code yX11_termOf cX11_termOf 8 (some .int) :: (([.fieldLink RX11 83 "GuessFerryModel" "code" "[I", .fieldLink RX11 95 "GuessFerryModel" "pile" "[I", .fieldLink RX11 86 "GuessFerryModel" "codeInt" "[I", .fieldLink RX11 92 "GuessFerryModel" "variables" "[I", .fieldLink RX11 277 "GuessFerryModel" "isBroken" "Z"] : List Cond) ++ wsX110)
set_option maxRecDepth 20000 in
theorem gd_wsX11_termOf : gdl wsX11_termOf := gdl_dec (by decide +kernel)
noncomputable def wsX11_in : List Cond := .code yX11_in cX11_in 3 (some .boolean) :: ([])
set_option maxRecDepth 20000 in
theorem gd_wsX11_in : gdl wsX11_in := gdl_dec (by decide +kernel)
noncomputable def wsX11_within : List Cond := .code yX11_within cX11_within 3 (some .int) :: ([])
set_option maxRecDepth 20000 in
theorem gd_wsX11_within : gdl wsX11_within := gdl_dec (by decide +kernel)
noncomputable def wsX11_bits : List Cond := .code yX11_bits cX11_bits 3 (some .int) :: ([])
set_option maxRecDepth 20000 in
theorem gd_wsX11_bits : gdl wsX11_bits := gdl_dec (by decide +kernel)
noncomputable def wsX11_isWave_o : List Cond := [.fieldLink RX11 40 "GuessFerryModel" "waves" "[I", .fieldLink RX11 215 "GuessFerryModel" "live" "I", .methodLink RX11 281 yX11_in, .static yX11_in, .initialized RX11]
noncomputable def wsX11_isWave : List Cond := .code yX11_isWave cX11_isWave 2 (some .boolean) :: ((wsX11_isWave_o ++ wsX11_in) ++ wsX110)
set_option maxRecDepth 20000 in
theorem gd_wsX11_isWave : gdl wsX11_isWave := gdl_cons (by decide +kernel) (gdl_app (gdl_app (gdl_dec (by decide +kernel)) gd_wsX11_in) gd_wsX110)
noncomputable def wsX11_isParty_o : List Cond := [.fieldLink RX11 49 "GuessFerryModel" "parties" "[I", .fieldLink RX11 215 "GuessFerryModel" "live" "I", .methodLink RX11 281 yX11_in, .static yX11_in, .initialized RX11]
noncomputable def wsX11_isParty : List Cond := .code yX11_isParty cX11_isParty 2 (some .boolean) :: ((wsX11_isParty_o ++ wsX11_in) ++ wsX110)
set_option maxRecDepth 20000 in
theorem gd_wsX11_isParty : gdl wsX11_isParty := gdl_cons (by decide +kernel) (gdl_app (gdl_app (gdl_dec (by decide +kernel)) gd_wsX11_in) gd_wsX110)
noncomputable def wsX11_guesses : List Cond := .code yX11_guesses cX11_guesses 1 (some .int) :: (([.fieldLink RX11 104 "GuessFerryModel" "sixes" "[I", .fieldLink RX11 40 "GuessFerryModel" "waves" "[I", .fieldLink RX11 215 "GuessFerryModel" "live" "I"] : List Cond) ++ wsX110)
set_option maxRecDepth 20000 in
theorem gd_wsX11_guesses : gdl wsX11_guesses := gdl_dec (by decide +kernel)
noncomputable def wsX11_isGuess_o : List Cond := [.methodLink RX11 285 yX11_guesses, .instanceMethod yX11_guesses, .selects RX11 yX11_guesses yX11_guesses, .initialized RX11, .methodLink RX11 281 yX11_in, .static yX11_in]
noncomputable def wsX11_isGuess : List Cond := .code yX11_isGuess cX11_isGuess 2 (some .boolean) :: ((wsX11_isGuess_o ++ (wsX11_guesses ++ wsX11_in)) ++ wsX110)
set_option maxRecDepth 20000 in
theorem gd_wsX11_isGuess : gdl wsX11_isGuess := gdl_cons (by decide +kernel) (gdl_app (gdl_app (gdl_dec (by decide +kernel)) (gdl_app gd_wsX11_guesses gd_wsX11_in)) gd_wsX110)
noncomputable def wsX11_isThing_o : List Cond := [.methodLink RX11 281 yX11_in, .static yX11_in, .initialized RX11]
noncomputable def wsX11_isThing : List Cond := .code yX11_isThing cX11_isThing 1 (some .boolean) :: ((wsX11_isThing_o ++ wsX11_in))
set_option maxRecDepth 20000 in
theorem gd_wsX11_isThing : gdl wsX11_isThing := gdl_cons (by decide +kernel) (gdl_app (gdl_dec (by decide +kernel)) gd_wsX11_in)
noncomputable def wsX11_thingAt : List Cond := .code yX11_thingAt cX11_thingAt 3 (some .int) :: (([.fieldLink RX11 104 "GuessFerryModel" "sixes" "[I"] : List Cond) ++ wsX110)
set_option maxRecDepth 20000 in
theorem gd_wsX11_thingAt : gdl wsX11_thingAt := gdl_dec (by decide +kernel)
noncomputable def wsX11_copies : List Cond := .code yX11_copies cX11_copies 2 none :: (([.fieldLink RX11 101 "GuessFerryModel" "row" "[I", .fieldLink RX11 98 "GuessFerryModel" "now" "[I", .fieldLink RX11 58 "GuessFerryModel" "seed" "[I", .fieldLink RX11 215 "GuessFerryModel" "live" "I", .fieldLink RX11 289 "GuessFerryModel" "lots" "I"] : List Cond) ++ wsX110)
set_option maxRecDepth 20000 in
theorem gd_wsX11_copies : gdl wsX11_copies := gdl_dec (by decide +kernel)
noncomputable def wsX11_mixed : List Cond := .code yX11_mixed cX11_mixed 3 (some .int) :: ([.constant RX11 292 (1103515245)])
set_option maxRecDepth 20000 in
theorem gd_wsX11_mixed : gdl wsX11_mixed := gdl_dec (by decide +kernel)
noncomputable def wsX11_lotOf_o : List Cond := [.fieldLink RX11 289 "GuessFerryModel" "lots" "I", .methodLink RX11 293 yX11_mixed, .static yX11_mixed, .initialized RX11]
noncomputable def wsX11_lotOf : List Cond := .code yX11_lotOf cX11_lotOf 3 (some .int) :: ((wsX11_lotOf_o ++ wsX11_mixed) ++ wsX110)
set_option maxRecDepth 20000 in
theorem gd_wsX11_lotOf : gdl wsX11_lotOf := gdl_cons (by decide +kernel) (gdl_app (gdl_app (gdl_dec (by decide +kernel)) gd_wsX11_mixed) gd_wsX110)
noncomputable def wsX11_oddsAt : List Cond := .code yX11_oddsAt cX11_oddsAt 3 (some .int) :: (([.fieldLink RX11 43 "GuessFerryModel" "oddsOf" "[I", .fieldLink RX11 215 "GuessFerryModel" "live" "I"] : List Cond) ++ wsX110)
set_option maxRecDepth 20000 in
theorem gd_wsX11_oddsAt : gdl wsX11_oddsAt := gdl_dec (by decide +kernel)
noncomputable def wsX11_thereAt_o : List Cond := [.fieldLink RX11 101 "GuessFerryModel" "row" "[I", .methodLink RX11 297 yX11_oddsAt, .instanceMethod yX11_oddsAt, .selects RX11 yX11_oddsAt yX11_oddsAt, .initialized RX11, .methodLink RX11 300 yX11_lotOf, .instanceMethod yX11_lotOf, .selects RX11 yX11_lotOf yX11_lotOf]
noncomputable def wsX11_thereAt : List Cond := .code yX11_thereAt cX11_thereAt 5 (some .int) :: ((wsX11_thereAt_o ++ (wsX11_oddsAt ++ wsX11_lotOf)) ++ wsX110)
set_option maxRecDepth 20000 in
theorem gd_wsX11_thereAt : gdl wsX11_thereAt := gdl_cons (by decide +kernel) (gdl_app (gdl_app (gdl_dec (by decide +kernel)) (gdl_app gd_wsX11_oddsAt gd_wsX11_lotOf)) gd_wsX110)
noncomputable def wsX11_thereNumber_o : List Cond := [.fieldLink RX11 40 "GuessFerryModel" "waves" "[I", .fieldLink RX11 215 "GuessFerryModel" "live" "I", .fieldLink RX11 104 "GuessFerryModel" "sixes" "[I", .methodLink RX11 303 yX11_thereAt, .instanceMethod yX11_thereAt, .selects RX11 yX11_thereAt yX11_thereAt, .initialized RX11]
noncomputable def wsX11_thereNumber : List Cond := .code yX11_thereNumber cX11_thereNumber 3 (some .int) :: ((wsX11_thereNumber_o ++ wsX11_thereAt) ++ wsX110)
set_option maxRecDepth 20000 in
theorem gd_wsX11_thereNumber : gdl wsX11_thereNumber := gdl_cons (by decide +kernel) (gdl_app (gdl_app (gdl_dec (by decide +kernel)) gd_wsX11_thereAt) gd_wsX110)
noncomputable def wsX11_mayAt_o : List Cond := [.fieldLink RX11 101 "GuessFerryModel" "row" "[I", .methodLink RX11 297 yX11_oddsAt, .instanceMethod yX11_oddsAt, .selects RX11 yX11_oddsAt yX11_oddsAt, .initialized RX11]
noncomputable def wsX11_mayAt : List Cond := .code yX11_mayAt cX11_mayAt 4 (some .int) :: ((wsX11_mayAt_o ++ wsX11_oddsAt) ++ wsX110)
set_option maxRecDepth 20000 in
theorem gd_wsX11_mayAt : gdl wsX11_mayAt := gdl_cons (by decide +kernel) (gdl_app (gdl_app (gdl_dec (by decide +kernel)) gd_wsX11_oddsAt) gd_wsX110)
noncomputable def wsX11_lawTells_o : List Cond := [.fieldLink RX11 215 "GuessFerryModel" "live" "I", .fieldLink RX11 61 "GuessFerryModel" "lawFirst" "[I", .fieldLink RX11 64 "GuessFerryModel" "lawLast" "[I", .fieldLink RX11 277 "GuessFerryModel" "isBroken" "Z", .fieldLink RX11 67 "GuessFerryModel" "hasTest" "[Z", .fieldLink RX11 71 "GuessFerryModel" "testFrom" "[I", .fieldLink RX11 74 "GuessFerryModel" "testMid" "[I", .fieldLink RX11 77 "GuessFerryModel" "testTo" "[I", .fieldLink RX11 80 "GuessFerryModel" "termTo" "[I", .methodLink RX11 306 yX11_termOf, .instanceMethod yX11_termOf, .selects RX11 yX11_termOf yX11_termOf, .initialized RX11]
noncomputable def wsX11_lawTells : List Cond := .code yX11_lawTells cX11_lawTells 7 (some .int) :: ((wsX11_lawTells_o ++ wsX11_termOf) ++ wsX110)
set_option maxRecDepth 20000 in
theorem gd_wsX11_lawTells : gdl wsX11_lawTells := gdl_cons (by decide +kernel) (gdl_app (gdl_app (gdl_dec (by decide +kernel)) gd_wsX11_termOf) gd_wsX110)
noncomputable def wsX11_looks : List Cond := .code yX11_looks cX11_looks 3 none :: (([.fieldLink RX11 92 "GuessFerryModel" "variables" "[I", .fieldLink RX11 101 "GuessFerryModel" "row" "[I", .fieldLink RX11 52 "GuessFerryModel" "heavyOf" "[I", .fieldLink RX11 215 "GuessFerryModel" "live" "I", .fieldLink RX11 55 "GuessFerryModel" "nerveOf" "[I"] : List Cond) ++ wsX110)
set_option maxRecDepth 20000 in
theorem gd_wsX11_looks : gdl wsX11_looks := gdl_dec (by decide +kernel)
noncomputable def wsX11_looksOver_o : List Cond := [.fieldLink RX11 92 "GuessFerryModel" "variables" "[I", .fieldLink RX11 101 "GuessFerryModel" "row" "[I", .methodLink RX11 309 yX11_mayAt, .instanceMethod yX11_mayAt, .selects RX11 yX11_mayAt yX11_mayAt, .initialized RX11, .methodLink RX11 312 yX11_bits, .static yX11_bits]
noncomputable def wsX11_looksOver : List Cond := .code yX11_looksOver cX11_looksOver 2 none :: ((wsX11_looksOver_o ++ (wsX11_mayAt ++ wsX11_bits)) ++ wsX110)
set_option maxRecDepth 20000 in
theorem gd_wsX11_looksOver : gdl wsX11_looksOver := gdl_cons (by decide +kernel) (gdl_app (gdl_app (gdl_dec (by decide +kernel)) (gdl_app gd_wsX11_mayAt gd_wsX11_bits)) gd_wsX110)
noncomputable def wsX11_needsOf_o : List Cond := [Cond.fieldLink RX11 92 "GuessFerryModel" "variables" "[I", Cond.methodLink RX11 315 yX11_looks, Cond.instanceMethod yX11_looks, Cond.selects RX11 yX11_looks yX11_looks, Cond.initialized RX11, Cond.methodLink RX11 318 yX11_looksOver, Cond.instanceMethod yX11_looksOver, Cond.selects RX11 yX11_looksOver yX11_looksOver, Cond.methodLink RX11 297 yX11_oddsAt, Cond.instanceMethod yX11_oddsAt, Cond.selects RX11 yX11_oddsAt yX11_oddsAt, Cond.methodLink RX11 321 yX11_lawTells, Cond.instanceMethod yX11_lawTells, Cond.selects RX11 yX11_lawTells yX11_lawTells, Cond.methodLink RX11 324 yX11_within, Cond.static yX11_within]
noncomputable def wsX11_needsOf : List Cond := .code yX11_needsOf cX11_needsOf 4 (some .int) :: ((wsX11_needsOf_o ++ (wsX11_looks ++ (wsX11_looksOver ++ (wsX11_oddsAt ++ (wsX11_lawTells ++ wsX11_within))))) ++ wsX110)
set_option maxRecDepth 20000 in
theorem gd_wsX11_needsOf : gdl wsX11_needsOf := gdl_cons (by decide +kernel) (gdl_app (gdl_app (gdl_dec (by decide +kernel)) (gdl_app gd_wsX11_looks (gdl_app gd_wsX11_looksOver (gdl_app gd_wsX11_oddsAt (gdl_app gd_wsX11_lawTells gd_wsX11_within))))) gd_wsX110)
noncomputable def wsX11_faresOf_o : List Cond := [Cond.methodLink RX11 315 yX11_looks, Cond.instanceMethod yX11_looks, Cond.selects RX11 yX11_looks yX11_looks, Cond.initialized RX11, Cond.methodLink RX11 321 yX11_lawTells, Cond.instanceMethod yX11_lawTells, Cond.selects RX11 yX11_lawTells yX11_lawTells, Cond.methodLink RX11 324 yX11_within, Cond.static yX11_within]
noncomputable def wsX11_faresOf : List Cond := .code yX11_faresOf cX11_faresOf 2 (some .int) :: ((wsX11_faresOf_o ++ (wsX11_looks ++ (wsX11_lawTells ++ wsX11_within))) ++ wsX110)
set_option maxRecDepth 20000 in
theorem gd_wsX11_faresOf : gdl wsX11_faresOf := gdl_cons (by decide +kernel) (gdl_app (gdl_app (gdl_dec (by decide +kernel)) (gdl_app gd_wsX11_looks (gdl_app gd_wsX11_lawTells gd_wsX11_within))) gd_wsX110)
noncomputable def wsX11_doesDare_o : List Cond := [Cond.methodLink RX11 315 yX11_looks, Cond.instanceMethod yX11_looks, Cond.selects RX11 yX11_looks yX11_looks, Cond.initialized RX11, Cond.methodLink RX11 321 yX11_lawTells, Cond.instanceMethod yX11_lawTells, Cond.selects RX11 yX11_lawTells yX11_lawTells]
noncomputable def wsX11_doesDare : List Cond := .code yX11_doesDare cX11_doesDare 2 (some .boolean) :: ((wsX11_doesDare_o ++ (wsX11_looks ++ wsX11_lawTells)) ++ wsX110)
set_option maxRecDepth 20000 in
theorem gd_wsX11_doesDare : gdl wsX11_doesDare := gdl_cons (by decide +kernel) (gdl_app (gdl_app (gdl_dec (by decide +kernel)) (gdl_app gd_wsX11_looks gd_wsX11_lawTells)) gd_wsX110)
noncomputable def wsX11_shiftsOf_o : List Cond := [Cond.methodLink RX11 315 yX11_looks, Cond.instanceMethod yX11_looks, Cond.selects RX11 yX11_looks yX11_looks, Cond.initialized RX11, Cond.methodLink RX11 318 yX11_looksOver, Cond.instanceMethod yX11_looksOver, Cond.selects RX11 yX11_looksOver yX11_looksOver, Cond.methodLink RX11 321 yX11_lawTells, Cond.instanceMethod yX11_lawTells, Cond.selects RX11 yX11_lawTells yX11_lawTells, Cond.methodLink RX11 324 yX11_within, Cond.static yX11_within]
noncomputable def wsX11_shiftsOf : List Cond := .code yX11_shiftsOf cX11_shiftsOf 2 (some .int) :: ((wsX11_shiftsOf_o ++ (wsX11_looks ++ (wsX11_looksOver ++ (wsX11_lawTells ++ wsX11_within)))) ++ wsX110)
set_option maxRecDepth 20000 in
theorem gd_wsX11_shiftsOf : gdl wsX11_shiftsOf := gdl_cons (by decide +kernel) (gdl_app (gdl_app (gdl_dec (by decide +kernel)) (gdl_app gd_wsX11_looks (gdl_app gd_wsX11_looksOver (gdl_app gd_wsX11_lawTells gd_wsX11_within)))) gd_wsX110)
noncomputable def wsX11_doesBear_o : List Cond := [Cond.methodLink RX11 297 yX11_oddsAt, Cond.instanceMethod yX11_oddsAt, Cond.selects RX11 yX11_oddsAt yX11_oddsAt, Cond.initialized RX11, Cond.methodLink RX11 327 yX11_needsOf, Cond.instanceMethod yX11_needsOf, Cond.selects RX11 yX11_needsOf yX11_needsOf]
noncomputable def wsX11_doesBear : List Cond := .code yX11_doesBear cX11_doesBear 4 (some .boolean) :: ((wsX11_doesBear_o ++ (wsX11_oddsAt ++ wsX11_needsOf)) ++ wsX110)
set_option maxRecDepth 20000 in
theorem gd_wsX11_doesBear : gdl wsX11_doesBear := gdl_cons (by decide +kernel) (gdl_app (gdl_app (gdl_dec (by decide +kernel)) (gdl_app gd_wsX11_oddsAt gd_wsX11_needsOf)) gd_wsX110)
noncomputable def wsX11_bearsBy_o : List Cond := [Cond.fieldLink RX11 40 "GuessFerryModel" "waves" "[I", Cond.fieldLink RX11 215 "GuessFerryModel" "live" "I", Cond.methodLink RX11 330 yX11_thingAt, Cond.instanceMethod yX11_thingAt, Cond.selects RX11 yX11_thingAt yX11_thingAt, Cond.initialized RX11, Cond.methodLink RX11 333 yX11_doesBear, Cond.instanceMethod yX11_doesBear, Cond.selects RX11 yX11_doesBear yX11_doesBear]
noncomputable def wsX11_bearsBy : List Cond := .code yX11_bearsBy cX11_bearsBy 4 (some .int) :: ((wsX11_bearsBy_o ++ (wsX11_thingAt ++ wsX11_doesBear)) ++ wsX110)
set_option maxRecDepth 20000 in
theorem gd_wsX11_bearsBy : gdl wsX11_bearsBy := gdl_cons (by decide +kernel) (gdl_app (gdl_app (gdl_dec (by decide +kernel)) (gdl_app gd_wsX11_thingAt gd_wsX11_doesBear)) gd_wsX110)
noncomputable def wsX11_goesBy_o : List Cond := [Cond.fieldLink RX11 101 "GuessFerryModel" "row" "[I", Cond.fieldLink RX11 40 "GuessFerryModel" "waves" "[I", Cond.fieldLink RX11 215 "GuessFerryModel" "live" "I", Cond.methodLink RX11 336 yX11_bearsBy, Cond.instanceMethod yX11_bearsBy, Cond.selects RX11 yX11_bearsBy yX11_bearsBy, Cond.initialized RX11, Cond.methodLink RX11 330 yX11_thingAt, Cond.instanceMethod yX11_thingAt, Cond.selects RX11 yX11_thingAt yX11_thingAt, Cond.methodLink RX11 339 yX11_faresOf, Cond.instanceMethod yX11_faresOf, Cond.selects RX11 yX11_faresOf yX11_faresOf]
noncomputable def wsX11_goesBy : List Cond := .code yX11_goesBy cX11_goesBy 7 (some .int) :: ((wsX11_goesBy_o ++ (wsX11_bearsBy ++ (wsX11_faresOf ++ wsX11_thingAt))) ++ wsX110)
set_option maxRecDepth 20000 in
theorem gd_wsX11_goesBy : gdl wsX11_goesBy := gdl_cons (by decide +kernel) (gdl_app (gdl_app (gdl_dec (by decide +kernel)) (gdl_app gd_wsX11_bearsBy (gdl_app gd_wsX11_faresOf gd_wsX11_thingAt))) gd_wsX110)
noncomputable def wsX11_yearGoes_o : List Cond := [Cond.fieldLink RX11 40 "GuessFerryModel" "waves" "[I", Cond.fieldLink RX11 215 "GuessFerryModel" "live" "I", Cond.fieldLink RX11 107 "GuessFerryModel" "shiftsNow" "[Z", Cond.fieldLink RX11 101 "GuessFerryModel" "row" "[I", Cond.constant RX11 342 (1000000), Cond.methodLink RX11 300 yX11_lotOf, Cond.instanceMethod yX11_lotOf, Cond.selects RX11 yX11_lotOf yX11_lotOf, Cond.initialized RX11, Cond.methodLink RX11 343 yX11_shiftsOf, Cond.instanceMethod yX11_shiftsOf, Cond.selects RX11 yX11_shiftsOf yX11_shiftsOf]
noncomputable def wsX11_yearGoes : List Cond := .code yX11_yearGoes cX11_yearGoes 2 none :: ((wsX11_yearGoes_o ++ (wsX11_lotOf ++ wsX11_shiftsOf)) ++ wsX110)
set_option maxRecDepth 20000 in
theorem gd_wsX11_yearGoes : gdl wsX11_yearGoes := gdl_cons (by decide +kernel) (gdl_app (gdl_app (gdl_dec (by decide +kernel)) (gdl_app gd_wsX11_lotOf gd_wsX11_shiftsOf)) gd_wsX110)
noncomputable def wsX11_yearsGo_o : List Cond := [Cond.methodLink RX11 346 yX11_yearGoes, Cond.instanceMethod yX11_yearGoes, Cond.selects RX11 yX11_yearGoes yX11_yearGoes, Cond.initialized RX11]
noncomputable def wsX11_yearsGo : List Cond := .code yX11_yearsGo cX11_yearsGo 3 none :: ((wsX11_yearsGo_o ++ wsX11_yearGoes) ++ wsX110)
set_option maxRecDepth 20000 in
theorem gd_wsX11_yearsGo : gdl wsX11_yearsGo := gdl_cons (by decide +kernel) (gdl_app (gdl_app (gdl_dec (by decide +kernel)) gd_wsX11_yearGoes) gd_wsX110)
noncomputable def wsX11_wave_o : List Cond := [Cond.fieldLink RX11 101 "GuessFerryModel" "row" "[I", Cond.methodLink RX11 349 yX11_isWave, Cond.instanceMethod yX11_isWave, Cond.selects RX11 yX11_isWave yX11_isWave, Cond.initialized RX11, Cond.methodLink RX11 352 yX11_copies, Cond.instanceMethod yX11_copies, Cond.selects RX11 yX11_copies yX11_copies, Cond.methodLink RX11 309 yX11_mayAt, Cond.instanceMethod yX11_mayAt, Cond.selects RX11 yX11_mayAt yX11_mayAt, Cond.methodLink RX11 303 yX11_thereAt, Cond.instanceMethod yX11_thereAt, Cond.selects RX11 yX11_thereAt yX11_thereAt, Cond.methodLink RX11 343 yX11_shiftsOf, Cond.instanceMethod yX11_shiftsOf, Cond.selects RX11 yX11_shiftsOf yX11_shiftsOf]
noncomputable def wsX11_wave : List Cond := .code yX11_wave cX11_wave 3 (some .int) :: ((wsX11_wave_o ++ (wsX11_isWave ++ (wsX11_copies ++ (wsX11_mayAt ++ (wsX11_thereAt ++ wsX11_shiftsOf))))) ++ wsX110)
set_option maxRecDepth 20000 in
theorem gd_wsX11_wave : gdl wsX11_wave := gdl_cons (by decide +kernel) (gdl_app (gdl_app (gdl_dec (by decide +kernel)) (gdl_app gd_wsX11_isWave (gdl_app gd_wsX11_copies (gdl_app gd_wsX11_mayAt (gdl_app gd_wsX11_thereAt gd_wsX11_shiftsOf))))) gd_wsX110)
noncomputable def wsX11_odds_o : List Cond := [.methodLink RX11 349 yX11_isWave, .instanceMethod yX11_isWave, .selects RX11 yX11_isWave yX11_isWave, .initialized RX11, .methodLink RX11 355 yX11_isThing, .static yX11_isThing, .methodLink RX11 297 yX11_oddsAt, .instanceMethod yX11_oddsAt, .selects RX11 yX11_oddsAt yX11_oddsAt]
noncomputable def wsX11_odds : List Cond := .code yX11_odds cX11_odds 3 (some .int) :: ((wsX11_odds_o ++ (wsX11_isWave ++ (wsX11_isThing ++ wsX11_oddsAt))) ++ wsX110)
set_option maxRecDepth 20000 in
theorem gd_wsX11_odds : gdl wsX11_odds := gdl_cons (by decide +kernel) (gdl_app (gdl_app (gdl_dec (by decide +kernel)) (gdl_app gd_wsX11_isWave (gdl_app gd_wsX11_isThing gd_wsX11_oddsAt))) gd_wsX110)
noncomputable def wsX11_party_o : List Cond := [Cond.fieldLink RX11 52 "GuessFerryModel" "heavyOf" "[I", Cond.fieldLink RX11 215 "GuessFerryModel" "live" "I", Cond.fieldLink RX11 55 "GuessFerryModel" "nerveOf" "[I", Cond.fieldLink RX11 101 "GuessFerryModel" "row" "[I", Cond.methodLink RX11 358 yX11_isParty, Cond.instanceMethod yX11_isParty, Cond.selects RX11 yX11_isParty yX11_isParty, Cond.initialized RX11, Cond.methodLink RX11 352 yX11_copies, Cond.instanceMethod yX11_copies, Cond.selects RX11 yX11_copies yX11_copies, Cond.methodLink RX11 339 yX11_faresOf, Cond.instanceMethod yX11_faresOf, Cond.selects RX11 yX11_faresOf yX11_faresOf, Cond.methodLink RX11 361 yX11_doesDare, Cond.instanceMethod yX11_doesDare, Cond.selects RX11 yX11_doesDare yX11_doesDare]
noncomputable def wsX11_party : List Cond := .code yX11_party cX11_party 3 (some .int) :: ((wsX11_party_o ++ (wsX11_isParty ++ (wsX11_copies ++ (wsX11_faresOf ++ wsX11_doesDare)))) ++ wsX110)
set_option maxRecDepth 20000 in
theorem gd_wsX11_party : gdl wsX11_party := gdl_cons (by decide +kernel) (gdl_app (gdl_app (gdl_dec (by decide +kernel)) (gdl_app gd_wsX11_isParty (gdl_app gd_wsX11_copies (gdl_app gd_wsX11_faresOf gd_wsX11_doesDare)))) gd_wsX110)
noncomputable def wsX11_needs_o : List Cond := [Cond.methodLink RX11 358 yX11_isParty, Cond.instanceMethod yX11_isParty, Cond.selects RX11 yX11_isParty yX11_isParty, Cond.initialized RX11, Cond.methodLink RX11 349 yX11_isWave, Cond.instanceMethod yX11_isWave, Cond.selects RX11 yX11_isWave yX11_isWave, Cond.methodLink RX11 355 yX11_isThing, Cond.static yX11_isThing, Cond.methodLink RX11 352 yX11_copies, Cond.instanceMethod yX11_copies, Cond.selects RX11 yX11_copies yX11_copies, Cond.methodLink RX11 327 yX11_needsOf, Cond.instanceMethod yX11_needsOf, Cond.selects RX11 yX11_needsOf yX11_needsOf]
noncomputable def wsX11_needs : List Cond := .code yX11_needs cX11_needs 4 (some .int) :: ((wsX11_needs_o ++ (wsX11_isParty ++ (wsX11_isWave ++ (wsX11_isThing ++ (wsX11_copies ++ wsX11_needsOf))))) ++ wsX110)
set_option maxRecDepth 20000 in
theorem gd_wsX11_needs : gdl wsX11_needs := gdl_cons (by decide +kernel) (gdl_app (gdl_app (gdl_dec (by decide +kernel)) (gdl_app gd_wsX11_isParty (gdl_app gd_wsX11_isWave (gdl_app gd_wsX11_isThing (gdl_app gd_wsX11_copies gd_wsX11_needsOf))))) gd_wsX110)
noncomputable def wsX11_records_o : List Cond := [.fieldLink RX11 230 "GuessFerryModel" "undos" "I", .fieldLink RX11 110 "GuessFerryModel" "history" "[I", .fieldLink RX11 98 "GuessFerryModel" "now" "[I", .methodLink RX11 145 yX11_keepsRow, .instanceMethod yX11_keepsRow, .selects RX11 yX11_keepsRow yX11_keepsRow, .initialized RX11]
noncomputable def wsX11_records : List Cond := .code yX11_records cX11_records 2 none :: ((wsX11_records_o ++ wsX11_keepsRow) ++ wsX110)
set_option maxRecDepth 20000 in
theorem gd_wsX11_records : gdl wsX11_records := gdl_cons (by decide +kernel) (gdl_app (gdl_app (gdl_dec (by decide +kernel)) gd_wsX11_keepsRow) gd_wsX110)
noncomputable def wsX11_isHere_o : List Cond := [.fieldLink RX11 98 "GuessFerryModel" "now" "[I", .methodLink RX11 358 yX11_isParty, .instanceMethod yX11_isParty, .selects RX11 yX11_isParty yX11_isParty, .initialized RX11]
noncomputable def wsX11_isHere : List Cond := .code yX11_isHere cX11_isHere 2 (some .boolean) :: ((wsX11_isHere_o ++ wsX11_isParty) ++ wsX110)
set_option maxRecDepth 20000 in
theorem gd_wsX11_isHere : gdl wsX11_isHere := gdl_cons (by decide +kernel) (gdl_app (gdl_app (gdl_dec (by decide +kernel)) gd_wsX11_isParty) gd_wsX110)
noncomputable def wsX11_go_o : List Cond := [Cond.fieldLink RX11 40 "GuessFerryModel" "waves" "[I", Cond.fieldLink RX11 215 "GuessFerryModel" "live" "I", Cond.methodLink RX11 364 yX11_isHere, Cond.instanceMethod yX11_isHere, Cond.selects RX11 yX11_isHere yX11_isHere, Cond.initialized RX11, Cond.methodLink RX11 367 yX11_isGuess, Cond.instanceMethod yX11_isGuess, Cond.selects RX11 yX11_isGuess yX11_isGuess, Cond.methodLink RX11 352 yX11_copies, Cond.instanceMethod yX11_copies, Cond.selects RX11 yX11_copies yX11_copies, Cond.methodLink RX11 370 yX11_thereNumber, Cond.instanceMethod yX11_thereNumber, Cond.selects RX11 yX11_thereNumber yX11_thereNumber, Cond.methodLink RX11 373 yX11_goesBy, Cond.instanceMethod yX11_goesBy, Cond.selects RX11 yX11_goesBy yX11_goesBy, Cond.methodLink RX11 376 yX11_records, Cond.instanceMethod yX11_records, Cond.selects RX11 yX11_records yX11_records]
noncomputable def wsX11_go : List Cond := .code yX11_go cX11_go 4 (some .int) :: ((wsX11_go_o ++ (wsX11_isHere ++ (wsX11_isGuess ++ (wsX11_copies ++ (wsX11_thereNumber ++ (wsX11_goesBy ++ wsX11_records)))))) ++ wsX110)
set_option maxRecDepth 20000 in
theorem gd_wsX11_go : gdl wsX11_go := gdl_cons (by decide +kernel) (gdl_app (gdl_app (gdl_dec (by decide +kernel)) (gdl_app gd_wsX11_isHere (gdl_app gd_wsX11_isGuess (gdl_app gd_wsX11_copies (gdl_app gd_wsX11_thereNumber (gdl_app gd_wsX11_goesBy gd_wsX11_records)))))) gd_wsX110)
noncomputable def wsX11_buoy_o : List Cond := [Cond.fieldLink RX11 98 "GuessFerryModel" "now" "[I", Cond.fieldLink RX11 101 "GuessFerryModel" "row" "[I", Cond.methodLink RX11 349 yX11_isWave, Cond.instanceMethod yX11_isWave, Cond.selects RX11 yX11_isWave yX11_isWave, Cond.initialized RX11, Cond.methodLink RX11 355 yX11_isThing, Cond.static yX11_isThing, Cond.methodLink RX11 352 yX11_copies, Cond.instanceMethod yX11_copies, Cond.selects RX11 yX11_copies yX11_copies, Cond.methodLink RX11 376 yX11_records, Cond.instanceMethod yX11_records, Cond.selects RX11 yX11_records yX11_records]
noncomputable def wsX11_buoy : List Cond := .code yX11_buoy cX11_buoy 4 (some .boolean) :: ((wsX11_buoy_o ++ (wsX11_isWave ++ (wsX11_isThing ++ (wsX11_copies ++ wsX11_records)))) ++ wsX110)
set_option maxRecDepth 20000 in
theorem gd_wsX11_buoy : gdl wsX11_buoy := gdl_cons (by decide +kernel) (gdl_app (gdl_app (gdl_dec (by decide +kernel)) (gdl_app gd_wsX11_isWave (gdl_app gd_wsX11_isThing (gdl_app gd_wsX11_copies gd_wsX11_records)))) gd_wsX110)
noncomputable def wsX11_fetch_o : List Cond := [Cond.fieldLink RX11 98 "GuessFerryModel" "now" "[I", Cond.fieldLink RX11 101 "GuessFerryModel" "row" "[I", Cond.methodLink RX11 358 yX11_isParty, Cond.instanceMethod yX11_isParty, Cond.selects RX11 yX11_isParty yX11_isParty, Cond.initialized RX11, Cond.methodLink RX11 352 yX11_copies, Cond.instanceMethod yX11_copies, Cond.selects RX11 yX11_copies yX11_copies, Cond.methodLink RX11 376 yX11_records, Cond.instanceMethod yX11_records, Cond.selects RX11 yX11_records yX11_records]
noncomputable def wsX11_fetch : List Cond := .code yX11_fetch cX11_fetch 2 (some .boolean) :: ((wsX11_fetch_o ++ (wsX11_isParty ++ (wsX11_copies ++ wsX11_records))) ++ wsX110)
set_option maxRecDepth 20000 in
theorem gd_wsX11_fetch : gdl wsX11_fetch := gdl_cons (by decide +kernel) (gdl_app (gdl_app (gdl_dec (by decide +kernel)) (gdl_app gd_wsX11_isParty (gdl_app gd_wsX11_copies gd_wsX11_records))) gd_wsX110)
noncomputable def wsX11_isLong_o : List Cond := [.methodLink RX11 281 yX11_in, .static yX11_in, .initialized RX11]
noncomputable def wsX11_isLong : List Cond := .code yX11_isLong cX11_isLong 1 (some .boolean) :: ((wsX11_isLong_o ++ wsX11_in))
set_option maxRecDepth 20000 in
theorem gd_wsX11_isLong : gdl wsX11_isLong := gdl_cons (by decide +kernel) (gdl_app (gdl_dec (by decide +kernel)) gd_wsX11_in)
noncomputable def wsX11_years_o : List Cond := [Cond.fieldLink RX11 98 "GuessFerryModel" "now" "[I", Cond.methodLink RX11 379 yX11_isLong, Cond.static yX11_isLong, Cond.initialized RX11, Cond.methodLink RX11 352 yX11_copies, Cond.instanceMethod yX11_copies, Cond.selects RX11 yX11_copies yX11_copies, Cond.methodLink RX11 382 yX11_yearsGo, Cond.instanceMethod yX11_yearsGo, Cond.selects RX11 yX11_yearsGo yX11_yearsGo, Cond.methodLink RX11 376 yX11_records, Cond.instanceMethod yX11_records, Cond.selects RX11 yX11_records yX11_records]
noncomputable def wsX11_years : List Cond := .code yX11_years cX11_years 2 (some .int) :: ((wsX11_years_o ++ (wsX11_isLong ++ (wsX11_copies ++ (wsX11_yearsGo ++ wsX11_records)))) ++ wsX110)
set_option maxRecDepth 20000 in
theorem gd_wsX11_years : gdl wsX11_years := gdl_cons (by decide +kernel) (gdl_app (gdl_app (gdl_dec (by decide +kernel)) (gdl_app gd_wsX11_isLong (gdl_app gd_wsX11_copies (gdl_app gd_wsX11_yearsGo gd_wsX11_records)))) gd_wsX110)
noncomputable def wsX11_undo : List Cond := .code yX11_undo cX11_undo 2 (some .boolean) :: (([.fieldLink RX11 230 "GuessFerryModel" "undos" "I", .fieldLink RX11 98 "GuessFerryModel" "now" "[I", .fieldLink RX11 110 "GuessFerryModel" "history" "[I"] : List Cond) ++ wsX110)
set_option maxRecDepth 20000 in
theorem gd_wsX11_undo : gdl wsX11_undo := gdl_dec (by decide +kernel)
noncomputable def wsX11_casesNow_o : List Cond := [.fieldLink RX11 40 "GuessFerryModel" "waves" "[I", .fieldLink RX11 215 "GuessFerryModel" "live" "I", .methodLink RX11 309 yX11_mayAt, .instanceMethod yX11_mayAt, .selects RX11 yX11_mayAt yX11_mayAt, .initialized RX11, .methodLink RX11 312 yX11_bits, .static yX11_bits]
noncomputable def wsX11_casesNow : List Cond := .code yX11_casesNow cX11_casesNow 3 (some .int) :: ((wsX11_casesNow_o ++ (wsX11_mayAt ++ wsX11_bits)) ++ wsX110)
set_option maxRecDepth 20000 in
theorem gd_wsX11_casesNow : gdl wsX11_casesNow := gdl_cons (by decide +kernel) (gdl_app (gdl_app (gdl_dec (by decide +kernel)) (gdl_app gd_wsX11_mayAt gd_wsX11_bits)) gd_wsX110)
noncomputable def wsX11_cases_o : List Cond := [Cond.methodLink RX11 352 yX11_copies, Cond.instanceMethod yX11_copies, Cond.selects RX11 yX11_copies yX11_copies, Cond.initialized RX11, Cond.methodLink RX11 385 yX11_casesNow, Cond.instanceMethod yX11_casesNow, Cond.selects RX11 yX11_casesNow yX11_casesNow]
noncomputable def wsX11_cases : List Cond := .code yX11_cases cX11_cases 1 (some .int) :: ((wsX11_cases_o ++ (wsX11_copies ++ wsX11_casesNow)) ++ wsX110)
set_option maxRecDepth 20000 in
theorem gd_wsX11_cases : gdl wsX11_cases := gdl_cons (by decide +kernel) (gdl_app (gdl_app (gdl_dec (by decide +kernel)) (gdl_app gd_wsX11_copies gd_wsX11_casesNow)) gd_wsX110)
noncomputable def wsX11_mayBe_o : List Cond := [.methodLink RX11 309 yX11_mayAt, .instanceMethod yX11_mayAt, .selects RX11 yX11_mayAt yX11_mayAt, .initialized RX11]
noncomputable def wsX11_mayBe : List Cond := .code yX11_mayBe cX11_mayBe 3 (some .boolean) :: ((wsX11_mayBe_o ++ wsX11_mayAt) ++ wsX110)
set_option maxRecDepth 20000 in
theorem gd_wsX11_mayBe : gdl wsX11_mayBe := gdl_cons (by decide +kernel) (gdl_app (gdl_app (gdl_dec (by decide +kernel)) gd_wsX11_mayAt) gd_wsX110)
noncomputable def wsX11_chanceOf_o : List Cond := [.fieldLink RX11 40 "GuessFerryModel" "waves" "[I", .fieldLink RX11 215 "GuessFerryModel" "live" "I", .methodLink RX11 330 yX11_thingAt, .instanceMethod yX11_thingAt, .selects RX11 yX11_thingAt yX11_thingAt, .initialized RX11, .methodLink RX11 388 yX11_mayBe, .instanceMethod yX11_mayBe, .selects RX11 yX11_mayBe yX11_mayBe, .methodLink RX11 297 yX11_oddsAt, .instanceMethod yX11_oddsAt, .selects RX11 yX11_oddsAt yX11_oddsAt]
noncomputable def wsX11_chanceOf : List Cond := .code yX11_chanceOf cX11_chanceOf 5 (some .int) :: ((wsX11_chanceOf_o ++ (wsX11_thingAt ++ (wsX11_mayBe ++ wsX11_oddsAt))) ++ wsX110)
set_option maxRecDepth 20000 in
theorem gd_wsX11_chanceOf : gdl wsX11_chanceOf := gdl_cons (by decide +kernel) (gdl_app (gdl_app (gdl_dec (by decide +kernel)) (gdl_app gd_wsX11_thingAt (gdl_app gd_wsX11_mayBe gd_wsX11_oddsAt))) gd_wsX110)
noncomputable def wsX11_isCase_o : List Cond := [.fieldLink RX11 40 "GuessFerryModel" "waves" "[I", .fieldLink RX11 215 "GuessFerryModel" "live" "I", .methodLink RX11 330 yX11_thingAt, .instanceMethod yX11_thingAt, .selects RX11 yX11_thingAt yX11_thingAt, .initialized RX11, .methodLink RX11 388 yX11_mayBe, .instanceMethod yX11_mayBe, .selects RX11 yX11_mayBe yX11_mayBe]
noncomputable def wsX11_isCase : List Cond := .code yX11_isCase cX11_isCase 3 (some .boolean) :: ((wsX11_isCase_o ++ (wsX11_thingAt ++ wsX11_mayBe)) ++ wsX110)
set_option maxRecDepth 20000 in
theorem gd_wsX11_isCase : gdl wsX11_isCase := gdl_cons (by decide +kernel) (gdl_app (gdl_app (gdl_dec (by decide +kernel)) (gdl_app gd_wsX11_thingAt gd_wsX11_mayBe)) gd_wsX110)
noncomputable def wsX11_chance_o : List Cond := [Cond.methodLink RX11 367 yX11_isGuess, Cond.instanceMethod yX11_isGuess, Cond.selects RX11 yX11_isGuess yX11_isGuess, Cond.initialized RX11, Cond.methodLink RX11 352 yX11_copies, Cond.instanceMethod yX11_copies, Cond.selects RX11 yX11_copies yX11_copies, Cond.methodLink RX11 392 yX11_chanceOf, Cond.instanceMethod yX11_chanceOf, Cond.selects RX11 yX11_chanceOf yX11_chanceOf]
noncomputable def wsX11_chance : List Cond := .code yX11_chance cX11_chance 2 (some .int) :: ((wsX11_chance_o ++ (wsX11_isGuess ++ (wsX11_copies ++ wsX11_chanceOf))) ++ wsX110)
set_option maxRecDepth 20000 in
theorem gd_wsX11_chance : gdl wsX11_chance := gdl_cons (by decide +kernel) (gdl_app (gdl_app (gdl_dec (by decide +kernel)) (gdl_app gd_wsX11_isGuess (gdl_app gd_wsX11_copies gd_wsX11_chanceOf))) gd_wsX110)
noncomputable def wsX11_sumAt_o : List Cond := [.methodLink RX11 388 yX11_mayBe, .instanceMethod yX11_mayBe, .selects RX11 yX11_mayBe yX11_mayBe, .initialized RX11, .methodLink RX11 297 yX11_oddsAt, .instanceMethod yX11_oddsAt, .selects RX11 yX11_oddsAt yX11_oddsAt]
noncomputable def wsX11_sumAt : List Cond := .code yX11_sumAt cX11_sumAt 4 (some .int) :: ((wsX11_sumAt_o ++ (wsX11_mayBe ++ wsX11_oddsAt)) ++ wsX110)
set_option maxRecDepth 20000 in
theorem gd_wsX11_sumAt : gdl wsX11_sumAt := gdl_cons (by decide +kernel) (gdl_app (gdl_app (gdl_dec (by decide +kernel)) (gdl_app gd_wsX11_mayBe gd_wsX11_oddsAt)) gd_wsX110)
noncomputable def wsX11_all_o : List Cond := [Cond.fieldLink RX11 40 "GuessFerryModel" "waves" "[I", Cond.fieldLink RX11 215 "GuessFerryModel" "live" "I", Cond.methodLink RX11 352 yX11_copies, Cond.instanceMethod yX11_copies, Cond.selects RX11 yX11_copies yX11_copies, Cond.initialized RX11, Cond.methodLink RX11 395 yX11_sumAt, Cond.instanceMethod yX11_sumAt, Cond.selects RX11 yX11_sumAt yX11_sumAt]
noncomputable def wsX11_all : List Cond := .code yX11_all cX11_all 3 (some .int) :: ((wsX11_all_o ++ (wsX11_copies ++ wsX11_sumAt)) ++ wsX110)
set_option maxRecDepth 20000 in
theorem gd_wsX11_all : gdl wsX11_all := gdl_cons (by decide +kernel) (gdl_app (gdl_app (gdl_dec (by decide +kernel)) (gdl_app gd_wsX11_copies gd_wsX11_sumAt)) gd_wsX110)
noncomputable def wsX11_bestFor_o : List Cond := [Cond.fieldLink RX11 40 "GuessFerryModel" "waves" "[I", Cond.fieldLink RX11 215 "GuessFerryModel" "live" "I", Cond.fieldLink RX11 104 "GuessFerryModel" "sixes" "[I", Cond.methodLink RX11 388 yX11_mayBe, Cond.instanceMethod yX11_mayBe, Cond.selects RX11 yX11_mayBe yX11_mayBe, Cond.initialized RX11, Cond.methodLink RX11 297 yX11_oddsAt, Cond.instanceMethod yX11_oddsAt, Cond.selects RX11 yX11_oddsAt yX11_oddsAt, Cond.methodLink RX11 333 yX11_doesBear, Cond.instanceMethod yX11_doesBear, Cond.selects RX11 yX11_doesBear yX11_doesBear]
noncomputable def wsX11_bestFor : List Cond := .code yX11_bestFor cX11_bestFor 6 (some .int) :: ((wsX11_bestFor_o ++ (wsX11_mayBe ++ (wsX11_doesBear ++ wsX11_oddsAt))) ++ wsX110)
set_option maxRecDepth 20000 in
theorem gd_wsX11_bestFor : gdl wsX11_bestFor := gdl_cons (by decide +kernel) (gdl_app (gdl_app (gdl_dec (by decide +kernel)) (gdl_app gd_wsX11_mayBe (gdl_app gd_wsX11_doesBear gd_wsX11_oddsAt))) gd_wsX110)
noncomputable def wsX11_likeliest_o : List Cond := [Cond.methodLink RX11 352 yX11_copies, Cond.instanceMethod yX11_copies, Cond.selects RX11 yX11_copies yX11_copies, Cond.initialized RX11, Cond.methodLink RX11 398 yX11_bestFor, Cond.instanceMethod yX11_bestFor, Cond.selects RX11 yX11_bestFor yX11_bestFor]
noncomputable def wsX11_likeliest : List Cond := .code yX11_likeliest cX11_likeliest 1 (some .int) :: ((wsX11_likeliest_o ++ (wsX11_copies ++ wsX11_bestFor)) ++ wsX110)
set_option maxRecDepth 20000 in
theorem gd_wsX11_likeliest : gdl wsX11_likeliest := gdl_cons (by decide +kernel) (gdl_app (gdl_app (gdl_dec (by decide +kernel)) (gdl_app gd_wsX11_copies gd_wsX11_bestFor)) gd_wsX110)
noncomputable def wsX11_bears_o : List Cond := [Cond.methodLink RX11 358 yX11_isParty, Cond.instanceMethod yX11_isParty, Cond.selects RX11 yX11_isParty yX11_isParty, Cond.initialized RX11, Cond.methodLink RX11 367 yX11_isGuess, Cond.instanceMethod yX11_isGuess, Cond.selects RX11 yX11_isGuess yX11_isGuess, Cond.methodLink RX11 352 yX11_copies, Cond.instanceMethod yX11_copies, Cond.selects RX11 yX11_copies yX11_copies, Cond.methodLink RX11 336 yX11_bearsBy, Cond.instanceMethod yX11_bearsBy, Cond.selects RX11 yX11_bearsBy yX11_bearsBy]
noncomputable def wsX11_bears : List Cond := .code yX11_bears cX11_bears 3 (some .int) :: ((wsX11_bears_o ++ (wsX11_isParty ++ (wsX11_isGuess ++ (wsX11_copies ++ wsX11_bearsBy)))) ++ wsX110)
set_option maxRecDepth 20000 in
theorem gd_wsX11_bears : gdl wsX11_bears := gdl_cons (by decide +kernel) (gdl_app (gdl_app (gdl_dec (by decide +kernel)) (gdl_app gd_wsX11_isParty (gdl_app gd_wsX11_isGuess (gdl_app gd_wsX11_copies gd_wsX11_bearsBy)))) gd_wsX110)
noncomputable def wsX11_safest_o : List Cond := [Cond.methodLink RX11 358 yX11_isParty, Cond.instanceMethod yX11_isParty, Cond.selects RX11 yX11_isParty yX11_isParty, Cond.initialized RX11, Cond.methodLink RX11 352 yX11_copies, Cond.instanceMethod yX11_copies, Cond.selects RX11 yX11_copies yX11_copies, Cond.methodLink RX11 398 yX11_bestFor, Cond.instanceMethod yX11_bestFor, Cond.selects RX11 yX11_bestFor yX11_bestFor]
noncomputable def wsX11_safest : List Cond := .code yX11_safest cX11_safest 2 (some .int) :: ((wsX11_safest_o ++ (wsX11_isParty ++ (wsX11_copies ++ wsX11_bestFor))) ++ wsX110)
set_option maxRecDepth 20000 in
theorem gd_wsX11_safest : gdl wsX11_safest := gdl_cons (by decide +kernel) (gdl_app (gdl_app (gdl_dec (by decide +kernel)) (gdl_app gd_wsX11_isParty (gdl_app gd_wsX11_copies gd_wsX11_bestFor))) gd_wsX110)
noncomputable def wsX11_enough_o : List Cond := [Cond.fieldLink RX11 40 "GuessFerryModel" "waves" "[I", Cond.fieldLink RX11 215 "GuessFerryModel" "live" "I", Cond.methodLink RX11 352 yX11_copies, Cond.instanceMethod yX11_copies, Cond.selects RX11 yX11_copies yX11_copies, Cond.initialized RX11, Cond.methodLink RX11 385 yX11_casesNow, Cond.instanceMethod yX11_casesNow, Cond.selects RX11 yX11_casesNow yX11_casesNow, Cond.methodLink RX11 309 yX11_mayAt, Cond.instanceMethod yX11_mayAt, Cond.selects RX11 yX11_mayAt yX11_mayAt, Cond.methodLink RX11 312 yX11_bits, Cond.static yX11_bits]
noncomputable def wsX11_enough : List Cond := .code yX11_enough cX11_enough 3 (some .int) :: ((wsX11_enough_o ++ (wsX11_copies ++ (wsX11_casesNow ++ (wsX11_mayAt ++ wsX11_bits)))) ++ wsX110)
set_option maxRecDepth 20000 in
theorem gd_wsX11_enough : gdl wsX11_enough := gdl_cons (by decide +kernel) (gdl_app (gdl_app (gdl_dec (by decide +kernel)) (gdl_app gd_wsX11_copies (gdl_app gd_wsX11_casesNow (gdl_app gd_wsX11_mayAt gd_wsX11_bits)))) gd_wsX110)
noncomputable def wsX11_leftOf_o : List Cond := [Cond.fieldLink RX11 40 "GuessFerryModel" "waves" "[I", Cond.fieldLink RX11 215 "GuessFerryModel" "live" "I", Cond.methodLink RX11 385 yX11_casesNow, Cond.instanceMethod yX11_casesNow, Cond.selects RX11 yX11_casesNow yX11_casesNow, Cond.initialized RX11, Cond.methodLink RX11 309 yX11_mayAt, Cond.instanceMethod yX11_mayAt, Cond.selects RX11 yX11_mayAt yX11_mayAt, Cond.methodLink RX11 312 yX11_bits, Cond.static yX11_bits, Cond.methodLink RX11 330 yX11_thingAt, Cond.instanceMethod yX11_thingAt, Cond.selects RX11 yX11_thingAt yX11_thingAt]
noncomputable def wsX11_leftOf : List Cond := .code yX11_leftOf cX11_leftOf 7 (some .int) :: ((wsX11_leftOf_o ++ (wsX11_casesNow ++ (wsX11_mayAt ++ (wsX11_bits ++ wsX11_thingAt)))) ++ wsX110)
set_option maxRecDepth 20000 in
theorem gd_wsX11_leftOf : gdl wsX11_leftOf := gdl_cons (by decide +kernel) (gdl_app (gdl_app (gdl_dec (by decide +kernel)) (gdl_app gd_wsX11_casesNow (gdl_app gd_wsX11_mayAt (gdl_app gd_wsX11_bits gd_wsX11_thingAt)))) gd_wsX110)
noncomputable def wsX11_left_o : List Cond := [Cond.methodLink RX11 367 yX11_isGuess, Cond.instanceMethod yX11_isGuess, Cond.selects RX11 yX11_isGuess yX11_isGuess, Cond.initialized RX11, Cond.methodLink RX11 352 yX11_copies, Cond.instanceMethod yX11_copies, Cond.selects RX11 yX11_copies yX11_copies, Cond.methodLink RX11 385 yX11_casesNow, Cond.instanceMethod yX11_casesNow, Cond.selects RX11 yX11_casesNow yX11_casesNow, Cond.methodLink RX11 401 yX11_leftOf, Cond.instanceMethod yX11_leftOf, Cond.selects RX11 yX11_leftOf yX11_leftOf]
noncomputable def wsX11_left : List Cond := .code yX11_left cX11_left 2 (some .int) :: ((wsX11_left_o ++ (wsX11_isGuess ++ (wsX11_copies ++ (wsX11_casesNow ++ wsX11_leftOf)))) ++ wsX110)
set_option maxRecDepth 20000 in
theorem gd_wsX11_left : gdl wsX11_left := gdl_cons (by decide +kernel) (gdl_app (gdl_app (gdl_dec (by decide +kernel)) (gdl_app gd_wsX11_isGuess (gdl_app gd_wsX11_copies (gdl_app gd_wsX11_casesNow gd_wsX11_leftOf)))) gd_wsX110)
noncomputable def wsX11_wisest_o : List Cond := [Cond.methodLink RX11 281 yX11_in, Cond.static yX11_in, Cond.initialized RX11, Cond.methodLink RX11 352 yX11_copies, Cond.instanceMethod yX11_copies, Cond.selects RX11 yX11_copies yX11_copies, Cond.methodLink RX11 385 yX11_casesNow, Cond.instanceMethod yX11_casesNow, Cond.selects RX11 yX11_casesNow yX11_casesNow, Cond.methodLink RX11 401 yX11_leftOf, Cond.instanceMethod yX11_leftOf, Cond.selects RX11 yX11_leftOf yX11_leftOf, Cond.methodLink RX11 285 yX11_guesses, Cond.instanceMethod yX11_guesses, Cond.selects RX11 yX11_guesses yX11_guesses]
noncomputable def wsX11_wisest : List Cond := .code yX11_wisest cX11_wisest 6 (some .int) :: ((wsX11_wisest_o ++ (wsX11_in ++ (wsX11_copies ++ (wsX11_casesNow ++ (wsX11_leftOf ++ wsX11_guesses))))) ++ wsX110)
set_option maxRecDepth 20000 in
theorem gd_wsX11_wisest : gdl wsX11_wisest := gdl_cons (by decide +kernel) (gdl_app (gdl_app (gdl_dec (by decide +kernel)) (gdl_app gd_wsX11_in (gdl_app gd_wsX11_copies (gdl_app gd_wsX11_casesNow (gdl_app gd_wsX11_leftOf gd_wsX11_guesses))))) gd_wsX110)
noncomputable def wsX11_fillsChances_o : List Cond := [Cond.fieldLink RX11 113 "GuessFerryModel" "chanceBy" "[I", Cond.methodLink RX11 352 yX11_copies, Cond.instanceMethod yX11_copies, Cond.selects RX11 yX11_copies yX11_copies, Cond.initialized RX11, Cond.methodLink RX11 285 yX11_guesses, Cond.instanceMethod yX11_guesses, Cond.selects RX11 yX11_guesses yX11_guesses, Cond.methodLink RX11 392 yX11_chanceOf, Cond.instanceMethod yX11_chanceOf, Cond.selects RX11 yX11_chanceOf yX11_chanceOf]
noncomputable def wsX11_fillsChances : List Cond := .code yX11_fillsChances cX11_fillsChances 2 none :: ((wsX11_fillsChances_o ++ (wsX11_copies ++ (wsX11_guesses ++ wsX11_chanceOf))) ++ wsX110)
set_option maxRecDepth 20000 in
theorem gd_wsX11_fillsChances : gdl wsX11_fillsChances := gdl_cons (by decide +kernel) (gdl_app (gdl_app (gdl_dec (by decide +kernel)) (gdl_app gd_wsX11_copies (gdl_app gd_wsX11_guesses gd_wsX11_chanceOf))) gd_wsX110)
noncomputable def wsX11_isAhead : List Cond := .code yX11_isAhead cX11_isAhead 3 (some .boolean) :: (([.fieldLink RX11 113 "GuessFerryModel" "chanceBy" "[I"] : List Cond) ++ wsX110)
set_option maxRecDepth 20000 in
theorem gd_wsX11_isAhead : gdl wsX11_isAhead := gdl_dec (by decide +kernel)
noncomputable def wsX11_rank_o : List Cond := [Cond.methodLink RX11 367 yX11_isGuess, Cond.instanceMethod yX11_isGuess, Cond.selects RX11 yX11_isGuess yX11_isGuess, Cond.initialized RX11, Cond.methodLink RX11 285 yX11_guesses, Cond.instanceMethod yX11_guesses, Cond.selects RX11 yX11_guesses yX11_guesses, Cond.methodLink RX11 404 yX11_fillsChances, Cond.instanceMethod yX11_fillsChances, Cond.selects RX11 yX11_fillsChances yX11_fillsChances, Cond.methodLink RX11 407 yX11_isCase, Cond.instanceMethod yX11_isCase, Cond.selects RX11 yX11_isCase yX11_isCase, Cond.methodLink RX11 410 yX11_isAhead, Cond.instanceMethod yX11_isAhead, Cond.selects RX11 yX11_isAhead yX11_isAhead]
noncomputable def wsX11_rank : List Cond := .code yX11_rank cX11_rank 4 (some .int) :: ((wsX11_rank_o ++ (wsX11_isGuess ++ (wsX11_fillsChances ++ (wsX11_isCase ++ (wsX11_guesses ++ wsX11_isAhead))))) ++ wsX110)
set_option maxRecDepth 20000 in
theorem gd_wsX11_rank : gdl wsX11_rank := gdl_cons (by decide +kernel) (gdl_app (gdl_app (gdl_dec (by decide +kernel)) (gdl_app gd_wsX11_isGuess (gdl_app gd_wsX11_fillsChances (gdl_app gd_wsX11_isCase (gdl_app gd_wsX11_guesses gd_wsX11_isAhead))))) gd_wsX110)
noncomputable def wsX11_ranked_o : List Cond := [Cond.fieldLink RX11 113 "GuessFerryModel" "chanceBy" "[I", Cond.methodLink RX11 281 yX11_in, Cond.static yX11_in, Cond.initialized RX11, Cond.methodLink RX11 404 yX11_fillsChances, Cond.instanceMethod yX11_fillsChances, Cond.selects RX11 yX11_fillsChances yX11_fillsChances, Cond.methodLink RX11 285 yX11_guesses, Cond.instanceMethod yX11_guesses, Cond.selects RX11 yX11_guesses yX11_guesses, Cond.methodLink RX11 410 yX11_isAhead, Cond.instanceMethod yX11_isAhead, Cond.selects RX11 yX11_isAhead yX11_isAhead]
noncomputable def wsX11_ranked : List Cond := .code yX11_ranked cX11_ranked 6 (some .int) :: ((wsX11_ranked_o ++ (wsX11_in ++ (wsX11_fillsChances ++ (wsX11_guesses ++ wsX11_isAhead)))) ++ wsX110)
set_option maxRecDepth 20000 in
theorem gd_wsX11_ranked : gdl wsX11_ranked := gdl_cons (by decide +kernel) (gdl_app (gdl_app (gdl_dec (by decide +kernel)) (gdl_app gd_wsX11_in (gdl_app gd_wsX11_fillsChances (gdl_app gd_wsX11_guesses gd_wsX11_isAhead)))) gd_wsX110)
noncomputable def wsX11_share_o : List Cond := [Cond.fieldLink RX11 40 "GuessFerryModel" "waves" "[I", Cond.fieldLink RX11 215 "GuessFerryModel" "live" "I", Cond.methodLink RX11 349 yX11_isWave, Cond.instanceMethod yX11_isWave, Cond.selects RX11 yX11_isWave yX11_isWave, Cond.initialized RX11, Cond.methodLink RX11 355 yX11_isThing, Cond.static yX11_isThing, Cond.methodLink RX11 352 yX11_copies, Cond.instanceMethod yX11_copies, Cond.selects RX11 yX11_copies yX11_copies, Cond.methodLink RX11 388 yX11_mayBe, Cond.instanceMethod yX11_mayBe, Cond.selects RX11 yX11_mayBe yX11_mayBe, Cond.methodLink RX11 297 yX11_oddsAt, Cond.instanceMethod yX11_oddsAt, Cond.selects RX11 yX11_oddsAt yX11_oddsAt, Cond.methodLink RX11 395 yX11_sumAt, Cond.instanceMethod yX11_sumAt, Cond.selects RX11 yX11_sumAt yX11_sumAt]
noncomputable def wsX11_share : List Cond := .code yX11_share cX11_share 5 (some .int) :: ((wsX11_share_o ++ (wsX11_isWave ++ (wsX11_isThing ++ (wsX11_copies ++ (wsX11_mayBe ++ (wsX11_oddsAt ++ wsX11_sumAt)))))) ++ wsX110)
set_option maxRecDepth 20000 in
theorem gd_wsX11_share : gdl wsX11_share := gdl_cons (by decide +kernel) (gdl_app (gdl_app (gdl_dec (by decide +kernel)) (gdl_app gd_wsX11_isWave (gdl_app gd_wsX11_isThing (gdl_app gd_wsX11_copies (gdl_app gd_wsX11_mayBe (gdl_app gd_wsX11_oddsAt gd_wsX11_sumAt)))))) gd_wsX110)
noncomputable def wsX11_comesOver_o : List Cond := [Cond.fieldLink RX11 101 "GuessFerryModel" "row" "[I", Cond.methodLink RX11 352 yX11_copies, Cond.instanceMethod yX11_copies, Cond.selects RX11 yX11_copies yX11_copies, Cond.initialized RX11, Cond.methodLink RX11 398 yX11_bestFor, Cond.instanceMethod yX11_bestFor, Cond.selects RX11 yX11_bestFor yX11_bestFor, Cond.methodLink RX11 373 yX11_goesBy, Cond.instanceMethod yX11_goesBy, Cond.selects RX11 yX11_goesBy yX11_goesBy]
noncomputable def wsX11_comesOver : List Cond := .code yX11_comesOver cX11_comesOver 6 (some .boolean) :: ((wsX11_comesOver_o ++ (wsX11_copies ++ (wsX11_bestFor ++ wsX11_goesBy))) ++ wsX110)
set_option maxRecDepth 20000 in
theorem gd_wsX11_comesOver : gdl wsX11_comesOver := gdl_cons (by decide +kernel) (gdl_app (gdl_app (gdl_dec (by decide +kernel)) (gdl_app gd_wsX11_copies (gdl_app gd_wsX11_bestFor gd_wsX11_goesBy))) gd_wsX110)
noncomputable def wsX11_sure_o : List Cond := [Cond.fieldLink RX11 40 "GuessFerryModel" "waves" "[I", Cond.fieldLink RX11 215 "GuessFerryModel" "live" "I", Cond.fieldLink RX11 113 "GuessFerryModel" "chanceBy" "[I", Cond.methodLink RX11 364 yX11_isHere, Cond.instanceMethod yX11_isHere, Cond.selects RX11 yX11_isHere yX11_isHere, Cond.initialized RX11, Cond.methodLink RX11 281 yX11_in, Cond.static yX11_in, Cond.methodLink RX11 404 yX11_fillsChances, Cond.instanceMethod yX11_fillsChances, Cond.selects RX11 yX11_fillsChances yX11_fillsChances, Cond.methodLink RX11 285 yX11_guesses, Cond.instanceMethod yX11_guesses, Cond.selects RX11 yX11_guesses yX11_guesses, Cond.methodLink RX11 413 yX11_comesOver, Cond.instanceMethod yX11_comesOver, Cond.selects RX11 yX11_comesOver yX11_comesOver]
noncomputable def wsX11_sure : List Cond := .code yX11_sure cX11_sure 5 (some .int) :: ((wsX11_sure_o ++ (wsX11_isHere ++ (wsX11_in ++ (wsX11_fillsChances ++ (wsX11_guesses ++ wsX11_comesOver))))) ++ wsX110)
set_option maxRecDepth 20000 in
theorem gd_wsX11_sure : gdl wsX11_sure := gdl_cons (by decide +kernel) (gdl_app (gdl_app (gdl_dec (by decide +kernel)) (gdl_app gd_wsX11_isHere (gdl_app gd_wsX11_in (gdl_app gd_wsX11_fillsChances (gdl_app gd_wsX11_guesses gd_wsX11_comesOver))))) gd_wsX110)
noncomputable def wsX11_alike_o : List Cond := [.fieldLink RX11 40 "GuessFerryModel" "waves" "[I", .fieldLink RX11 215 "GuessFerryModel" "live" "I", .methodLink RX11 367 yX11_isGuess, .instanceMethod yX11_isGuess, .selects RX11 yX11_isGuess yX11_isGuess, .initialized RX11, .methodLink RX11 330 yX11_thingAt, .instanceMethod yX11_thingAt, .selects RX11 yX11_thingAt yX11_thingAt]
noncomputable def wsX11_alike : List Cond := .code yX11_alike cX11_alike 4 (some .int) :: ((wsX11_alike_o ++ (wsX11_isGuess ++ wsX11_thingAt)) ++ wsX110)
set_option maxRecDepth 20000 in
theorem gd_wsX11_alike : gdl wsX11_alike := gdl_cons (by decide +kernel) (gdl_app (gdl_app (gdl_dec (by decide +kernel)) (gdl_app gd_wsX11_isGuess gd_wsX11_thingAt)) gd_wsX110)
noncomputable def wsX11_sunk_o : List Cond := [Cond.fieldLink RX11 49 "GuessFerryModel" "parties" "[I", Cond.fieldLink RX11 215 "GuessFerryModel" "live" "I", Cond.fieldLink RX11 40 "GuessFerryModel" "waves" "[I", Cond.methodLink RX11 367 yX11_isGuess, Cond.instanceMethod yX11_isGuess, Cond.selects RX11 yX11_isGuess yX11_isGuess, Cond.initialized RX11, Cond.methodLink RX11 352 yX11_copies, Cond.instanceMethod yX11_copies, Cond.selects RX11 yX11_copies yX11_copies, Cond.methodLink RX11 364 yX11_isHere, Cond.instanceMethod yX11_isHere, Cond.selects RX11 yX11_isHere yX11_isHere, Cond.methodLink RX11 336 yX11_bearsBy, Cond.instanceMethod yX11_bearsBy, Cond.selects RX11 yX11_bearsBy yX11_bearsBy]
noncomputable def wsX11_sunk : List Cond := .code yX11_sunk cX11_sunk 4 (some .int) :: ((wsX11_sunk_o ++ (wsX11_isGuess ++ (wsX11_copies ++ (wsX11_isHere ++ wsX11_bearsBy)))) ++ wsX110)
set_option maxRecDepth 20000 in
theorem gd_wsX11_sunk : gdl wsX11_sunk := gdl_cons (by decide +kernel) (gdl_app (gdl_app (gdl_dec (by decide +kernel)) (gdl_app gd_wsX11_isGuess (gdl_app gd_wsX11_copies (gdl_app gd_wsX11_isHere gd_wsX11_bearsBy)))) gd_wsX110)
noncomputable def wsX11_stuck_o : List Cond := [Cond.fieldLink RX11 49 "GuessFerryModel" "parties" "[I", Cond.fieldLink RX11 215 "GuessFerryModel" "live" "I", Cond.methodLink RX11 352 yX11_copies, Cond.instanceMethod yX11_copies, Cond.selects RX11 yX11_copies yX11_copies, Cond.initialized RX11, Cond.methodLink RX11 364 yX11_isHere, Cond.instanceMethod yX11_isHere, Cond.selects RX11 yX11_isHere yX11_isHere, Cond.methodLink RX11 398 yX11_bestFor, Cond.instanceMethod yX11_bestFor, Cond.selects RX11 yX11_bestFor yX11_bestFor]
noncomputable def wsX11_stuck : List Cond := .code yX11_stuck cX11_stuck 3 (some .int) :: ((wsX11_stuck_o ++ (wsX11_copies ++ (wsX11_isHere ++ wsX11_bestFor))) ++ wsX110)
set_option maxRecDepth 20000 in
theorem gd_wsX11_stuck : gdl wsX11_stuck := gdl_cons (by decide +kernel) (gdl_app (gdl_app (gdl_dec (by decide +kernel)) (gdl_app gd_wsX11_copies (gdl_app gd_wsX11_isHere gd_wsX11_bestFor))) gd_wsX110)
noncomputable def wsX11_spread_o : List Cond := [Cond.methodLink RX11 349 yX11_isWave, Cond.instanceMethod yX11_isWave, Cond.selects RX11 yX11_isWave yX11_isWave, Cond.initialized RX11, Cond.methodLink RX11 352 yX11_copies, Cond.instanceMethod yX11_copies, Cond.selects RX11 yX11_copies yX11_copies, Cond.methodLink RX11 388 yX11_mayBe, Cond.instanceMethod yX11_mayBe, Cond.selects RX11 yX11_mayBe yX11_mayBe, Cond.methodLink RX11 297 yX11_oddsAt, Cond.instanceMethod yX11_oddsAt, Cond.selects RX11 yX11_oddsAt yX11_oddsAt]
noncomputable def wsX11_spread : List Cond := .code yX11_spread cX11_spread 5 (some .int) :: ((wsX11_spread_o ++ (wsX11_isWave ++ (wsX11_copies ++ (wsX11_mayBe ++ wsX11_oddsAt)))) ++ wsX110)
set_option maxRecDepth 20000 in
theorem gd_wsX11_spread : gdl wsX11_spread := gdl_cons (by decide +kernel) (gdl_app (gdl_app (gdl_dec (by decide +kernel)) (gdl_app gd_wsX11_isWave (gdl_app gd_wsX11_copies (gdl_app gd_wsX11_mayBe gd_wsX11_oddsAt)))) gd_wsX110)
noncomputable def wsX11_dearest_o : List Cond := [Cond.fieldLink RX11 49 "GuessFerryModel" "parties" "[I", Cond.fieldLink RX11 215 "GuessFerryModel" "live" "I", Cond.methodLink RX11 281 yX11_in, Cond.static yX11_in, Cond.initialized RX11, Cond.methodLink RX11 352 yX11_copies, Cond.instanceMethod yX11_copies, Cond.selects RX11 yX11_copies yX11_copies, Cond.methodLink RX11 339 yX11_faresOf, Cond.instanceMethod yX11_faresOf, Cond.selects RX11 yX11_faresOf yX11_faresOf]
noncomputable def wsX11_dearest : List Cond := .code yX11_dearest cX11_dearest 4 (some .int) :: ((wsX11_dearest_o ++ (wsX11_in ++ (wsX11_copies ++ wsX11_faresOf))) ++ wsX110)
set_option maxRecDepth 20000 in
theorem gd_wsX11_dearest : gdl wsX11_dearest := gdl_cons (by decide +kernel) (gdl_app (gdl_app (gdl_dec (by decide +kernel)) (gdl_app gd_wsX11_in (gdl_app gd_wsX11_copies gd_wsX11_faresOf))) gd_wsX110)
noncomputable def wsX11_chosen_o : List Cond := [Cond.fieldLink RX11 49 "GuessFerryModel" "parties" "[I", Cond.fieldLink RX11 215 "GuessFerryModel" "live" "I", Cond.methodLink RX11 352 yX11_copies, Cond.instanceMethod yX11_copies, Cond.selects RX11 yX11_copies yX11_copies, Cond.initialized RX11, Cond.methodLink RX11 364 yX11_isHere, Cond.instanceMethod yX11_isHere, Cond.selects RX11 yX11_isHere yX11_isHere, Cond.methodLink RX11 398 yX11_bestFor, Cond.instanceMethod yX11_bestFor, Cond.selects RX11 yX11_bestFor yX11_bestFor, Cond.methodLink RX11 392 yX11_chanceOf, Cond.instanceMethod yX11_chanceOf, Cond.selects RX11 yX11_chanceOf yX11_chanceOf]
noncomputable def wsX11_chosen : List Cond := .code yX11_chosen cX11_chosen 5 (some .int) :: ((wsX11_chosen_o ++ (wsX11_copies ++ (wsX11_isHere ++ (wsX11_bestFor ++ wsX11_chanceOf)))) ++ wsX110)
set_option maxRecDepth 20000 in
theorem gd_wsX11_chosen : gdl wsX11_chosen := gdl_cons (by decide +kernel) (gdl_app (gdl_app (gdl_dec (by decide +kernel)) (gdl_app gd_wsX11_copies (gdl_app gd_wsX11_isHere (gdl_app gd_wsX11_bestFor gd_wsX11_chanceOf)))) gd_wsX110)
noncomputable def wsX11_manyIn : List Cond := .code yX11_manyIn cX11_manyIn 4 (some .int) :: (([.fieldLink RX11 49 "GuessFerryModel" "parties" "[I", .fieldLink RX11 215 "GuessFerryModel" "live" "I", .fieldLink RX11 101 "GuessFerryModel" "row" "[I"] : List Cond) ++ wsX110)
set_option maxRecDepth 20000 in
theorem gd_wsX11_manyIn : gdl wsX11_manyIn := gdl_dec (by decide +kernel)
noncomputable def wsX11_allGo_o : List Cond := [Cond.fieldLink RX11 49 "GuessFerryModel" "parties" "[I", Cond.fieldLink RX11 215 "GuessFerryModel" "live" "I", Cond.fieldLink RX11 40 "GuessFerryModel" "waves" "[I", Cond.fieldLink RX11 101 "GuessFerryModel" "row" "[I", Cond.fieldLink RX11 98 "GuessFerryModel" "now" "[I", Cond.methodLink RX11 281 yX11_in, Cond.static yX11_in, Cond.initialized RX11, Cond.methodLink RX11 352 yX11_copies, Cond.instanceMethod yX11_copies, Cond.selects RX11 yX11_copies yX11_copies, Cond.methodLink RX11 370 yX11_thereNumber, Cond.instanceMethod yX11_thereNumber, Cond.selects RX11 yX11_thereNumber yX11_thereNumber, Cond.methodLink RX11 364 yX11_isHere, Cond.instanceMethod yX11_isHere, Cond.selects RX11 yX11_isHere yX11_isHere, Cond.methodLink RX11 361 yX11_doesDare, Cond.instanceMethod yX11_doesDare, Cond.selects RX11 yX11_doesDare yX11_doesDare, Cond.methodLink RX11 398 yX11_bestFor, Cond.instanceMethod yX11_bestFor, Cond.selects RX11 yX11_bestFor yX11_bestFor, Cond.methodLink RX11 373 yX11_goesBy, Cond.instanceMethod yX11_goesBy, Cond.selects RX11 yX11_goesBy yX11_goesBy, Cond.methodLink RX11 416 yX11_manyIn, Cond.instanceMethod yX11_manyIn, Cond.selects RX11 yX11_manyIn yX11_manyIn]
noncomputable def wsX11_allGo : List Cond := .code yX11_allGo cX11_allGo 5 (some .int) :: ((wsX11_allGo_o ++ (wsX11_in ++ (wsX11_copies ++ (wsX11_thereNumber ++ (wsX11_isHere ++ (wsX11_doesDare ++ (wsX11_bestFor ++ (wsX11_goesBy ++ wsX11_manyIn)))))))) ++ wsX110)
set_option maxRecDepth 20000 in
theorem gd_wsX11_allGo : gdl wsX11_allGo := gdl_cons (by decide +kernel) (gdl_app (gdl_app (gdl_dec (by decide +kernel)) (gdl_app gd_wsX11_in (gdl_app gd_wsX11_copies (gdl_app gd_wsX11_thereNumber (gdl_app gd_wsX11_isHere (gdl_app gd_wsX11_doesDare (gdl_app gd_wsX11_bestFor (gdl_app gd_wsX11_goesBy gd_wsX11_manyIn)))))))) gd_wsX110)
noncomputable def wsX11_darers_o : List Cond := [Cond.fieldLink RX11 49 "GuessFerryModel" "parties" "[I", Cond.fieldLink RX11 215 "GuessFerryModel" "live" "I", Cond.methodLink RX11 352 yX11_copies, Cond.instanceMethod yX11_copies, Cond.selects RX11 yX11_copies yX11_copies, Cond.initialized RX11, Cond.methodLink RX11 364 yX11_isHere, Cond.instanceMethod yX11_isHere, Cond.selects RX11 yX11_isHere yX11_isHere, Cond.methodLink RX11 361 yX11_doesDare, Cond.instanceMethod yX11_doesDare, Cond.selects RX11 yX11_doesDare yX11_doesDare]
noncomputable def wsX11_darers : List Cond := .code yX11_darers cX11_darers 3 (some .int) :: ((wsX11_darers_o ++ (wsX11_copies ++ (wsX11_isHere ++ wsX11_doesDare))) ++ wsX110)
set_option maxRecDepth 20000 in
theorem gd_wsX11_darers : gdl wsX11_darers := gdl_cons (by decide +kernel) (gdl_app (gdl_app (gdl_dec (by decide +kernel)) (gdl_app gd_wsX11_copies (gdl_app gd_wsX11_isHere gd_wsX11_doesDare))) gd_wsX110)
noncomputable def wsX11_open_o : List Cond := [.fieldLink RX11 40 "GuessFerryModel" "waves" "[I", .fieldLink RX11 215 "GuessFerryModel" "live" "I", .methodLink RX11 352 yX11_copies, .instanceMethod yX11_copies, .selects RX11 yX11_copies yX11_copies, .initialized RX11, .methodLink RX11 309 yX11_mayAt, .instanceMethod yX11_mayAt, .selects RX11 yX11_mayAt yX11_mayAt, .methodLink RX11 312 yX11_bits, .static yX11_bits]
noncomputable def wsX11_open : List Cond := .code yX11_open cX11_open 3 (some .int) :: ((wsX11_open_o ++ (wsX11_copies ++ (wsX11_mayAt ++ wsX11_bits))) ++ wsX110)
set_option maxRecDepth 20000 in
theorem gd_wsX11_open : gdl wsX11_open := gdl_cons (by decide +kernel) (gdl_app (gdl_app (gdl_dec (by decide +kernel)) (gdl_app gd_wsX11_copies (gdl_app gd_wsX11_mayAt gd_wsX11_bits))) gd_wsX110)
noncomputable def wsX11_then_o : List Cond := [Cond.fieldLink RX11 101 "GuessFerryModel" "row" "[I", Cond.methodLink RX11 349 yX11_isWave, Cond.instanceMethod yX11_isWave, Cond.selects RX11 yX11_isWave yX11_isWave, Cond.initialized RX11, Cond.methodLink RX11 281 yX11_in, Cond.static yX11_in, Cond.methodLink RX11 379 yX11_isLong, Cond.static yX11_isLong, Cond.methodLink RX11 352 yX11_copies, Cond.instanceMethod yX11_copies, Cond.selects RX11 yX11_copies yX11_copies, Cond.methodLink RX11 382 yX11_yearsGo, Cond.instanceMethod yX11_yearsGo, Cond.selects RX11 yX11_yearsGo yX11_yearsGo, Cond.methodLink RX11 309 yX11_mayAt, Cond.instanceMethod yX11_mayAt, Cond.selects RX11 yX11_mayAt yX11_mayAt, Cond.methodLink RX11 303 yX11_thereAt, Cond.instanceMethod yX11_thereAt, Cond.selects RX11 yX11_thereAt yX11_thereAt]
noncomputable def wsX11_then : List Cond := .code yX11_then cX11_then 4 (some .int) :: ((wsX11_then_o ++ (wsX11_isWave ++ (wsX11_isLong ++ (wsX11_in ++ (wsX11_copies ++ (wsX11_yearsGo ++ (wsX11_mayAt ++ wsX11_thereAt))))))) ++ wsX110)
set_option maxRecDepth 20000 in
theorem gd_wsX11_then : gdl wsX11_then := gdl_cons (by decide +kernel) (gdl_app (gdl_app (gdl_dec (by decide +kernel)) (gdl_app gd_wsX11_isWave (gdl_app gd_wsX11_isLong (gdl_app gd_wsX11_in (gdl_app gd_wsX11_copies (gdl_app gd_wsX11_yearsGo (gdl_app gd_wsX11_mayAt gd_wsX11_thereAt))))))) gd_wsX110)
noncomputable def wsX11_next_o : List Cond := [Cond.fieldLink RX11 101 "GuessFerryModel" "row" "[I", Cond.fieldLink RX11 98 "GuessFerryModel" "now" "[I", Cond.methodLink RX11 349 yX11_isWave, Cond.instanceMethod yX11_isWave, Cond.selects RX11 yX11_isWave yX11_isWave, Cond.initialized RX11, Cond.methodLink RX11 352 yX11_copies, Cond.instanceMethod yX11_copies, Cond.selects RX11 yX11_copies yX11_copies, Cond.methodLink RX11 346 yX11_yearGoes, Cond.instanceMethod yX11_yearGoes, Cond.selects RX11 yX11_yearGoes yX11_yearGoes]
noncomputable def wsX11_next : List Cond := .code yX11_next cX11_next 3 (some .int) :: ((wsX11_next_o ++ (wsX11_isWave ++ (wsX11_copies ++ wsX11_yearGoes))) ++ wsX110)
set_option maxRecDepth 20000 in
theorem gd_wsX11_next : gdl wsX11_next := gdl_cons (by decide +kernel) (gdl_app (gdl_app (gdl_dec (by decide +kernel)) (gdl_app gd_wsX11_isWave (gdl_app gd_wsX11_copies gd_wsX11_yearGoes))) gd_wsX110)
noncomputable def wsX11_year_o : List Cond := [Cond.fieldLink RX11 289 "GuessFerryModel" "lots" "I", Cond.methodLink RX11 367 yX11_isGuess, Cond.instanceMethod yX11_isGuess, Cond.selects RX11 yX11_isGuess yX11_isGuess, Cond.initialized RX11, Cond.methodLink RX11 281 yX11_in, Cond.static yX11_in, Cond.methodLink RX11 352 yX11_copies, Cond.instanceMethod yX11_copies, Cond.selects RX11 yX11_copies yX11_copies, Cond.methodLink RX11 370 yX11_thereNumber, Cond.instanceMethod yX11_thereNumber, Cond.selects RX11 yX11_thereNumber yX11_thereNumber]
noncomputable def wsX11_year : List Cond := .code yX11_year cX11_year 5 (some .int) :: ((wsX11_year_o ++ (wsX11_isGuess ++ (wsX11_in ++ (wsX11_copies ++ wsX11_thereNumber)))) ++ wsX110)
set_option maxRecDepth 20000 in
theorem gd_wsX11_year : gdl wsX11_year := gdl_cons (by decide +kernel) (gdl_app (gdl_app (gdl_dec (by decide +kernel)) (gdl_app gd_wsX11_isGuess (gdl_app gd_wsX11_in (gdl_app gd_wsX11_copies gd_wsX11_thereNumber)))) gd_wsX110)
noncomputable def wsX11_drawn_o : List Cond := [Cond.fieldLink RX11 289 "GuessFerryModel" "lots" "I", Cond.methodLink RX11 349 yX11_isWave, Cond.instanceMethod yX11_isWave, Cond.selects RX11 yX11_isWave yX11_isWave, Cond.initialized RX11, Cond.methodLink RX11 281 yX11_in, Cond.static yX11_in, Cond.methodLink RX11 352 yX11_copies, Cond.instanceMethod yX11_copies, Cond.selects RX11 yX11_copies yX11_copies, Cond.methodLink RX11 303 yX11_thereAt, Cond.instanceMethod yX11_thereAt, Cond.selects RX11 yX11_thereAt yX11_thereAt, Cond.methodLink RX11 312 yX11_bits, Cond.static yX11_bits]
noncomputable def wsX11_drawn : List Cond := .code yX11_drawn cX11_drawn 5 (some .int) :: ((wsX11_drawn_o ++ (wsX11_isWave ++ (wsX11_in ++ (wsX11_copies ++ (wsX11_thereAt ++ wsX11_bits))))) ++ wsX110)
set_option maxRecDepth 20000 in
theorem gd_wsX11_drawn : gdl wsX11_drawn := gdl_cons (by decide +kernel) (gdl_app (gdl_app (gdl_dec (by decide +kernel)) (gdl_app gd_wsX11_isWave (gdl_app gd_wsX11_in (gdl_app gd_wsX11_copies (gdl_app gd_wsX11_thereAt gd_wsX11_bits))))) gd_wsX110)
noncomputable def wsX11_tell_o : List Cond := [.fieldLink RX11 233 "GuessFerryModel" "tolds" "I", .fieldLink RX11 116 "GuessFerryModel" "toldWave" "[I", .fieldLink RX11 119 "GuessFerryModel" "toldThings" "[I", .fieldLink RX11 122 "GuessFerryModel" "toldSo" "[Z", .methodLink RX11 349 yX11_isWave, .instanceMethod yX11_isWave, .selects RX11 yX11_isWave yX11_isWave, .initialized RX11, .methodLink RX11 281 yX11_in, .static yX11_in]
noncomputable def wsX11_tell : List Cond := .code yX11_tell cX11_tell 4 (some .int) :: ((wsX11_tell_o ++ (wsX11_isWave ++ wsX11_in)) ++ wsX110)
set_option maxRecDepth 20000 in
theorem gd_wsX11_tell : gdl wsX11_tell := gdl_cons (by decide +kernel) (gdl_app (gdl_app (gdl_dec (by decide +kernel)) (gdl_app gd_wsX11_isWave gd_wsX11_in)) gd_wsX110)
noncomputable def wsX11_forget : List Cond := .code yX11_forget cX11_forget 2 (some .int) :: (([.fieldLink RX11 233 "GuessFerryModel" "tolds" "I"] : List Cond) ++ wsX110)
set_option maxRecDepth 20000 in
theorem gd_wsX11_forget : gdl wsX11_forget := gdl_dec (by decide +kernel)
noncomputable def wsX11_isSo_o : List Cond := [.fieldLink RX11 119 "GuessFerryModel" "toldThings" "[I", .fieldLink RX11 116 "GuessFerryModel" "toldWave" "[I", .fieldLink RX11 122 "GuessFerryModel" "toldSo" "[Z", .methodLink RX11 330 yX11_thingAt, .instanceMethod yX11_thingAt, .selects RX11 yX11_thingAt yX11_thingAt, .initialized RX11]
noncomputable def wsX11_isSo : List Cond := .code yX11_isSo cX11_isSo 3 (some .boolean) :: ((wsX11_isSo_o ++ wsX11_thingAt) ++ wsX110)
set_option maxRecDepth 20000 in
theorem gd_wsX11_isSo : gdl wsX11_isSo := gdl_cons (by decide +kernel) (gdl_app (gdl_app (gdl_dec (by decide +kernel)) gd_wsX11_thingAt) gd_wsX110)
noncomputable def wsX11_doesFit_o : List Cond := [.fieldLink RX11 113 "GuessFerryModel" "chanceBy" "[I", .methodLink RX11 419 yX11_isSo, .instanceMethod yX11_isSo, .selects RX11 yX11_isSo yX11_isSo, .initialized RX11]
noncomputable def wsX11_doesFit : List Cond := .code yX11_doesFit cX11_doesFit 6 (some .boolean) :: ((wsX11_doesFit_o ++ wsX11_isSo) ++ wsX110)
set_option maxRecDepth 20000 in
theorem gd_wsX11_doesFit : gdl wsX11_doesFit := gdl_cons (by decide +kernel) (gdl_app (gdl_app (gdl_dec (by decide +kernel)) gd_wsX11_isSo) gd_wsX110)
noncomputable def wsX11_isAsked_o : List Cond := [.fieldLink RX11 233 "GuessFerryModel" "tolds" "I", .methodLink RX11 281 yX11_in, .static yX11_in, .initialized RX11]
noncomputable def wsX11_isAsked : List Cond := .code yX11_isAsked cX11_isAsked 3 (some .boolean) :: ((wsX11_isAsked_o ++ wsX11_in) ++ wsX110)
set_option maxRecDepth 20000 in
theorem gd_wsX11_isAsked : gdl wsX11_isAsked := gdl_cons (by decide +kernel) (gdl_app (gdl_app (gdl_dec (by decide +kernel)) gd_wsX11_in) gd_wsX110)
noncomputable def wsX11_fit_o : List Cond := [Cond.fieldLink RX11 113 "GuessFerryModel" "chanceBy" "[I", Cond.methodLink RX11 422 yX11_isAsked, Cond.instanceMethod yX11_isAsked, Cond.selects RX11 yX11_isAsked yX11_isAsked, Cond.initialized RX11, Cond.methodLink RX11 281 yX11_in, Cond.static yX11_in, Cond.methodLink RX11 404 yX11_fillsChances, Cond.instanceMethod yX11_fillsChances, Cond.selects RX11 yX11_fillsChances yX11_fillsChances, Cond.methodLink RX11 285 yX11_guesses, Cond.instanceMethod yX11_guesses, Cond.selects RX11 yX11_guesses yX11_guesses, Cond.methodLink RX11 425 yX11_doesFit, Cond.instanceMethod yX11_doesFit, Cond.selects RX11 yX11_doesFit yX11_doesFit]
noncomputable def wsX11_fit : List Cond := .code yX11_fit cX11_fit 6 (some .int) :: ((wsX11_fit_o ++ (wsX11_isAsked ++ (wsX11_in ++ (wsX11_fillsChances ++ (wsX11_guesses ++ wsX11_doesFit))))) ++ wsX110)
set_option maxRecDepth 20000 in
theorem gd_wsX11_fit : gdl wsX11_fit := gdl_cons (by decide +kernel) (gdl_app (gdl_app (gdl_dec (by decide +kernel)) (gdl_app gd_wsX11_isAsked (gdl_app gd_wsX11_in (gdl_app gd_wsX11_fillsChances (gdl_app gd_wsX11_guesses gd_wsX11_doesFit))))) gd_wsX110)
noncomputable def wsX11_lie_o : List Cond := [Cond.methodLink RX11 422 yX11_isAsked, Cond.instanceMethod yX11_isAsked, Cond.selects RX11 yX11_isAsked yX11_isAsked, Cond.initialized RX11, Cond.methodLink RX11 404 yX11_fillsChances, Cond.instanceMethod yX11_fillsChances, Cond.selects RX11 yX11_fillsChances yX11_fillsChances, Cond.methodLink RX11 285 yX11_guesses, Cond.instanceMethod yX11_guesses, Cond.selects RX11 yX11_guesses yX11_guesses, Cond.methodLink RX11 425 yX11_doesFit, Cond.instanceMethod yX11_doesFit, Cond.selects RX11 yX11_doesFit yX11_doesFit, Cond.methodLink RX11 419 yX11_isSo, Cond.instanceMethod yX11_isSo, Cond.selects RX11 yX11_isSo yX11_isSo]
noncomputable def wsX11_lie : List Cond := .code yX11_lie cX11_lie 6 (some .int) :: ((wsX11_lie_o ++ (wsX11_isAsked ++ (wsX11_fillsChances ++ (wsX11_guesses ++ (wsX11_doesFit ++ wsX11_isSo))))) ++ wsX110)
set_option maxRecDepth 20000 in
theorem gd_wsX11_lie : gdl wsX11_lie := gdl_cons (by decide +kernel) (gdl_app (gdl_app (gdl_dec (by decide +kernel)) (gdl_app gd_wsX11_isAsked (gdl_app gd_wsX11_fillsChances (gdl_app gd_wsX11_guesses (gdl_app gd_wsX11_doesFit gd_wsX11_isSo))))) gd_wsX110)
noncomputable def wsX11_worstAt : List Cond := .code yX11_worstAt cX11_worstAt 4 (some .int) :: (([.fieldLink RX11 125 "GuessFerryModel" "fitBy" "[I"] : List Cond) ++ wsX110)
set_option maxRecDepth 20000 in
theorem gd_wsX11_worstAt : gdl wsX11_worstAt := gdl_dec (by decide +kernel)
noncomputable def wsX11_ask_o : List Cond := [Cond.fieldLink RX11 125 "GuessFerryModel" "fitBy" "[I", Cond.fieldLink RX11 40 "GuessFerryModel" "waves" "[I", Cond.fieldLink RX11 215 "GuessFerryModel" "live" "I", Cond.methodLink RX11 422 yX11_isAsked, Cond.instanceMethod yX11_isAsked, Cond.selects RX11 yX11_isAsked yX11_isAsked, Cond.initialized RX11, Cond.methodLink RX11 404 yX11_fillsChances, Cond.instanceMethod yX11_fillsChances, Cond.selects RX11 yX11_fillsChances yX11_fillsChances, Cond.methodLink RX11 285 yX11_guesses, Cond.instanceMethod yX11_guesses, Cond.selects RX11 yX11_guesses yX11_guesses, Cond.methodLink RX11 330 yX11_thingAt, Cond.instanceMethod yX11_thingAt, Cond.selects RX11 yX11_thingAt yX11_thingAt, Cond.methodLink RX11 425 yX11_doesFit, Cond.instanceMethod yX11_doesFit, Cond.selects RX11 yX11_doesFit yX11_doesFit, Cond.methodLink RX11 428 yX11_worstAt, Cond.instanceMethod yX11_worstAt, Cond.selects RX11 yX11_worstAt yX11_worstAt]
noncomputable def wsX11_ask : List Cond := .code yX11_ask cX11_ask 6 (some .int) :: ((wsX11_ask_o ++ (wsX11_isAsked ++ (wsX11_fillsChances ++ (wsX11_guesses ++ (wsX11_doesFit ++ (wsX11_thingAt ++ wsX11_worstAt)))))) ++ wsX110)
set_option maxRecDepth 20000 in
theorem gd_wsX11_ask : gdl wsX11_ask := gdl_cons (by decide +kernel) (gdl_app (gdl_app (gdl_dec (by decide +kernel)) (gdl_app gd_wsX11_isAsked (gdl_app gd_wsX11_fillsChances (gdl_app gd_wsX11_guesses (gdl_app gd_wsX11_doesFit (gdl_app gd_wsX11_thingAt gd_wsX11_worstAt)))))) gd_wsX110)
noncomputable def wsX11_hold_o : List Cond := [.fieldLink RX11 128 "GuessFerryModel" "isHeld" "[Z", .fieldLink RX11 131 "GuessFerryModel" "heldRows" "[I", .fieldLink RX11 98 "GuessFerryModel" "now" "[I", .methodLink RX11 281 yX11_in, .static yX11_in, .initialized RX11]
noncomputable def wsX11_hold : List Cond := .code yX11_hold cX11_hold 3 (some .boolean) :: ((wsX11_hold_o ++ wsX11_in) ++ wsX110)
set_option maxRecDepth 20000 in
theorem gd_wsX11_hold : gdl wsX11_hold := gdl_cons (by decide +kernel) (gdl_app (gdl_app (gdl_dec (by decide +kernel)) gd_wsX11_in) gd_wsX110)
noncomputable def wsX11_restore_o : List Cond := [.fieldLink RX11 128 "GuessFerryModel" "isHeld" "[Z", .fieldLink RX11 98 "GuessFerryModel" "now" "[I", .fieldLink RX11 131 "GuessFerryModel" "heldRows" "[I", .fieldLink RX11 230 "GuessFerryModel" "undos" "I", .methodLink RX11 281 yX11_in, .static yX11_in, .initialized RX11]
noncomputable def wsX11_restore : List Cond := .code yX11_restore cX11_restore 3 (some .boolean) :: ((wsX11_restore_o ++ wsX11_in) ++ wsX110)
set_option maxRecDepth 20000 in
theorem gd_wsX11_restore : gdl wsX11_restore := gdl_cons (by decide +kernel) (gdl_app (gdl_app (gdl_dec (by decide +kernel)) gd_wsX11_in) gd_wsX110)
noncomputable def wsX11_partiesIn : List Cond := .code yX11_partiesIn cX11_partiesIn 4 (some .int) :: (([.fieldLink RX11 49 "GuessFerryModel" "parties" "[I", .fieldLink RX11 215 "GuessFerryModel" "live" "I", .fieldLink RX11 101 "GuessFerryModel" "row" "[I"] : List Cond) ++ wsX110)
set_option maxRecDepth 20000 in
theorem gd_wsX11_partiesIn : gdl wsX11_partiesIn := gdl_dec (by decide +kernel)
noncomputable def wsX11_sumNow : List Cond := .code yX11_sumNow cX11_sumNow 5 (some .int) :: (([.fieldLink RX11 98 "GuessFerryModel" "now" "[I"] : List Cond) ++ wsX110)
set_option maxRecDepth 20000 in
theorem gd_wsX11_sumNow : gdl wsX11_sumNow := gdl_dec (by decide +kernel)
noncomputable def wsX11_count_o : List Cond := [Cond.fieldLink RX11 40 "GuessFerryModel" "waves" "[I", Cond.fieldLink RX11 215 "GuessFerryModel" "live" "I", Cond.fieldLink RX11 49 "GuessFerryModel" "parties" "[I", Cond.fieldLink RX11 101 "GuessFerryModel" "row" "[I", Cond.fieldLink RX11 148 "GuessFerryModel" "taped" "I", Cond.fieldLink RX11 230 "GuessFerryModel" "undos" "I", Cond.fieldLink RX11 233 "GuessFerryModel" "tolds" "I", Cond.fieldLink RX11 128 "GuessFerryModel" "isHeld" "[Z", Cond.methodLink RX11 352 yX11_copies, Cond.instanceMethod yX11_copies, Cond.selects RX11 yX11_copies yX11_copies, Cond.initialized RX11, Cond.methodLink RX11 431 yX11_partiesIn, Cond.instanceMethod yX11_partiesIn, Cond.selects RX11 yX11_partiesIn yX11_partiesIn, Cond.methodLink RX11 434 yX11_sumNow, Cond.instanceMethod yX11_sumNow, Cond.selects RX11 yX11_sumNow yX11_sumNow, Cond.methodLink RX11 312 yX11_bits, Cond.static yX11_bits, Cond.methodLink RX11 285 yX11_guesses, Cond.instanceMethod yX11_guesses, Cond.selects RX11 yX11_guesses yX11_guesses, Cond.methodLink RX11 370 yX11_thereNumber, Cond.instanceMethod yX11_thereNumber, Cond.selects RX11 yX11_thereNumber yX11_thereNumber, Cond.methodLink RX11 309 yX11_mayAt, Cond.instanceMethod yX11_mayAt, Cond.selects RX11 yX11_mayAt yX11_mayAt, Cond.methodLink RX11 364 yX11_isHere, Cond.instanceMethod yX11_isHere, Cond.selects RX11 yX11_isHere yX11_isHere, Cond.methodLink RX11 339 yX11_faresOf, Cond.instanceMethod yX11_faresOf, Cond.selects RX11 yX11_faresOf yX11_faresOf]
noncomputable def wsX11_count : List Cond := .code yX11_count cX11_count 4 (some .int) :: ((wsX11_count_o ++ (wsX11_copies ++ (wsX11_partiesIn ++ (wsX11_sumNow ++ (wsX11_bits ++ (wsX11_guesses ++ (wsX11_thereNumber ++ (wsX11_mayAt ++ (wsX11_isHere ++ wsX11_faresOf))))))))) ++ wsX110)
set_option maxRecDepth 20000 in
theorem gd_wsX11_count : gdl wsX11_count := gdl_cons (by decide +kernel) (gdl_app (gdl_app (gdl_dec (by decide +kernel)) (gdl_app gd_wsX11_copies (gdl_app gd_wsX11_partiesIn (gdl_app gd_wsX11_sumNow (gdl_app gd_wsX11_bits (gdl_app gd_wsX11_guesses (gdl_app gd_wsX11_thereNumber (gdl_app gd_wsX11_mayAt (gdl_app gd_wsX11_isHere gd_wsX11_faresOf))))))))) gd_wsX110)
noncomputable def wsJ9_max_7cf53 : List Cond := .code yJ9_max_7cf53 cJ9_max_7cf53 2 (some .int) :: ([])
set_option maxRecDepth 20000 in
theorem gd_wsJ9_max_7cf53 : gdl wsJ9_max_7cf53 := gdl_dec (by decide +kernel)
noncomputable def wsJ9_min_7cf53 : List Cond := .code yJ9_min_7cf53 cJ9_min_7cf53 2 (some .int) :: ([])
set_option maxRecDepth 20000 in
theorem gd_wsJ9_min_7cf53 : gdl wsJ9_min_7cf53 := gdl_dec (by decide +kernel)
noncomputable abbrev vwCl : List vw_C := [(RX0, TX0, 2), (RX1, TX1, 9), (RX2, TX2, 6), (RX3, TX3, 5), (RX4, TX4, 8), (RX5, TX5, 10), (RX6, TX6, 7), (RX7, TX7, 2), (RX8, TX8, 8), (RX9, TX9, 7), (RX10, TX10, 9), (RX11, TX11, 58)]
