/-! ===== BEGIN words of one list among another's, by their places ===== -/
theorem goodIn_r {big : List Cond} (ws : List Cond) (ps : List Nat) (hp : ws = ps.filterMap (fun i => big[i]?)) (h : ws.all goodWord = true) : GoodIn big ws := by
  intro w hw
  have h1 := List.all_eq_true.mp h w hw
  rw [hp] at hw
  obtain ⟨i, -, hi⟩ := List.mem_filterMap.mp hw
  have hm : w ∈ big := by first | exact List.mem_of_getElem? hi | exact List.getElem?_mem hi
  exact ⟨hm, good_of_word h1⟩
theorem goodIn_app {big a b : List Cond} (ha : GoodIn big a) (hb : GoodIn big b) : GoodIn big (a ++ b) := fun w h => (List.mem_append.mp h).elim (ha w) (hb w)
theorem goodIn_ca {big a b : List Cond} {c : Cond} (ha : GoodIn big (c :: a)) (hb : GoodIn big b) : GoodIn big (c :: (a ++ b)) := fun w h => (List.mem_cons.mp h).elim (fun e => ha w (List.mem_cons.mpr (Or.inl e))) (fun h => (List.mem_append.mp h).elim (fun h => ha w (List.mem_cons.mpr (Or.inr h))) (hb w))
theorem goodIn_sub {big ws : List Cond} (hm : ∀ w ∈ ws, w ∈ big) (h : ws.all goodWord = true) : GoodIn big ws := fun w hw => ⟨hm w hw, good_of_word (List.all_eq_true.mp h w hw)⟩
/-! ===== END ===== -/

/-! ===== BEGIN printed: names, fields, word lists, decode rows ===== -/
def RX0 : String := "JoinBench$Chain"
def TX0 : u_T := fun k => match k with
  | 0 => ("JoinBench$Chain", "forms", "[LJoinBench$Form;", true)
  | 1 => ("JoinBench$Chain", "rules", "[LJoinBench$Rule;", true)
  | _ => ("JoinBench$Chain", "size", "I", false)
def tyX0 : Nat → FieldType := fun k => match k with
  | 0 => .array (.object "JoinBench$Form")
  | 1 => .array (.object "JoinBench$Rule")
  | _ => .int
abbrev wsX00 : List Cond := u_ws RX0 TX0 3
theorem nmX0 : ∀ a, a < 3 → ∀ b, b < 3 → a ≠ b → (TX0 a).2.1 ≠ (TX0 b).2.1 := by decide +kernel
theorem tyX0_ok : ∀ k, k < 3 → parseFieldDescriptor (TX0 k).2.2.1 = some (tyX0 k) := by decide +kernel
abbrev cX0_init : ByteArray := prog_2_method_1_code
def yX0_init : MethodName := ⟨RX0, "<init>", "()V"⟩
abbrev cX0_append : ByteArray := prog_2_method_2_code
def yX0_append : MethodName := ⟨RX0, "append", "(LJoinBench$Form;LJoinBench$Rule;)V"⟩
abbrev cX0_formAt : ByteArray := prog_2_method_3_code
def yX0_formAt : MethodName := ⟨RX0, "formAt", "(I)LJoinBench$Form;"⟩
abbrev cX0_ruleAheadOf : ByteArray := prog_2_method_4_code
def yX0_ruleAheadOf : MethodName := ⟨RX0, "ruleAheadOf", "(I)LJoinBench$Rule;"⟩
abbrev cX0_last : ByteArray := prog_2_method_5_code
def yX0_last : MethodName := ⟨RX0, "last", "()LJoinBench$Form;"⟩
abbrev cX0_lastCut : ByteArray := prog_2_method_6_code
def yX0_lastCut : MethodName := ⟨RX0, "lastCut", "()I"⟩
abbrev cX0_cutAtBeginning : ByteArray := prog_2_method_7_code
def yX0_cutAtBeginning : MethodName := ⟨RX0, "cutAtBeginning", "(I)I"⟩
abbrev cX0_cutAtEnd : ByteArray := prog_2_method_8_code
def yX0_cutAtEnd : MethodName := ⟨RX0, "cutAtEnd", "(I)I"⟩
abbrev cX0_price : ByteArray := prog_2_method_9_code
def yX0_price : MethodName := ⟨RX0, "price", "()I"⟩
abbrev cX0_copyFrom : ByteArray := prog_2_method_10_code
def yX0_copyFrom : MethodName := ⟨RX0, "copyFrom", "(LJoinBench$Chain;)V"⟩
def RX1 : String := "JoinBench$Choices"
def TX1 : u_T := fun k => match k with
  | 0 => ("JoinBench$Choices", "uses", "[I", true)
  | 1 => ("JoinBench$Choices", "size", "I", false)
  | 2 => ("JoinBench$Choices", "costsBefore", "[[I", true)
  | 3 => ("JoinBench$Choices", "usesBefore", "[[I", true)
  | 4 => ("JoinBench$Choices", "formsBefore", "[I", true)
  | _ => ("JoinBench$Choices", "oldest", "I", false)
def tyX1 : Nat → FieldType := fun k => match k with
  | 0 => .array .int
  | 1 => .int
  | 2 => .array (.array .int)
  | 3 => .array (.array .int)
  | 4 => .array .int
  | _ => .int
abbrev wsX10 : List Cond := u_ws RX1 TX1 6
theorem nmX1 : ∀ a, a < 6 → ∀ b, b < 6 → a ≠ b → (TX1 a).2.1 ≠ (TX1 b).2.1 := by decide +kernel
theorem tyX1_ok : ∀ k, k < 6 → parseFieldDescriptor (TX1 k).2.2.1 = some (tyX1 k) := by decide +kernel
abbrev cX1_init : ByteArray := prog_3_method_1_code
def yX1_init : MethodName := ⟨RX1, "<init>", "()V"⟩
abbrev cX1_remember : ByteArray := prog_3_method_2_code
def yX1_remember : MethodName := ⟨RX1, "remember", "(LJoinBench$Tongue;)V"⟩
abbrev cX1_learn : ByteArray := prog_3_method_3_code
def yX1_learn : MethodName := ⟨RX1, "learn", "(LJoinBench$Chain;I)V"⟩
abbrev cX1_restore : ByteArray := prog_3_method_4_code
def yX1_restore : MethodName := ⟨RX1, "restore", "(LJoinBench$Tongue;)Z"⟩
def RX2 : String := "JoinBench$Form"
def TX2 : u_T := fun k => match k with
  | 0 => ("JoinBench$Form", "letters", "[B", true)
  | 1 => ("JoinBench$Form", "kind", "I", true)
  | 2 => ("JoinBench$Form", "stem", "I", true)
  | 3 => ("JoinBench$Form", "kept", "Z", true)
  | 4 => ("JoinBench$Form", "cost", "I", false)
  | 5 => ("JoinBench$Form", "number", "I", false)
  | 6 => ("JoinBench$Form", "ends", "I", false)
  | _ => ("JoinBench$Form", "begins", "I", false)
def tyX2 : Nat → FieldType := fun k => match k with
  | 0 => .array .byte
  | 1 => .int
  | 2 => .int
  | 3 => .boolean
  | 4 => .int
  | 5 => .int
  | 6 => .int
  | _ => .int
abbrev wsX20 : List Cond := u_ws RX2 TX2 8
theorem nmX2 : ∀ a, a < 8 → ∀ b, b < 8 → a ≠ b → (TX2 a).2.1 ≠ (TX2 b).2.1 := by decide +kernel
theorem tyX2_ok : ∀ k, k < 8 → parseFieldDescriptor (TX2 k).2.2.1 = some (tyX2 k) := by decide +kernel
abbrev cX2_init : ByteArray := prog_4_method_1_code
def yX2_init : MethodName := ⟨RX2, "<init>", "(LJoinBench$Tape;IIIZ)V"⟩
def RX3 : String := "JoinBench$Lattice"
def TX3 : u_T := fun k => match k with
  | 0 => ("JoinBench$Lattice", "cheapest", "[[I", true)
  | 1 => ("JoinBench$Lattice", "size", "I", false)
  | 2 => ("JoinBench$Lattice", "tongue", "LJoinBench$Tongue;", true)
  | 3 => ("JoinBench$Lattice", "line", "[B", true)
  | 4 => ("JoinBench$Lattice", "ways", "[J", true)
  | 5 => ("JoinBench$Lattice", "plainWays", "[[J", true)
  | 6 => ("JoinBench$Lattice", "plainCheapest", "[[I", true)
  | 7 => ("JoinBench$Lattice", "ruledWays", "[[J", true)
  | 8 => ("JoinBench$Lattice", "ruledCheapest", "[[I", true)
  | 9 => ("JoinBench$Lattice", "inForce", "I", false)
  | _ => ("JoinBench$Lattice", "barred", "[Z", true)
def tyX3 : Nat → FieldType := fun k => match k with
  | 0 => .array (.array .int)
  | 1 => .int
  | 2 => .object "JoinBench$Tongue"
  | 3 => .array .byte
  | 4 => .array .long
  | 5 => .array (.array .long)
  | 6 => .array (.array .int)
  | 7 => .array (.array .long)
  | 8 => .array (.array .int)
  | 9 => .int
  | _ => .array .boolean
abbrev wsX30 : List Cond := u_ws RX3 TX3 11
theorem nmX3 : ∀ a, a < 11 → ∀ b, b < 11 → a ≠ b → (TX3 a).2.1 ≠ (TX3 b).2.1 := by decide +kernel
theorem tyX3_ok : ∀ k, k < 11 → parseFieldDescriptor (TX3 k).2.2.1 = some (tyX3 k) := by decide +kernel
abbrev cX3_init : ByteArray := prog_5_method_1_code
def yX3_init : MethodName := ⟨RX3, "<init>", "(LJoinBench$Tongue;)V"⟩
abbrev cX3_setLine : ByteArray := prog_5_method_2_code
def yX3_setLine : MethodName := ⟨RX3, "setLine", "([BII)V"⟩
abbrev cX3_fill : ByteArray := prog_5_method_3_code
def yX3_fill : MethodName := ⟨RX3, "fill", "(Z)J"⟩
abbrev cX3_setForm : ByteArray := prog_5_method_4_code
def yX3_setForm : MethodName := ⟨RX3, "setForm", "(ILJoinBench$Form;)V"⟩
abbrev cX3_addPlainEnd : ByteArray := prog_5_method_5_code
def yX3_addPlainEnd : MethodName := ⟨RX3, "addPlainEnd", "(ILJoinBench$Form;II)V"⟩
abbrev cX3_addRuledEnds : ByteArray := prog_5_method_6_code
def yX3_addRuledEnds : MethodName := ⟨RX3, "addRuledEnds", "(ILJoinBench$Form;II)V"⟩
abbrev cX3_addToState : ByteArray := prog_5_method_7_code
def yX3_addToState : MethodName := ⟨RX3, "addToState", "(ILJoinBench$Form;IJI)V"⟩
abbrev cX3_gatherForm : ByteArray := prog_5_method_8_code
def yX3_gatherForm : MethodName := ⟨RX3, "gatherForm", "(ILJoinBench$Form;)V"⟩
abbrev cX3_gatherPlain : ByteArray := prog_5_method_9_code
def yX3_gatherPlain : MethodName := ⟨RX3, "gatherPlain", "(ILJoinBench$Form;)V"⟩
abbrev cX3_gatherRuled : ByteArray := prog_5_method_10_code
def yX3_gatherRuled : MethodName := ⟨RX3, "gatherRuled", "(ILJoinBench$Form;I)V"⟩
abbrev cX3_gatherBehindRule : ByteArray := prog_5_method_11_code
def yX3_gatherBehindRule : MethodName := ⟨RX3, "gatherBehindRule", "(ILJoinBench$Form;I)V"⟩
abbrev cX3_canMeetPlain : ByteArray := prog_5_method_12_code
def yX3_canMeetPlain : MethodName := ⟨RX3, "canMeetPlain", "(LJoinBench$Form;LJoinBench$Form;)Z"⟩
abbrev cX3_canMeetBy : ByteArray := prog_5_method_13_code
def yX3_canMeetBy : MethodName := ⟨RX3, "canMeetBy", "(ILJoinBench$Form;LJoinBench$Form;)Z"⟩
abbrev cX3_sharedLetters : ByteArray := prog_5_method_14_code
def yX3_sharedLetters : MethodName := ⟨RX3, "sharedLetters", "(ILJoinBench$Form;I)I"⟩
abbrev cX3_placeBehind : ByteArray := prog_5_method_15_code
def yX3_placeBehind : MethodName := ⟨RX3, "placeBehind", "(IIILJoinBench$Rule;)I"⟩
def RX4 : String := "JoinBench$Parter"
def TX4 : u_T := fun k => match k with
  | 0 => ("JoinBench$Parter", "countedUncut", "J", false)
  | 1 => ("JoinBench$Parter", "counted", "J", false)
  | 2 => ("JoinBench$Parter", "left", "Z", false)
  | 3 => ("JoinBench$Parter", "told", "[LJoinBench$Path;", false)
  | 4 => ("JoinBench$Parter", "toldCount", "I", false)
  | 5 => ("JoinBench$Parter", "grown", "[LJoinBench$Path;", false)
  | 6 => ("JoinBench$Parter", "keys", "[I", true)
  | 7 => ("JoinBench$Parter", "keyCount", "I", false)
  | 8 => ("JoinBench$Parter", "tongue", "LJoinBench$Tongue;", true)
  | _ => ("JoinBench$Parter", "lattice", "LJoinBench$Lattice;", true)
def tyX4 : Nat → FieldType := fun k => match k with
  | 0 => .long
  | 1 => .long
  | 2 => .boolean
  | 3 => .array (.object "JoinBench$Path")
  | 4 => .int
  | 5 => .array (.object "JoinBench$Path")
  | 6 => .array .int
  | 7 => .int
  | 8 => .object "JoinBench$Tongue"
  | _ => .object "JoinBench$Lattice"
abbrev wsX40 : List Cond := u_ws RX4 TX4 10
theorem nmX4 : ∀ a, a < 10 → ∀ b, b < 10 → a ≠ b → (TX4 a).2.1 ≠ (TX4 b).2.1 := by decide +kernel
theorem tyX4_ok : ∀ k, k < 10 → parseFieldDescriptor (TX4 k).2.2.1 = some (tyX4 k) := by decide +kernel
abbrev cX4_init : ByteArray := prog_6_method_1_code
def yX4_init : MethodName := ⟨RX4, "<init>", "(LJoinBench$Tongue;)V"⟩
abbrev cX4_countLine : ByteArray := prog_6_method_2_code
def yX4_countLine : MethodName := ⟨RX4, "countLine", "([BII)V"⟩
abbrev cX4_tell : ByteArray := prog_6_method_3_code
def yX4_tell : MethodName := ⟨RX4, "tell", "()V"⟩
abbrev cX4_allEnded : ByteArray := prog_6_method_4_code
def yX4_allEnded : MethodName := ⟨RX4, "allEnded", "()Z"⟩
abbrev cX4_startPaths : ByteArray := prog_6_method_5_code
def yX4_startPaths : MethodName := ⟨RX4, "startPaths", "()V"⟩
abbrev cX4_growPaths : ByteArray := prog_6_method_6_code
def yX4_growPaths : MethodName := ⟨RX4, "growPaths", "()V"⟩
abbrev cX4_offerPlainSteps : ByteArray := prog_6_method_7_code
def yX4_offerPlainSteps : MethodName := ⟨RX4, "offerPlainSteps", "(LJoinBench$Path;)V"⟩
abbrev cX4_offerRuledSteps : ByteArray := prog_6_method_8_code
def yX4_offerRuledSteps : MethodName := ⟨RX4, "offerRuledSteps", "(LJoinBench$Path;)V"⟩
abbrev cX4_offerStepsBehind : ByteArray := prog_6_method_9_code
def yX4_offerStepsBehind : MethodName := ⟨RX4, "offerStepsBehind", "(LJoinBench$Path;LJoinBench$Form;II)V"⟩
abbrev cX4_offer : ByteArray := prog_6_method_10_code
def yX4_offer : MethodName := ⟨RX4, "offer", "(IIII)V"⟩
abbrev cX4_grow : ByteArray := prog_6_method_11_code
def yX4_grow : MethodName := ⟨RX4, "grow", "(LJoinBench$Path;I)V"⟩
abbrev cX4_pathOfRank : ByteArray := prog_6_method_12_code
def yX4_pathOfRank : MethodName := ⟨RX4, "pathOfRank", "(I)LJoinBench$Path;"⟩
abbrev cX4_keyForm : ByteArray := prog_6_method_13_code
def yX4_keyForm : MethodName := ⟨RX4, "keyForm", "(I)I"⟩
abbrev cX4_rankOf : ByteArray := prog_6_method_14_code
def yX4_rankOf : MethodName := ⟨RX4, "rankOf", "(I)I"⟩
def RX5 : String := "JoinBench$Path"
def TX5 : u_T := fun k => match k with
  | 0 => ("JoinBench$Path", "chain", "LJoinBench$Chain;", true)
  | 1 => ("JoinBench$Path", "cost", "I", false)
  | 2 => ("JoinBench$Path", "spent", "I", false)
  | 3 => ("JoinBench$Path", "place", "I", false)
  | 4 => ("JoinBench$Path", "ended", "Z", false)
  | _ => ("JoinBench$Path", "rank", "I", false)
def tyX5 : Nat → FieldType := fun k => match k with
  | 0 => .object "JoinBench$Chain"
  | 1 => .int
  | 2 => .int
  | 3 => .int
  | 4 => .boolean
  | _ => .int
abbrev wsX50 : List Cond := u_ws RX5 TX5 6
theorem nmX5 : ∀ a, a < 6 → ∀ b, b < 6 → a ≠ b → (TX5 a).2.1 ≠ (TX5 b).2.1 := by decide +kernel
theorem tyX5_ok : ∀ k, k < 6 → parseFieldDescriptor (TX5 k).2.2.1 = some (tyX5 k) := by decide +kernel
abbrev cX5_init : ByteArray := prog_7_method_1_code
def yX5_init : MethodName := ⟨RX5, "<init>", "()V"⟩
def RX6 : String := "JoinBench$Row"
def TX6 : u_T := fun k => match k with
  | 0 => ("JoinBench$Row", "chain", "LJoinBench$Chain;", true)
  | 1 => ("JoinBench$Row", "out", "[B", true)
  | 2 => ("JoinBench$Row", "day", "I", false)
  | _ => ("JoinBench$Row", "outSize", "I", false)
def tyX6 : Nat → FieldType := fun k => match k with
  | 0 => .object "JoinBench$Chain"
  | 1 => .array .byte
  | 2 => .int
  | _ => .int
abbrev wsX60 : List Cond := u_ws RX6 TX6 4
theorem nmX6 : ∀ a, a < 4 → ∀ b, b < 4 → a ≠ b → (TX6 a).2.1 ≠ (TX6 b).2.1 := by decide +kernel
theorem tyX6_ok : ∀ k, k < 4 → parseFieldDescriptor (TX6 k).2.2.1 = some (tyX6 k) := by decide +kernel
abbrev cX6_init : ByteArray := prog_8_method_1_code
def yX6_init : MethodName := ⟨RX6, "<init>", "()V"⟩
abbrev cX6_join : ByteArray := prog_8_method_2_code
def yX6_join : MethodName := ⟨RX6, "join", "()V"⟩
abbrev cX6_write : ByteArray := prog_8_method_3_code
def yX6_write : MethodName := ⟨RX6, "write", "([BII)V"⟩
def RX7 : String := "JoinBench$Rule"
def TX7 : u_T := fun k => match k with
  | 0 => ("JoinBench$Rule", "letters", "[B", true)
  | 1 => ("JoinBench$Rule", "endSize", "I", true)
  | 2 => ("JoinBench$Rule", "beginningSize", "I", true)
  | 3 => ("JoinBench$Rule", "comesFrom", "I", true)
  | 4 => ("JoinBench$Rule", "comesSize", "I", true)
  | 5 => ("JoinBench$Rule", "cost", "I", true)
  | 6 => ("JoinBench$Rule", "firstDay", "I", true)
  | 7 => ("JoinBench$Rule", "lastDay", "I", true)
  | _ => ("JoinBench$Rule", "number", "I", false)
def tyX7 : Nat → FieldType := fun k => match k with
  | 0 => .array .byte
  | 1 => .int
  | 2 => .int
  | 3 => .int
  | 4 => .int
  | 5 => .int
  | 6 => .int
  | 7 => .int
  | _ => .int
abbrev wsX70 : List Cond := u_ws RX7 TX7 9
theorem nmX7 : ∀ a, a < 9 → ∀ b, b < 9 → a ≠ b → (TX7 a).2.1 ≠ (TX7 b).2.1 := by decide +kernel
theorem tyX7_ok : ∀ k, k < 9 → parseFieldDescriptor (TX7 k).2.2.1 = some (tyX7 k) := by decide +kernel
abbrev cX7_init : ByteArray := prog_9_method_1_code
def yX7_init : MethodName := ⟨RX7, "<init>", "(LJoinBench$Tape;IIIII)V"⟩
abbrev cX7_isEndOf : ByteArray := prog_9_method_2_code
def yX7_isEndOf : MethodName := ⟨RX7, "isEndOf", "(LJoinBench$Form;)Z"⟩
abbrev cX7_isBeginningOf : ByteArray := prog_9_method_3_code
def yX7_isBeginningOf : MethodName := ⟨RX7, "isBeginningOf", "(LJoinBench$Form;)Z"⟩
abbrev cX7_stands : ByteArray := prog_9_method_4_code
def yX7_stands : MethodName := ⟨RX7, "stands", "(II[BII)Z"⟩
def RX8 : String := "JoinBench$Tape"
def TX8 : u_T := fun k => match k with
  | 0 => ("JoinBench$Tape", "bytes", "[B", true)
  | _ => ("JoinBench$Tape", "size", "I", false)
def tyX8 : Nat → FieldType := fun k => match k with
  | 0 => .array .byte
  | _ => .int
abbrev wsX80 : List Cond := u_ws RX8 TX8 2
theorem nmX8 : ∀ a, a < 2 → ∀ b, b < 2 → a ≠ b → (TX8 a).2.1 ≠ (TX8 b).2.1 := by decide +kernel
theorem tyX8_ok : ∀ k, k < 2 → parseFieldDescriptor (TX8 k).2.2.1 = some (tyX8 k) := by decide +kernel
abbrev cX8_init : ByteArray := prog_10_method_1_code
def yX8_init : MethodName := ⟨RX8, "<init>", "()V"⟩
abbrev cX8_hasRoomFor : ByteArray := prog_10_method_2_code
def yX8_hasRoomFor : MethodName := ⟨RX8, "hasRoomFor", "(I)Z"⟩
abbrev cX8_addByte : ByteArray := prog_10_method_3_code
def yX8_addByte : MethodName := ⟨RX8, "addByte", "(I)V"⟩
abbrev cX8_addNumber : ByteArray := prog_10_method_4_code
def yX8_addNumber : MethodName := ⟨RX8, "addNumber", "(I)V"⟩
abbrev cX8_hasOnlyLetters : ByteArray := prog_10_method_5_code
def yX8_hasOnlyLetters : MethodName := ⟨RX8, "hasOnlyLetters", "()Z"⟩
def RX9 : String := "JoinBench$Tongue"
def TX9 : u_T := fun k => match k with
  | 0 => ("JoinBench$Tongue", "forms", "[LJoinBench$Form;", true)
  | 1 => ("JoinBench$Tongue", "rules", "[LJoinBench$Rule;", true)
  | 2 => ("JoinBench$Tongue", "formCount", "I", false)
  | 3 => ("JoinBench$Tongue", "ruleCount", "I", false)
  | _ => ("JoinBench$Tongue", "forbidden", "[Z", true)
def tyX9 : Nat → FieldType := fun k => match k with
  | 0 => .array (.object "JoinBench$Form")
  | 1 => .array (.object "JoinBench$Rule")
  | 2 => .int
  | 3 => .int
  | _ => .array .boolean
abbrev wsX90 : List Cond := u_ws RX9 TX9 5
theorem nmX9 : ∀ a, a < 5 → ∀ b, b < 5 → a ≠ b → (TX9 a).2.1 ≠ (TX9 b).2.1 := by decide +kernel
theorem tyX9_ok : ∀ k, k < 5 → parseFieldDescriptor (TX9 k).2.2.1 = some (tyX9 k) := by decide +kernel
abbrev cX9_init : ByteArray := prog_11_method_1_code
def yX9_init : MethodName := ⟨RX9, "<init>", "()V"⟩
abbrev cX9_formAt : ByteArray := prog_11_method_2_code
def yX9_formAt : MethodName := ⟨RX9, "formAt", "(I)LJoinBench$Form;"⟩
abbrev cX9_ruleAt : ByteArray := prog_11_method_3_code
def yX9_ruleAt : MethodName := ⟨RX9, "ruleAt", "(I)LJoinBench$Rule;"⟩
abbrev cX9_addForm : ByteArray := prog_11_method_4_code
def yX9_addForm : MethodName := ⟨RX9, "addForm", "(LJoinBench$Form;)I"⟩
abbrev cX9_addRule : ByteArray := prog_11_method_5_code
def yX9_addRule : MethodName := ⟨RX9, "addRule", "(LJoinBench$Rule;)I"⟩
abbrev cX9_markFit : ByteArray := prog_11_method_6_code
def yX9_markFit : MethodName := ⟨RX9, "markFit", "(LJoinBench$Form;LJoinBench$Rule;)V"⟩
abbrev cX9_rulesInForce : ByteArray := prog_11_method_7_code
def yX9_rulesInForce : MethodName := ⟨RX9, "rulesInForce", "(I)I"⟩
abbrev cX9_setMeeting : ByteArray := prog_11_method_8_code
def yX9_setMeeting : MethodName := ⟨RX9, "setMeeting", "(IIZ)Z"⟩
abbrev cX9_allMayMeet : ByteArray := prog_11_method_9_code
def yX9_allMayMeet : MethodName := ⟨RX9, "allMayMeet", "()Z"⟩
def RX10 : String := "JoinBench$Trees"
def TX10 : u_T := fun k => match k with
  | 0 => ("JoinBench$Trees", "kinds", "[I", true)
  | _ => ("JoinBench$Trees", "ways", "[[J", false)
def tyX10 : Nat → FieldType := fun k => match k with
  | 0 => .array .int
  | _ => .array (.array .long)
abbrev wsX100 : List Cond := u_ws RX10 TX10 2
theorem nmX10 : ∀ a, a < 2 → ∀ b, b < 2 → a ≠ b → (TX10 a).2.1 ≠ (TX10 b).2.1 := by decide +kernel
theorem tyX10_ok : ∀ k, k < 2 → parseFieldDescriptor (TX10 k).2.2.1 = some (tyX10 k) := by decide +kernel
abbrev cX10_init : ByteArray := prog_12_method_1_code
def yX10_init : MethodName := ⟨RX10, "<init>", "()V"⟩
abbrev cX10_setKind : ByteArray := prog_12_method_2_code
def yX10_setKind : MethodName := ⟨RX10, "setKind", "(III)I"⟩
abbrev cX10_waysTo : ByteArray := prog_12_method_3_code
def yX10_waysTo : MethodName := ⟨RX10, "waysTo", "(LJoinBench$Chain;I)J"⟩
abbrev cX10_addSplits : ByteArray := prog_12_method_4_code
def yX10_addSplits : MethodName := ⟨RX10, "addSplits", "(II)V"⟩
abbrev cX10_addSeconds : ByteArray := prog_12_method_5_code
def yX10_addSeconds : MethodName := ⟨RX10, "addSeconds", "(IIIIJ)V"⟩
abbrev cX10_cappedProduct : ByteArray := prog_12_method_6_code
def yX10_cappedProduct : MethodName := ⟨RX10, "cappedProduct", "(JJ)J"⟩
def RX11 : String := "JoinBench"
def TX11 : u_T := fun k => match k with
  | 0 => ("JoinBench", "tape", "LJoinBench$Tape;", true)
  | 1 => ("JoinBench", "tongue", "LJoinBench$Tongue;", true)
  | 2 => ("JoinBench", "row", "LJoinBench$Row;", true)
  | 3 => ("JoinBench", "trees", "LJoinBench$Trees;", true)
  | 4 => ("JoinBench", "choices", "LJoinBench$Choices;", true)
  | 5 => ("JoinBench", "parter", "LJoinBench$Parter;", false)
  | _ => ("JoinBench", "step", "I", false)
def tyX11 : Nat → FieldType := fun k => match k with
  | 0 => .object "JoinBench$Tape"
  | 1 => .object "JoinBench$Tongue"
  | 2 => .object "JoinBench$Row"
  | 3 => .object "JoinBench$Trees"
  | 4 => .object "JoinBench$Choices"
  | 5 => .object "JoinBench$Parter"
  | _ => .int
abbrev wsX110 : List Cond := u_ws RX11 TX11 7
theorem nmX11 : ∀ a, a < 7 → ∀ b, b < 7 → a ≠ b → (TX11 a).2.1 ≠ (TX11 b).2.1 := by decide +kernel
theorem tyX11_ok : ∀ k, k < 7 → parseFieldDescriptor (TX11 k).2.2.1 = some (tyX11 k) := by decide +kernel
abbrev cX11_init : ByteArray := prog_1_method_1_code
def yX11_init : MethodName := ⟨RX11, "<init>", "()V"⟩
abbrev cX11_feed : ByteArray := prog_1_method_2_code
def yX11_feed : MethodName := ⟨RX11, "feed", "(IIIII)I"⟩
abbrev cX11_end : ByteArray := prog_1_method_3_code
def yX11_end : MethodName := ⟨RX11, "end", "(I)I"⟩
abbrev cX11_form : ByteArray := prog_1_method_4_code
def yX11_form : MethodName := ⟨RX11, "form", "(IIIZ)I"⟩
abbrev cX11_rule : ByteArray := prog_1_method_5_code
def yX11_rule : MethodName := ⟨RX11, "rule", "(IIIII)I"⟩
abbrev cX11_cost : ByteArray := prog_1_method_6_code
def yX11_cost : MethodName := ⟨RX11, "cost", "(II)I"⟩
abbrev cX11_meets : ByteArray := prog_1_method_7_code
def yX11_meets : MethodName := ⟨RX11, "meets", "(IIZ)Z"⟩
abbrev cX11_becomes : ByteArray := prog_1_method_8_code
def yX11_becomes : MethodName := ⟨RX11, "becomes", "(III)I"⟩
abbrev cX11_fits : ByteArray := prog_1_method_9_code
def yX11_fits : MethodName := ⟨RX11, "fits", "(III)I"⟩
abbrev cX11_fitting : ByteArray := prog_1_method_10_code
def yX11_fitting : MethodName := ⟨RX11, "fitting", "(IIII)I"⟩
abbrev cX11_row : ByteArray := prog_1_method_11_code
def yX11_row : MethodName := ⟨RX11, "row", "(I)I"⟩
abbrev cX11_joins : ByteArray := prog_1_method_12_code
def yX11_joins : MethodName := ⟨RX11, "joins", "(II)I"⟩
abbrev cX11_joined : ByteArray := prog_1_method_13_code
def yX11_joined : MethodName := ⟨RX11, "joined", "()I"⟩
abbrev cX11_letter : ByteArray := prog_1_method_14_code
def yX11_letter : MethodName := ⟨RX11, "letter", "(I)I"⟩
abbrev cX11_back : ByteArray := prog_1_method_15_code
def yX11_back : MethodName := ⟨RX11, "back", "()I"⟩
abbrev cX11_part : ByteArray := prog_1_method_16_code
def yX11_part : MethodName := ⟨RX11, "part", "(I)J"⟩
abbrev cX11_parted : ByteArray := prog_1_method_17_code
def yX11_parted : MethodName := ⟨RX11, "parted", "(I)J"⟩
abbrev cX11_parting : ByteArray := prog_1_method_18_code
def yX11_parting : MethodName := ⟨RX11, "parting", "(II)I"⟩
abbrev cX11_formOf : ByteArray := prog_1_method_19_code
def yX11_formOf : MethodName := ⟨RX11, "formOf", "(II)I"⟩
abbrev cX11_ruleOf : ByteArray := prog_1_method_20_code
def yX11_ruleOf : MethodName := ⟨RX11, "ruleOf", "(II)I"⟩
abbrev cX11_trees : ByteArray := prog_1_method_21_code
def yX11_trees : MethodName := ⟨RX11, "trees", "(II)J"⟩
abbrev cX11_choose : ByteArray := prog_1_method_22_code
def yX11_choose : MethodName := ⟨RX11, "choose", "(I)I"⟩
abbrev cX11_undo : ByteArray := prog_1_method_23_code
def yX11_undo : MethodName := ⟨RX11, "undo", "()Z"⟩
abbrev cX11_step : ByteArray := prog_1_method_24_code
def yX11_step : MethodName := ⟨RX11, "step", "(I)I"⟩
abbrev cX11_uses : ByteArray := prog_1_method_25_code
def yX11_uses : MethodName := ⟨RX11, "uses", "(I)I"⟩
abbrev cX11_about : ByteArray := prog_1_method_26_code
def yX11_about : MethodName := ⟨RX11, "about", "(II)I"⟩
abbrev cX11_count : ByteArray := prog_1_method_27_code
def yX11_count : MethodName := ⟨RX11, "count", "(I)I"⟩
abbrev cX11_within : ByteArray := prog_1_method_28_code
def yX11_within : MethodName := ⟨RX11, "within", "(III)Z"⟩
abbrev cX11_isKind : ByteArray := prog_1_method_29_code
def yX11_isKind : MethodName := ⟨RX11, "isKind", "(I)Z"⟩
abbrev cX11_isStem : ByteArray := prog_1_method_30_code
def yX11_isStem : MethodName := ⟨RX11, "isStem", "(I)Z"⟩
abbrev cX11_isCost : ByteArray := prog_1_method_31_code
def yX11_isCost : MethodName := ⟨RX11, "isCost", "(I)Z"⟩
abbrev cX11_isDay : ByteArray := prog_1_method_32_code
def yX11_isDay : MethodName := ⟨RX11, "isDay", "(I)Z"⟩
abbrev cX11_hasRule : ByteArray := prog_1_method_33_code
def yX11_hasRule : MethodName := ⟨RX11, "hasRule", "(II)Z"⟩
abbrev cX11_capped : ByteArray := prog_1_method_34_code
def yX11_capped : MethodName := ⟨RX11, "capped", "(J)J"⟩
abbrev cX11_rulesBetween : ByteArray := prog_1_method_35_code
def yX11_rulesBetween : MethodName := ⟨RX11, "rulesBetween", "(III)I"⟩
abbrev cX11_canFollow : ByteArray := prog_1_method_36_code
def yX11_canFollow : MethodName := ⟨RX11, "canFollow", "(LJoinBench$Form;LJoinBench$Form;I)Z"⟩
abbrev cX11_toldPath : ByteArray := prog_1_method_37_code
def yX11_toldPath : MethodName := ⟨RX11, "toldPath", "(I)LJoinBench$Path;"⟩
def RX12 : String := "JoinBenchModel"
def TX12 : u_T := fun k => match k with
  | 0 => ("JoinBenchModel", "tape", "[B", true)
  | 1 => ("JoinBenchModel", "taped", "I", false)
  | 2 => ("JoinBenchModel", "forms", "I", false)
  | 3 => ("JoinBenchModel", "letters", "[B", true)
  | 4 => ("JoinBenchModel", "size", "[I", true)
  | 5 => ("JoinBenchModel", "kind", "[I", true)
  | 6 => ("JoinBenchModel", "stem", "[I", true)
  | 7 => ("JoinBenchModel", "cost", "[I", true)
  | 8 => ("JoinBenchModel", "isKept", "[Z", true)
  | 9 => ("JoinBenchModel", "rules", "I", false)
  | 10 => ("JoinBenchModel", "ruleText", "[B", true)
  | 11 => ("JoinBenchModel", "ends", "[I", true)
  | 12 => ("JoinBenchModel", "begins", "[I", true)
  | 13 => ("JoinBenchModel", "comes", "[I", true)
  | 14 => ("JoinBenchModel", "ruleCost", "[I", true)
  | 15 => ("JoinBenchModel", "ruleFirst", "[I", true)
  | 16 => ("JoinBenchModel", "ruleLast", "[I", true)
  | 17 => ("JoinBenchModel", "mayNot", "[Z", true)
  | 18 => ("JoinBenchModel", "tree", "[I", true)
  | 19 => ("JoinBenchModel", "uses", "[I", true)
  | 20 => ("JoinBenchModel", "step", "I", false)
  | 21 => ("JoinBenchModel", "rowDay", "I", false)
  | 22 => ("JoinBenchModel", "rowMany", "I", false)
  | 23 => ("JoinBenchModel", "rowForm", "[I", true)
  | 24 => ("JoinBenchModel", "rowRule", "[I", true)
  | 25 => ("JoinBenchModel", "out", "[B", true)
  | 26 => ("JoinBenchModel", "outMany", "I", false)
  | 27 => ("JoinBenchModel", "line", "[B", true)
  | 28 => ("JoinBenchModel", "lineSize", "I", false)
  | 29 => ("JoinBenchModel", "fit", "[I", true)
  | 30 => ("JoinBenchModel", "isCome", "[Z", true)
  | 31 => ("JoinBenchModel", "ways", "[J", true)
  | 32 => ("JoinBenchModel", "best", "[I", true)
  | 33 => ("JoinBenchModel", "bestMany", "[I", true)
  | 34 => ("JoinBenchModel", "isCut", "Z", false)
  | 35 => ("JoinBenchModel", "hasParted", "Z", false)
  | 36 => ("JoinBenchModel", "all", "J", false)
  | 37 => ("JoinBenchModel", "counted", "J", false)
  | 38 => ("JoinBenchModel", "isLeft", "Z", false)
  | 39 => ("JoinBenchModel", "told", "I", false)
  | 40 => ("JoinBenchModel", "toldCost", "[I", true)
  | 41 => ("JoinBenchModel", "toldMany", "[I", true)
  | 42 => ("JoinBenchModel", "toldForm", "[I", true)
  | 43 => ("JoinBenchModel", "toldRule", "[I", true)
  | 44 => ("JoinBenchModel", "nextOf", "[I", true)
  | 45 => ("JoinBenchModel", "grown", "[J", true)
  | 46 => ("JoinBenchModel", "choices", "I", false)
  | 47 => ("JoinBenchModel", "formsThen", "[I", true)
  | _ => ("JoinBenchModel", "were", "[I", true)
def tyX12 : Nat → FieldType := fun k => match k with
  | 0 => .array .byte
  | 1 => .int
  | 2 => .int
  | 3 => .array .byte
  | 4 => .array .int
  | 5 => .array .int
  | 6 => .array .int
  | 7 => .array .int
  | 8 => .array .boolean
  | 9 => .int
  | 10 => .array .byte
  | 11 => .array .int
  | 12 => .array .int
  | 13 => .array .int
  | 14 => .array .int
  | 15 => .array .int
  | 16 => .array .int
  | 17 => .array .boolean
  | 18 => .array .int
  | 19 => .array .int
  | 20 => .int
  | 21 => .int
  | 22 => .int
  | 23 => .array .int
  | 24 => .array .int
  | 25 => .array .byte
  | 26 => .int
  | 27 => .array .byte
  | 28 => .int
  | 29 => .array .int
  | 30 => .array .boolean
  | 31 => .array .long
  | 32 => .array .int
  | 33 => .array .int
  | 34 => .boolean
  | 35 => .boolean
  | 36 => .long
  | 37 => .long
  | 38 => .boolean
  | 39 => .int
  | 40 => .array .int
  | 41 => .array .int
  | 42 => .array .int
  | 43 => .array .int
  | 44 => .array .int
  | 45 => .array .long
  | 46 => .int
  | 47 => .array .int
  | _ => .array .int
abbrev wsX120 : List Cond := u_ws RX12 TX12 49
theorem nmX12 : ∀ a, a < 49 → ∀ b, b < 49 → a ≠ b → (TX12 a).2.1 ≠ (TX12 b).2.1 := by decide +kernel
theorem tyX12_ok : ∀ k, k < 49 → parseFieldDescriptor (TX12 k).2.2.1 = some (tyX12 k) := by decide +kernel
abbrev cX12_init : ByteArray := prog_14_method_1_code
def yX12_init : MethodName := ⟨RX12, "<init>", "()V"⟩
abbrev cX12_in : ByteArray := prog_14_method_2_code
def yX12_in : MethodName := ⟨RX12, "in", "(III)Z"⟩
abbrev cX12_four : ByteArray := prog_14_method_3_code
def yX12_four : MethodName := ⟨RX12, "four", "(I)V"⟩
abbrev cX12_feed : ByteArray := prog_14_method_4_code
def yX12_feed : MethodName := ⟨RX12, "feed", "(IIIII)I"⟩
abbrev cX12_end : ByteArray := prog_14_method_5_code
def yX12_end : MethodName := ⟨RX12, "end", "(I)I"⟩
abbrev cX12_isText : ByteArray := prog_14_method_6_code
def yX12_isText : MethodName := ⟨RX12, "isText", "()Z"⟩
abbrev cX12_form : ByteArray := prog_14_method_7_code
def yX12_form : MethodName := ⟨RX12, "form", "(IIIZ)I"⟩
abbrev cX12_rule : ByteArray := prog_14_method_8_code
def yX12_rule : MethodName := ⟨RX12, "rule", "(IIIII)I"⟩
abbrev cX12_isForm : ByteArray := prog_14_method_9_code
def yX12_isForm : MethodName := ⟨RX12, "isForm", "(I)Z"⟩
abbrev cX12_cost : ByteArray := prog_14_method_10_code
def yX12_cost : MethodName := ⟨RX12, "cost", "(II)I"⟩
abbrev cX12_isKind : ByteArray := prog_14_method_11_code
def yX12_isKind : MethodName := ⟨RX12, "isKind", "(I)Z"⟩
abbrev cX12_meets : ByteArray := prog_14_method_12_code
def yX12_meets : MethodName := ⟨RX12, "meets", "(IIZ)Z"⟩
abbrev cX12_becomes : ByteArray := prog_14_method_13_code
def yX12_becomes : MethodName := ⟨RX12, "becomes", "(III)I"⟩
abbrev cX12_fitsTwo : ByteArray := prog_14_method_14_code
def yX12_fitsTwo : MethodName := ⟨RX12, "fitsTwo", "(IIII)Z"⟩
abbrev cX12_isDay : ByteArray := prog_14_method_15_code
def yX12_isDay : MethodName := ⟨RX12, "isDay", "(I)Z"⟩
abbrev cX12_fits : ByteArray := prog_14_method_16_code
def yX12_fits : MethodName := ⟨RX12, "fits", "(III)I"⟩
abbrev cX12_fitting : ByteArray := prog_14_method_17_code
def yX12_fitting : MethodName := ⟨RX12, "fitting", "(IIII)I"⟩
abbrev cX12_row : ByteArray := prog_14_method_18_code
def yX12_row : MethodName := ⟨RX12, "row", "(I)I"⟩
abbrev cX12_cutOf : ByteArray := prog_14_method_19_code
def yX12_cutOf : MethodName := ⟨RX12, "cutOf", "(I)I"⟩
abbrev cX12_joins : ByteArray := prog_14_method_20_code
def yX12_joins : MethodName := ⟨RX12, "joins", "(II)I"⟩
abbrev cX12_puts : ByteArray := prog_14_method_21_code
def yX12_puts : MethodName := ⟨RX12, "puts", "(I)V"⟩
abbrev cX12_joined : ByteArray := prog_14_method_22_code
def yX12_joined : MethodName := ⟨RX12, "joined", "()I"⟩
abbrev cX12_letter : ByteArray := prog_14_method_23_code
def yX12_letter : MethodName := ⟨RX12, "letter", "(I)I"⟩
abbrev cX12_back : ByteArray := prog_14_method_24_code
def yX12_back : MethodName := ⟨RX12, "back", "()I"⟩
abbrev cX12_placeOf : ByteArray := prog_14_method_25_code
def yX12_placeOf : MethodName := ⟨RX12, "placeOf", "(III)I"⟩
abbrev cX12_behind : ByteArray := prog_14_method_26_code
def yX12_behind : MethodName := ⟨RX12, "behind", "(IIII)I"⟩
abbrev cX12_passes : ByteArray := prog_14_method_27_code
def yX12_passes : MethodName := ⟨RX12, "passes", "(IIII)I"⟩
abbrev cX12_isBetween : ByteArray := prog_14_method_28_code
def yX12_isBetween : MethodName := ⟨RX12, "isBetween", "(III)Z"⟩
abbrev cX12_reaches : ByteArray := prog_14_method_29_code
def yX12_reaches : MethodName := ⟨RX12, "reaches", "()V"⟩
abbrev cX12_goesOn : ByteArray := prog_14_method_30_code
def yX12_goesOn : MethodName := ⟨RX12, "goesOn", "(III)V"⟩
abbrev cX12_plus : ByteArray := prog_14_method_31_code
def yX12_plus : MethodName := ⟨RX12, "plus", "(JJ)J"⟩
abbrev cX12_keeps : ByteArray := prog_14_method_32_code
def yX12_keeps : MethodName := ⟨RX12, "keeps", "(II)V"⟩
abbrev cX12_costOf : ByteArray := prog_14_method_33_code
def yX12_costOf : MethodName := ⟨RX12, "costOf", "(I)I"⟩
abbrev cX12_counts : ByteArray := prog_14_method_34_code
def yX12_counts : MethodName := ⟨RX12, "counts", "(III)V"⟩
abbrev cX12_partings : ByteArray := prog_14_method_35_code
def yX12_partings : MethodName := ⟨RX12, "partings", "()J"⟩
abbrev cX12_tells : ByteArray := prog_14_method_36_code
def yX12_tells : MethodName := ⟨RX12, "tells", "(II)V"⟩
abbrev cX12_part : ByteArray := prog_14_method_37_code
def yX12_part : MethodName := ⟨RX12, "part", "(I)J"⟩
abbrev cX12_parted : ByteArray := prog_14_method_38_code
def yX12_parted : MethodName := ⟨RX12, "parted", "(I)J"⟩
abbrev cX12_isTold : ByteArray := prog_14_method_39_code
def yX12_isTold : MethodName := ⟨RX12, "isTold", "(I)Z"⟩
abbrev cX12_parting : ByteArray := prog_14_method_40_code
def yX12_parting : MethodName := ⟨RX12, "parting", "(II)I"⟩
abbrev cX12_formOf : ByteArray := prog_14_method_41_code
def yX12_formOf : MethodName := ⟨RX12, "formOf", "(II)I"⟩
abbrev cX12_ruleOf : ByteArray := prog_14_method_42_code
def yX12_ruleOf : MethodName := ⟨RX12, "ruleOf", "(II)I"⟩
abbrev cX12_times : ByteArray := prog_14_method_43_code
def yX12_times : MethodName := ⟨RX12, "times", "(JJ)J"⟩
abbrev cX12_trees : ByteArray := prog_14_method_44_code
def yX12_trees : MethodName := ⟨RX12, "trees", "(II)J"⟩
abbrev cX12_choose : ByteArray := prog_14_method_45_code
def yX12_choose : MethodName := ⟨RX12, "choose", "(I)I"⟩
abbrev cX12_undo : ByteArray := prog_14_method_46_code
def yX12_undo : MethodName := ⟨RX12, "undo", "()Z"⟩
abbrev cX12_step : ByteArray := prog_14_method_47_code
def yX12_step : MethodName := ⟨RX12, "step", "(I)I"⟩
abbrev cX12_uses : ByteArray := prog_14_method_48_code
def yX12_uses : MethodName := ⟨RX12, "uses", "(I)I"⟩
abbrev cX12_about : ByteArray := prog_14_method_49_code
def yX12_about : MethodName := ⟨RX12, "about", "(II)I"⟩
abbrev cX12_count : ByteArray := prog_14_method_50_code
def yX12_count : MethodName := ⟨RX12, "count", "(I)I"⟩
def RJx8e188 : String := "java/lang/Cloneable"
def TJx8e188 : u_T := fun k => match k with
  | _ => ("", "", "", false)
def tyJx8e188 : Nat → FieldType := fun k => match k with
  | _ => .int
abbrev wsJx8e1880 : List Cond := u_ws RJx8e188 TJx8e188 0
theorem nmJx8e188 : ∀ a, a < 0 → ∀ b, b < 0 → a ≠ b → (TJx8e188 a).2.1 ≠ (TJx8e188 b).2.1 := by decide +kernel
theorem tyJx8e188_ok : ∀ k, k < 0 → parseFieldDescriptor (TJx8e188 k).2.2.1 = some (tyJx8e188 k) := by decide +kernel
def RJ6 : String := "java/lang/Integer"
def TJ6 : u_T := fun k => match k with
  | _ => ("", "", "", false)
def tyJ6 : Nat → FieldType := fun k => match k with
  | _ => .int
abbrev wsJ60 : List Cond := u_ws RJ6 TJ6 0
theorem nmJ6 : ∀ a, a < 0 → ∀ b, b < 0 → a ≠ b → (TJ6 a).2.1 ≠ (TJ6 b).2.1 := by decide +kernel
theorem tyJ6_ok : ∀ k, k < 0 → parseFieldDescriptor (TJ6 k).2.2.1 = some (tyJ6 k) := by decide +kernel
abbrev cJ6_bitCount_0f7a4 : ByteArray := prog_16_method_49_code
def yJ6_bitCount_0f7a4 : MethodName := ⟨RJ6, "bitCount", "(I)I"⟩
def RJ9 : String := "java/lang/Math"
def TJ9 : u_T := fun k => match k with
  | _ => ("", "", "", false)
def tyJ9 : Nat → FieldType := fun k => match k with
  | _ => .int
abbrev wsJ90 : List Cond := u_ws RJ9 TJ9 0
theorem nmJ9 : ∀ a, a < 0 → ∀ b, b < 0 → a ≠ b → (TJ9 a).2.1 ≠ (TJ9 b).2.1 := by decide +kernel
theorem tyJ9_ok : ∀ k, k < 0 → parseFieldDescriptor (TJ9 k).2.2.1 = some (tyJ9 k) := by decide +kernel
abbrev cJ9_max_7cf53 : ByteArray := prog_17_method_65_code
def yJ9_max_7cf53 : MethodName := ⟨RJ9, "max", "(II)I"⟩
abbrev cJ9_min_7cf53 : ByteArray := prog_17_method_69_code
def yJ9_min_7cf53 : MethodName := ⟨RJ9, "min", "(II)I"⟩
abbrev cJ9_min_f86c9 : ByteArray := prog_17_method_70_code
def yJ9_min_f86c9 : MethodName := ⟨RJ9, "min", "(JJ)J"⟩
def RJ10 : String := "java/lang/System"
def TJ10 : u_T := fun k => match k with
  | _ => ("", "", "", false)
def tyJ10 : Nat → FieldType := fun k => match k with
  | _ => .int
abbrev wsJ100 : List Cond := u_ws RJ10 TJ10 0
theorem nmJ10 : ∀ a, a < 0 → ∀ b, b < 0 → a ≠ b → (TJ10 a).2.1 ≠ (TJ10 b).2.1 := by decide +kernel
theorem tyJ10_ok : ∀ k, k < 0 → parseFieldDescriptor (TJ10 k).2.2.1 = some (tyJ10 k) := by decide +kernel
def RJ7 : String := "java/util/Arrays"
def TJ7 : u_T := fun k => match k with
  | _ => ("", "", "", false)
def tyJ7 : Nat → FieldType := fun k => match k with
  | _ => .int
abbrev wsJ70 : List Cond := u_ws RJ7 TJ7 0
theorem nmJ7 : ∀ a, a < 0 → ∀ b, b < 0 → a ≠ b → (TJ7 a).2.1 ≠ (TJ7 b).2.1 := by decide +kernel
theorem tyJ7_ok : ∀ k, k < 0 → parseFieldDescriptor (TJ7 k).2.2.1 = some (tyJ7 k) := by decide +kernel
abbrev cJ7_fill_d0a16 : ByteArray := prog_19_method_101_code
def yJ7_fill_d0a16 : MethodName := ⟨RJ7, "fill", "([JJ)V"⟩
abbrev cJ7_fill_53178 : ByteArray := prog_19_method_103_code
def yJ7_fill_53178 : MethodName := ⟨RJ7, "fill", "([II)V"⟩
abbrev cJ7_copyOf_9075b : ByteArray := prog_19_method_121_code
def yJ7_copyOf_9075b : MethodName := ⟨RJ7, "copyOf", "([BI)[B"⟩
def RL : String := "JoinBenchLaw"
abbrev cL_law : ByteArray := code
def yL_law : MethodName := ⟨RL, "law", "([I)Z"⟩
def wsX0_init : List Cond := .code yX0_init cX0_init 1 none :: ([.methodLink RX0 3 objectInit, .instanceMethod objectInit, .code objectInit ⟨#[0xb1]⟩ 1 none, .classLink RX0 9 RX2, .fieldLink RX0 11 "JoinBench$Chain" "forms" "[LJoinBench$Form;", .classLink RX0 17 RX7, .fieldLink RX0 19 "JoinBench$Chain" "rules" "[LJoinBench$Rule;", .fieldLink RX0 23 "JoinBench$Chain" "size" "I"] ++ wsX00)
def wsX0_append : List Cond := .code yX0_append cX0_append 3 none :: ([.fieldLink RX0 23 "JoinBench$Chain" "size" "I", .fieldLink RX0 11 "JoinBench$Chain" "forms" "[LJoinBench$Form;", .fieldLink RX0 19 "JoinBench$Chain" "rules" "[LJoinBench$Rule;"] ++ wsX00)
def wsX0_formAt : List Cond := .code yX0_formAt cX0_formAt 2 (some (.object "JoinBench$Form")) :: ([.fieldLink RX0 23 "JoinBench$Chain" "size" "I", .fieldLink RX0 11 "JoinBench$Chain" "forms" "[LJoinBench$Form;"] ++ wsX00)
def wsX0_ruleAheadOf : List Cond := .code yX0_ruleAheadOf cX0_ruleAheadOf 2 (some (.object "JoinBench$Rule")) :: ([.fieldLink RX0 23 "JoinBench$Chain" "size" "I", .fieldLink RX0 19 "JoinBench$Chain" "rules" "[LJoinBench$Rule;"] ++ wsX00)
def wsX0_last : List Cond := .code yX0_last cX0_last 1 (some (.object "JoinBench$Form")) :: ([.fieldLink RX0 23 "JoinBench$Chain" "size" "I", .methodLink RX0 27 yX0_formAt, .instanceMethod yX0_formAt, .selects RX0 yX0_formAt yX0_formAt, .initialized RX0, .code yX0_formAt cX0_formAt 2 (some (.object "JoinBench$Form")), .fieldLink RX0 11 "JoinBench$Chain" "forms" "[LJoinBench$Form;"] ++ wsX00)
def wsX0_cutAtBeginning : List Cond := .code yX0_cutAtBeginning cX0_cutAtBeginning 3 (some .int) :: ([.fieldLink RX0 39 "JoinBench$Rule" "beginningSize" "I", .methodLink RX0 35 yX0_ruleAheadOf, .instanceMethod yX0_ruleAheadOf, .selects RX0 yX0_ruleAheadOf yX0_ruleAheadOf, .initialized RX0, .code yX0_ruleAheadOf cX0_ruleAheadOf 2 (some (.object "JoinBench$Rule")), .fieldLink RX0 23 "JoinBench$Chain" "size" "I", .fieldLink RX0 19 "JoinBench$Chain" "rules" "[LJoinBench$Rule;"] ++ wsX70 ++ wsX00)
def wsX0_lastCut : List Cond := .code yX0_lastCut cX0_lastCut 1 (some .int) :: ([.fieldLink RX0 23 "JoinBench$Chain" "size" "I", .methodLink RX0 31 yX0_cutAtBeginning, .instanceMethod yX0_cutAtBeginning, .selects RX0 yX0_cutAtBeginning yX0_cutAtBeginning, .initialized RX0, .code yX0_cutAtBeginning cX0_cutAtBeginning 3 (some .int), .fieldLink RX0 39 "JoinBench$Rule" "beginningSize" "I", .methodLink RX0 35 yX0_ruleAheadOf, .instanceMethod yX0_ruleAheadOf, .selects RX0 yX0_ruleAheadOf yX0_ruleAheadOf, .code yX0_ruleAheadOf cX0_ruleAheadOf 2 (some (.object "JoinBench$Rule")), .fieldLink RX0 19 "JoinBench$Chain" "rules" "[LJoinBench$Rule;"] ++ wsX00 ++ wsX70)
def wsX0_cutAtEnd : List Cond := .code yX0_cutAtEnd cX0_cutAtEnd 3 (some .int) :: ([.fieldLink RX0 42 "JoinBench$Rule" "endSize" "I", .methodLink RX0 35 yX0_ruleAheadOf, .instanceMethod yX0_ruleAheadOf, .selects RX0 yX0_ruleAheadOf yX0_ruleAheadOf, .initialized RX0, .code yX0_ruleAheadOf cX0_ruleAheadOf 2 (some (.object "JoinBench$Rule")), .fieldLink RX0 23 "JoinBench$Chain" "size" "I", .fieldLink RX0 19 "JoinBench$Chain" "rules" "[LJoinBench$Rule;"] ++ wsX70 ++ wsX00)
def wsX0_price : List Cond := .code yX0_price cX0_price 3 (some .int) :: ([.fieldLink RX0 23 "JoinBench$Chain" "size" "I", .fieldLink RX0 11 "JoinBench$Chain" "forms" "[LJoinBench$Form;", .fieldLink RX0 45 "JoinBench$Form" "cost" "I", .fieldLink RX0 19 "JoinBench$Chain" "rules" "[LJoinBench$Rule;", .fieldLink RX0 48 "JoinBench$Rule" "cost" "I"] ++ wsX00 ++ wsX20 ++ wsX70)
def wsX0_copyFrom : List Cond := .code yX0_copyFrom cX0_copyFrom 3 none :: ([.fieldLink RX0 23 "JoinBench$Chain" "size" "I", .fieldLink RX0 11 "JoinBench$Chain" "forms" "[LJoinBench$Form;", .fieldLink RX0 19 "JoinBench$Chain" "rules" "[LJoinBench$Rule;"] ++ wsX00)
def wsX1_init : List Cond := .code yX1_init cX1_init 1 none :: ([.methodLink RX1 3 objectInit, .instanceMethod objectInit, .code objectInit ⟨#[0xb1]⟩ 1 none, .arrayClass .int, .fieldLink RX1 9 "JoinBench$Choices" "uses" "[I", .fieldLink RX1 15 "JoinBench$Choices" "size" "I", .classLink RX1 19 "[[I", .fieldLink RX1 21 "JoinBench$Choices" "costsBefore" "[[I", .fieldLink RX1 24 "JoinBench$Choices" "usesBefore" "[[I", .fieldLink RX1 27 "JoinBench$Choices" "formsBefore" "[I", .fieldLink RX1 30 "JoinBench$Choices" "oldest" "I"] ++ wsX10)
def wsX1_remember : List Cond := .code yX1_remember cX1_remember 4 none :: ([.fieldLink RX1 15 "JoinBench$Choices" "size" "I", .fieldLink RX1 30 "JoinBench$Choices" "oldest" "I", .fieldLink RX1 33 "JoinBench$Tongue" "formCount" "I", .fieldLink RX1 21 "JoinBench$Choices" "costsBefore" "[[I", .fieldLink RX1 38 "JoinBench$Tongue" "forms" "[LJoinBench$Form;", .fieldLink RX1 42 "JoinBench$Form" "cost" "I", .fieldLink RX1 27 "JoinBench$Choices" "formsBefore" "[I", .fieldLink RX1 9 "JoinBench$Choices" "uses" "[I", .fieldLink RX1 24 "JoinBench$Choices" "usesBefore" "[[I", .methodLink RX1 47 arraycopyName, .native arraycopyName, .static arraycopyName, .initialized "java/lang/System"] ++ wsX10 ++ wsX90 ++ wsX20)
def wsX1_learn : List Cond := .code yX1_learn cX1_learn 7 none :: ([.fieldLink RX1 53 "JoinBench$Chain" "size" "I", .fieldLink RX1 56 "JoinBench$Chain" "forms" "[LJoinBench$Form;", .fieldLink RX1 9 "JoinBench$Choices" "uses" "[I", .fieldLink RX1 57 "JoinBench$Form" "stem" "I", .fieldLink RX1 60 "JoinBench$Form" "number" "I", .fieldLink RX1 42 "JoinBench$Form" "cost" "I", .methodLink RX1 63 Lib.Math.max.name, .static Lib.Math.max.name, .initialized "java/lang/Math", .code Lib.Math.max.name Lib.Math.max.code 2 (some .int)] ++ wsX00 ++ wsX10 ++ wsX20)
def wsX1_restore : List Cond := .code yX1_restore cX1_restore 4 (some .boolean) :: ([.fieldLink RX1 15 "JoinBench$Choices" "size" "I", .fieldLink RX1 30 "JoinBench$Choices" "oldest" "I", .fieldLink RX1 27 "JoinBench$Choices" "formsBefore" "[I", .fieldLink RX1 33 "JoinBench$Tongue" "formCount" "I", .fieldLink RX1 38 "JoinBench$Tongue" "forms" "[LJoinBench$Form;", .fieldLink RX1 21 "JoinBench$Choices" "costsBefore" "[[I", .fieldLink RX1 42 "JoinBench$Form" "cost" "I", .fieldLink RX1 24 "JoinBench$Choices" "usesBefore" "[[I", .fieldLink RX1 9 "JoinBench$Choices" "uses" "[I", .methodLink RX1 47 arraycopyName, .native arraycopyName, .static arraycopyName, .initialized "java/lang/System"] ++ wsX10 ++ wsX90 ++ wsX20)
def wsJ7_copyOf_9075b : List Cond := .code yJ7_copyOf_9075b cJ7_copyOf_9075b 3 (some (.array .byte)) :: ([.methodLink RJ7 310 ⟨"[B", "clone", "()Ljava/lang/Object;"⟩, .sameMethod "[B" "java/lang/Object" "clone" "()Ljava/lang/Object;", .native ⟨"java/lang/Object", "clone", "()Ljava/lang/Object;"⟩, .instanceMethod ⟨"java/lang/Object", "clone", "()Ljava/lang/Object;"⟩, .selects "[B" ⟨"[B", "clone", "()Ljava/lang/Object;"⟩ ⟨"java/lang/Object", "clone", "()Ljava/lang/Object;"⟩, .classLink RJ7 311 "[B", .arrayClass .byte, .methodLink RJ7 304 Lib.Math.min.name, .static Lib.Math.min.name, .initialized "java/lang/Math", .code Lib.Math.min.name Lib.Math.min.code 2 (some .int), .methodLink RJ7 150 arraycopyName, .native arraycopyName, .static arraycopyName, .initialized "java/lang/System"])
def wsX2_init_r1 : List Cond := [Cond.methodLink RX2 3 objectInit, Cond.instanceMethod objectInit, Cond.code objectInit ⟨#[0xb1]⟩ 1 none, Cond.fieldLink RX2 9 "JoinBench$Form" "number" "I", Cond.fieldLink RX2 15 "JoinBench$Form" "ends" "I", Cond.fieldLink RX2 18 "JoinBench$Form" "begins" "I", Cond.fieldLink RX2 21 "JoinBench$Tape" "bytes" "[B", Cond.fieldLink RX2 27 "JoinBench$Tape" "size" "I", Cond.fieldLink RX2 36 "JoinBench$Form" "letters" "[B", Cond.fieldLink RX2 39 "JoinBench$Form" "kind" "I", Cond.fieldLink RX2 42 "JoinBench$Form" "stem" "I", Cond.fieldLink RX2 45 "JoinBench$Form" "cost" "I", Cond.fieldLink RX2 48 "JoinBench$Form" "kept" "Z", Cond.methodLink RX2 30 yJ7_copyOf_9075b, Cond.static yJ7_copyOf_9075b, Cond.initialized RJ7, Cond.code yJ7_copyOf_9075b cJ7_copyOf_9075b 3 (some (.array .byte)), Cond.methodLink RJ7 310 ⟨"[B", "clone", "()Ljava/lang/Object;"⟩, Cond.sameMethod "[B" "java/lang/Object" "clone" "()Ljava/lang/Object;", Cond.native ⟨"java/lang/Object", "clone", "()Ljava/lang/Object;"⟩, Cond.instanceMethod ⟨"java/lang/Object", "clone", "()Ljava/lang/Object;"⟩, Cond.selects "[B" ⟨"[B", "clone", "()Ljava/lang/Object;"⟩ ⟨"java/lang/Object", "clone", "()Ljava/lang/Object;"⟩, Cond.classLink RJ7 311 "[B", Cond.arrayClass .byte]
def wsX2_init_r2 : List Cond := [Cond.methodLink RJ7 304 Lib.Math.min.name, Cond.static Lib.Math.min.name, Cond.initialized "java/lang/Math", Cond.code Lib.Math.min.name Lib.Math.min.code 2 (some .int), Cond.methodLink RJ7 150 arraycopyName, Cond.native arraycopyName, Cond.static arraycopyName, Cond.initialized "java/lang/System"]
def wsX2_init : List Cond := .code yX2_init cX2_init 6 none :: ((wsX2_init_r1 ++ wsX2_init_r2) ++ wsX20 ++ wsX80)
def wsX3_init : List Cond := .code yX3_init cX3_init 2 none :: ([.methodLink RX3 3 objectInit, .instanceMethod objectInit, .code objectInit ⟨#[0xb1]⟩ 1 none, .classLink RX3 9 "[[I", .arrayClass .int, .fieldLink RX3 11 "JoinBench$Lattice" "cheapest" "[[I", .fieldLink RX3 16 "JoinBench$Lattice" "size" "I", .arrayClass .byte, .fieldLink RX3 20 "JoinBench$Lattice" "line" "[B", .arrayClass .long, .fieldLink RX3 24 "JoinBench$Lattice" "ways" "[J", .classLink RX3 28 "[[J", .fieldLink RX3 30 "JoinBench$Lattice" "plainWays" "[[J", .fieldLink RX3 33 "JoinBench$Lattice" "plainCheapest" "[[I", .fieldLink RX3 36 "JoinBench$Lattice" "ruledWays" "[[J", .fieldLink RX3 39 "JoinBench$Lattice" "ruledCheapest" "[[I", .fieldLink RX3 42 "JoinBench$Lattice" "inForce" "I", .arrayClass .boolean, .fieldLink RX3 45 "JoinBench$Lattice" "barred" "[Z", .fieldLink RX3 49 "JoinBench$Lattice" "tongue" "LJoinBench$Tongue;"] ++ wsX30)
def wsX9_rulesInForce : List Cond := .code yX9_rulesInForce cX9_rulesInForce 4 (some .int) :: ([.fieldLink RX9 27 "JoinBench$Tongue" "ruleCount" "I", .fieldLink RX9 19 "JoinBench$Tongue" "rules" "[LJoinBench$Rule;", .fieldLink RX9 59 "JoinBench$Rule" "firstDay" "I", .fieldLink RX9 62 "JoinBench$Rule" "lastDay" "I"] ++ wsX90 ++ wsX70)
def wsX3_setLine : List Cond := .code yX3_setLine cX3_setLine 5 none :: ([.methodLink RX3 53 Lib.Math.min.name, .static Lib.Math.min.name, .initialized "java/lang/Math", .code Lib.Math.min.name Lib.Math.min.code 2 (some .int), .fieldLink RX3 16 "JoinBench$Lattice" "size" "I", .fieldLink RX3 20 "JoinBench$Lattice" "line" "[B", .fieldLink RX3 49 "JoinBench$Lattice" "tongue" "LJoinBench$Tongue;", .fieldLink RX3 42 "JoinBench$Lattice" "inForce" "I", .methodLink RX3 59 yX9_rulesInForce, .instanceMethod yX9_rulesInForce, .selects RX9 yX9_rulesInForce yX9_rulesInForce, .initialized RX9, .code yX9_rulesInForce cX9_rulesInForce 4 (some .int), .fieldLink RX9 27 "JoinBench$Tongue" "ruleCount" "I", .fieldLink RX9 19 "JoinBench$Tongue" "rules" "[LJoinBench$Rule;", .fieldLink RX9 59 "JoinBench$Rule" "firstDay" "I", .fieldLink RX9 62 "JoinBench$Rule" "lastDay" "I"] ++ wsX30 ++ wsX90 ++ wsX70)
def wsJ7_fill_d0a16 : List Cond := .code yJ7_fill_d0a16 cJ7_fill_d0a16 5 none :: ([])
def wsJ7_fill_53178 : List Cond := .code yJ7_fill_53178 cJ7_fill_53178 4 none :: ([])
def wsX3_sharedLetters : List Cond := .code yX3_sharedLetters cX3_sharedLetters 6 (some .int) :: ([.fieldLink RX3 112 "JoinBench$Form" "letters" "[B", .fieldLink RX3 16 "JoinBench$Lattice" "size" "I", .methodLink RX3 53 Lib.Math.min.name, .static Lib.Math.min.name, .initialized "java/lang/Math", .code Lib.Math.min.name Lib.Math.min.code 2 (some .int), .fieldLink RX3 20 "JoinBench$Lattice" "line" "[B"] ++ wsX20 ++ wsX30)
def wsX11_capped : List Cond := .code yX11_capped cX11_capped 2 (some .long) :: ([.constantLong RX11 257 (1000000000000000), .methodLink RX11 259 Lib.MathLoose.min_long.x, .static Lib.MathLoose.min_long.x, .initialized "java/lang/Math", .code Lib.MathLoose.min_long.x Lib.MathLoose.min_long.code 4 (some .long)])
def wsX3_addToState : List Cond := .code yX3_addToState cX3_addToState 8 none :: ([.fieldLink RX3 96 "JoinBench$Form" "number" "I", .fieldLink RX3 24 "JoinBench$Lattice" "ways" "[J", .fieldLink RX3 11 "JoinBench$Lattice" "cheapest" "[[I", .fieldLink RX3 145 "JoinBench$Form" "cost" "I", .methodLink RX3 53 Lib.Math.min.name, .static Lib.Math.min.name, .initialized "java/lang/Math", .code Lib.Math.min.name Lib.Math.min.code 2 (some .int), .static yX11_capped, .initialized RX11, .code yX11_capped cX11_capped 2 (some .long), .constantLong RX11 257 (1000000000000000), .methodLink RX11 259 Lib.MathLoose.min_long.x, .static Lib.MathLoose.min_long.x, .code Lib.MathLoose.min_long.x Lib.MathLoose.min_long.code 4 (some .long)] ++ wsX20 ++ wsX30)
def wsX3_addPlainEnd : List Cond := .code yX3_addPlainEnd cX3_addPlainEnd 6 none :: ([.fieldLink RX3 112 "JoinBench$Form" "letters" "[B", .fieldLink RX3 16 "JoinBench$Lattice" "size" "I", .fieldLink RX3 30 "JoinBench$Lattice" "plainWays" "[[J", .fieldLink RX3 96 "JoinBench$Form" "number" "I", .fieldLink RX3 33 "JoinBench$Lattice" "plainCheapest" "[[I", .methodLink RX3 115 yX3_addToState, .instanceMethod yX3_addToState, .selects RX3 yX3_addToState yX3_addToState, .initialized RX3, .code yX3_addToState cX3_addToState 8 none, .fieldLink RX3 24 "JoinBench$Lattice" "ways" "[J", .fieldLink RX3 11 "JoinBench$Lattice" "cheapest" "[[I", .fieldLink RX3 145 "JoinBench$Form" "cost" "I", .methodLink RX3 53 Lib.Math.min.name, .static Lib.Math.min.name, .initialized "java/lang/Math", .code Lib.Math.min.name Lib.Math.min.code 2 (some .int), .static yX11_capped, .initialized RX11, .code yX11_capped cX11_capped 2 (some .long), .constantLong RX11 257 (1000000000000000), .methodLink RX11 259 Lib.MathLoose.min_long.x, .static Lib.MathLoose.min_long.x, .code Lib.MathLoose.min_long.x Lib.MathLoose.min_long.code 4 (some .long)] ++ wsX20 ++ wsX30)
def wsX11_hasRule : List Cond := .code yX11_hasRule cX11_hasRule 2 (some .boolean) :: ([])
def wsX7_stands : List Cond := .code yX7_stands cX7_stands 7 (some .boolean) :: ([.fieldLink RX7 30 "JoinBench$Rule" "letters" "[B"] ++ wsX70)
def wsX3_placeBehind : List Cond := .code yX3_placeBehind cX3_placeBehind 8 (some .int) :: ([.fieldLink RX3 166 "JoinBench$Rule" "endSize" "I", .fieldLink RX3 169 "JoinBench$Rule" "comesFrom" "I", .fieldLink RX3 172 "JoinBench$Rule" "comesSize" "I", .fieldLink RX3 20 "JoinBench$Lattice" "line" "[B", .fieldLink RX3 16 "JoinBench$Lattice" "size" "I", .methodLink RX3 175 yX7_stands, .instanceMethod yX7_stands, .selects RX7 yX7_stands yX7_stands, .initialized RX7, .code yX7_stands cX7_stands 7 (some .boolean), .fieldLink RX7 30 "JoinBench$Rule" "letters" "[B"] ++ wsX70 ++ wsX30)
def wsX3_addRuledEnds_r1 : List Cond := [Cond.fieldLink RX3 119 "JoinBench$Form" "ends" "I", Cond.fieldLink RX3 42 "JoinBench$Lattice" "inForce" "I", Cond.fieldLink RX3 49 "JoinBench$Lattice" "tongue" "LJoinBench$Tongue;", Cond.fieldLink RX3 122 "JoinBench$Tongue" "ruleCount" "I", Cond.fieldLink RX3 129 "JoinBench$Tongue" "rules" "[LJoinBench$Rule;", Cond.fieldLink RX3 112 "JoinBench$Form" "letters" "[B", Cond.fieldLink RX3 137 "JoinBench$Form" "kind" "I", Cond.fieldLink RX3 36 "JoinBench$Lattice" "ruledWays" "[[J", Cond.fieldLink RX3 39 "JoinBench$Lattice" "ruledCheapest" "[[I", Cond.fieldLink RX3 140 "JoinBench$Rule" "cost" "I", Cond.static yX11_hasRule, Cond.initialized RX11, Cond.code yX11_hasRule cX11_hasRule 2 (some .boolean), Cond.methodLink RX3 133 yX3_placeBehind, Cond.instanceMethod yX3_placeBehind, Cond.selects RX3 yX3_placeBehind yX3_placeBehind, Cond.initialized RX3, Cond.code yX3_placeBehind cX3_placeBehind 8 (some .int), Cond.fieldLink RX3 166 "JoinBench$Rule" "endSize" "I", Cond.fieldLink RX3 169 "JoinBench$Rule" "comesFrom" "I", Cond.fieldLink RX3 172 "JoinBench$Rule" "comesSize" "I", Cond.fieldLink RX3 20 "JoinBench$Lattice" "line" "[B", Cond.fieldLink RX3 16 "JoinBench$Lattice" "size" "I", Cond.methodLink RX3 175 yX7_stands]
def wsX3_addRuledEnds_r2 : List Cond := [Cond.instanceMethod yX7_stands, Cond.selects RX7 yX7_stands yX7_stands, Cond.initialized RX7, Cond.code yX7_stands cX7_stands 7 (some .boolean), Cond.fieldLink RX7 30 "JoinBench$Rule" "letters" "[B", Cond.methodLink RX3 115 yX3_addToState, Cond.instanceMethod yX3_addToState, Cond.selects RX3 yX3_addToState yX3_addToState, Cond.code yX3_addToState cX3_addToState 8 none, Cond.fieldLink RX3 96 "JoinBench$Form" "number" "I", Cond.fieldLink RX3 24 "JoinBench$Lattice" "ways" "[J", Cond.fieldLink RX3 11 "JoinBench$Lattice" "cheapest" "[[I", Cond.fieldLink RX3 145 "JoinBench$Form" "cost" "I", Cond.methodLink RX3 53 Lib.Math.min.name, Cond.static Lib.Math.min.name, Cond.initialized "java/lang/Math", Cond.code Lib.Math.min.name Lib.Math.min.code 2 (some .int), Cond.static yX11_capped, Cond.code yX11_capped cX11_capped 2 (some .long), Cond.constantLong RX11 257 (1000000000000000), Cond.methodLink RX11 259 Lib.MathLoose.min_long.x, Cond.static Lib.MathLoose.min_long.x, Cond.code Lib.MathLoose.min_long.x Lib.MathLoose.min_long.code 4 (some .long)]
def wsX3_addRuledEnds : List Cond := .code yX3_addRuledEnds cX3_addRuledEnds 10 none :: ((wsX3_addRuledEnds_r1 ++ wsX3_addRuledEnds_r2) ++ wsX20 ++ wsX30 ++ wsX90 ++ wsX70)
def wsX3_setForm_r1 : List Cond := [Cond.fieldLink RX3 96 "JoinBench$Form" "number" "I", Cond.fieldLink RX3 24 "JoinBench$Lattice" "ways" "[J", Cond.fieldLink RX3 11 "JoinBench$Lattice" "cheapest" "[[I", Cond.constant RX3 74 (1048576), Cond.methodLink RX3 101 yX3_sharedLetters, Cond.instanceMethod yX3_sharedLetters, Cond.selects RX3 yX3_sharedLetters yX3_sharedLetters, Cond.initialized RX3, Cond.code yX3_sharedLetters cX3_sharedLetters 6 (some .int), Cond.fieldLink RX3 112 "JoinBench$Form" "letters" "[B", Cond.fieldLink RX3 16 "JoinBench$Lattice" "size" "I", Cond.methodLink RX3 53 Lib.Math.min.name, Cond.static Lib.Math.min.name, Cond.initialized "java/lang/Math", Cond.code Lib.Math.min.name Lib.Math.min.code 2 (some .int), Cond.fieldLink RX3 20 "JoinBench$Lattice" "line" "[B", Cond.methodLink RX3 105 yX3_addPlainEnd, Cond.instanceMethod yX3_addPlainEnd, Cond.selects RX3 yX3_addPlainEnd yX3_addPlainEnd, Cond.code yX3_addPlainEnd cX3_addPlainEnd 6 none, Cond.fieldLink RX3 30 "JoinBench$Lattice" "plainWays" "[[J", Cond.fieldLink RX3 33 "JoinBench$Lattice" "plainCheapest" "[[I", Cond.methodLink RX3 115 yX3_addToState, Cond.instanceMethod yX3_addToState]
def wsX3_setForm_r2 : List Cond := [Cond.selects RX3 yX3_addToState yX3_addToState, Cond.code yX3_addToState cX3_addToState 8 none, Cond.fieldLink RX3 145 "JoinBench$Form" "cost" "I", Cond.static yX11_capped, Cond.initialized RX11, Cond.code yX11_capped cX11_capped 2 (some .long), Cond.constantLong RX11 257 (1000000000000000), Cond.methodLink RX11 259 Lib.MathLoose.min_long.x, Cond.static Lib.MathLoose.min_long.x, Cond.code Lib.MathLoose.min_long.x Lib.MathLoose.min_long.code 4 (some .long), Cond.methodLink RX3 109 yX3_addRuledEnds, Cond.instanceMethod yX3_addRuledEnds, Cond.selects RX3 yX3_addRuledEnds yX3_addRuledEnds, Cond.code yX3_addRuledEnds cX3_addRuledEnds 10 none, Cond.fieldLink RX3 119 "JoinBench$Form" "ends" "I", Cond.fieldLink RX3 42 "JoinBench$Lattice" "inForce" "I", Cond.fieldLink RX3 49 "JoinBench$Lattice" "tongue" "LJoinBench$Tongue;", Cond.fieldLink RX3 122 "JoinBench$Tongue" "ruleCount" "I", Cond.fieldLink RX3 129 "JoinBench$Tongue" "rules" "[LJoinBench$Rule;", Cond.fieldLink RX3 137 "JoinBench$Form" "kind" "I", Cond.fieldLink RX3 36 "JoinBench$Lattice" "ruledWays" "[[J", Cond.fieldLink RX3 39 "JoinBench$Lattice" "ruledCheapest" "[[I", Cond.fieldLink RX3 140 "JoinBench$Rule" "cost" "I", Cond.static yX11_hasRule]
def wsX3_setForm_r3 : List Cond := [Cond.code yX11_hasRule cX11_hasRule 2 (some .boolean), Cond.methodLink RX3 133 yX3_placeBehind, Cond.instanceMethod yX3_placeBehind, Cond.selects RX3 yX3_placeBehind yX3_placeBehind, Cond.code yX3_placeBehind cX3_placeBehind 8 (some .int), Cond.fieldLink RX3 166 "JoinBench$Rule" "endSize" "I", Cond.fieldLink RX3 169 "JoinBench$Rule" "comesFrom" "I", Cond.fieldLink RX3 172 "JoinBench$Rule" "comesSize" "I", Cond.methodLink RX3 175 yX7_stands, Cond.instanceMethod yX7_stands, Cond.selects RX7 yX7_stands yX7_stands, Cond.initialized RX7, Cond.code yX7_stands cX7_stands 7 (some .boolean), Cond.fieldLink RX7 30 "JoinBench$Rule" "letters" "[B"]
def wsX3_setForm : List Cond := .code yX3_setForm cX3_setForm 6 none :: ((wsX3_setForm_r1 ++ (wsX3_setForm_r2 ++ wsX3_setForm_r3)) ++ wsX20 ++ wsX30 ++ wsX90 ++ wsX70)
def wsX3_canMeetPlain : List Cond := .code yX3_canMeetPlain cX3_canMeetPlain 3 (some .boolean) :: ([.fieldLink RX3 119 "JoinBench$Form" "ends" "I", .fieldLink RX3 157 "JoinBench$Form" "begins" "I", .fieldLink RX3 42 "JoinBench$Lattice" "inForce" "I", .fieldLink RX3 45 "JoinBench$Lattice" "barred" "[Z", .fieldLink RX3 137 "JoinBench$Form" "kind" "I"] ++ wsX20 ++ wsX30)
def wsX3_gatherPlain_r1 : List Cond := [Cond.fieldLink RX3 96 "JoinBench$Form" "number" "I", Cond.fieldLink RX3 49 "JoinBench$Lattice" "tongue" "LJoinBench$Tongue;", Cond.fieldLink RX3 78 "JoinBench$Tongue" "formCount" "I", Cond.fieldLink RX3 81 "JoinBench$Tongue" "forms" "[LJoinBench$Form;", Cond.fieldLink RX3 30 "JoinBench$Lattice" "plainWays" "[[J", Cond.fieldLink RX3 24 "JoinBench$Lattice" "ways" "[J", Cond.fieldLink RX3 33 "JoinBench$Lattice" "plainCheapest" "[[I", Cond.fieldLink RX3 11 "JoinBench$Lattice" "cheapest" "[[I", Cond.methodLink RX3 53 Lib.Math.min.name, Cond.static Lib.Math.min.name, Cond.initialized "java/lang/Math", Cond.code Lib.Math.min.name Lib.Math.min.code 2 (some .int), Cond.methodLink RX3 153 yX3_canMeetPlain, Cond.instanceMethod yX3_canMeetPlain, Cond.selects RX3 yX3_canMeetPlain yX3_canMeetPlain, Cond.initialized RX3, Cond.code yX3_canMeetPlain cX3_canMeetPlain 3 (some .boolean), Cond.fieldLink RX3 119 "JoinBench$Form" "ends" "I", Cond.fieldLink RX3 157 "JoinBench$Form" "begins" "I", Cond.fieldLink RX3 42 "JoinBench$Lattice" "inForce" "I", Cond.fieldLink RX3 45 "JoinBench$Lattice" "barred" "[Z", Cond.fieldLink RX3 137 "JoinBench$Form" "kind" "I", Cond.static yX11_capped, Cond.initialized RX11]
def wsX3_gatherPlain_r2 : List Cond := [Cond.code yX11_capped cX11_capped 2 (some .long), Cond.constantLong RX11 257 (1000000000000000), Cond.methodLink RX11 259 Lib.MathLoose.min_long.x, Cond.static Lib.MathLoose.min_long.x, Cond.code Lib.MathLoose.min_long.x Lib.MathLoose.min_long.code 4 (some .long)]
def wsX3_gatherPlain : List Cond := .code yX3_gatherPlain cX3_gatherPlain 5 none :: ((wsX3_gatherPlain_r1 ++ wsX3_gatherPlain_r2) ++ wsX20 ++ wsX30 ++ wsX90)
def wsX3_gatherBehindRule : List Cond := .code yX3_gatherBehindRule cX3_gatherBehindRule 7 none :: ([.fieldLink RX3 96 "JoinBench$Form" "number" "I", .fieldLink RX3 49 "JoinBench$Lattice" "tongue" "LJoinBench$Tongue;", .fieldLink RX3 129 "JoinBench$Tongue" "rules" "[LJoinBench$Rule;", .fieldLink RX3 160 "JoinBench$Rule" "beginningSize" "I", .fieldLink RX3 45 "JoinBench$Lattice" "barred" "[Z", .fieldLink RX3 137 "JoinBench$Form" "kind" "I", .fieldLink RX3 36 "JoinBench$Lattice" "ruledWays" "[[J", .fieldLink RX3 24 "JoinBench$Lattice" "ways" "[J", .fieldLink RX3 39 "JoinBench$Lattice" "ruledCheapest" "[[I", .fieldLink RX3 11 "JoinBench$Lattice" "cheapest" "[[I", .methodLink RX3 53 Lib.Math.min.name, .static Lib.Math.min.name, .initialized "java/lang/Math", .code Lib.Math.min.name Lib.Math.min.code 2 (some .int), .static yX11_capped, .initialized RX11, .code yX11_capped cX11_capped 2 (some .long), .constantLong RX11 257 (1000000000000000), .methodLink RX11 259 Lib.MathLoose.min_long.x, .static Lib.MathLoose.min_long.x, .code Lib.MathLoose.min_long.x Lib.MathLoose.min_long.code 4 (some .long)] ++ wsX20 ++ wsX30 ++ wsX90 ++ wsX70)
def wsX3_gatherRuled_r1 : List Cond := [Cond.fieldLink RX3 157 "JoinBench$Form" "begins" "I", Cond.fieldLink RX3 42 "JoinBench$Lattice" "inForce" "I", Cond.fieldLink RX3 49 "JoinBench$Lattice" "tongue" "LJoinBench$Tongue;", Cond.fieldLink RX3 122 "JoinBench$Tongue" "ruleCount" "I", Cond.fieldLink RX3 129 "JoinBench$Tongue" "rules" "[LJoinBench$Rule;", Cond.fieldLink RX3 160 "JoinBench$Rule" "beginningSize" "I", Cond.static yX11_hasRule, Cond.initialized RX11, Cond.code yX11_hasRule cX11_hasRule 2 (some .boolean), Cond.methodLink RX3 163 yX3_gatherBehindRule, Cond.instanceMethod yX3_gatherBehindRule, Cond.selects RX3 yX3_gatherBehindRule yX3_gatherBehindRule, Cond.initialized RX3, Cond.code yX3_gatherBehindRule cX3_gatherBehindRule 7 none, Cond.fieldLink RX3 96 "JoinBench$Form" "number" "I", Cond.fieldLink RX3 45 "JoinBench$Lattice" "barred" "[Z", Cond.fieldLink RX3 137 "JoinBench$Form" "kind" "I", Cond.fieldLink RX3 36 "JoinBench$Lattice" "ruledWays" "[[J", Cond.fieldLink RX3 24 "JoinBench$Lattice" "ways" "[J", Cond.fieldLink RX3 39 "JoinBench$Lattice" "ruledCheapest" "[[I", Cond.fieldLink RX3 11 "JoinBench$Lattice" "cheapest" "[[I", Cond.methodLink RX3 53 Lib.Math.min.name, Cond.static Lib.Math.min.name, Cond.initialized "java/lang/Math"]
def wsX3_gatherRuled_r2 : List Cond := [Cond.code Lib.Math.min.name Lib.Math.min.code 2 (some .int), Cond.static yX11_capped, Cond.code yX11_capped cX11_capped 2 (some .long), Cond.constantLong RX11 257 (1000000000000000), Cond.methodLink RX11 259 Lib.MathLoose.min_long.x, Cond.static Lib.MathLoose.min_long.x, Cond.code Lib.MathLoose.min_long.x Lib.MathLoose.min_long.code 4 (some .long)]
def wsX3_gatherRuled : List Cond := .code yX3_gatherRuled cX3_gatherRuled 6 none :: ((wsX3_gatherRuled_r1 ++ wsX3_gatherRuled_r2) ++ wsX20 ++ wsX30 ++ wsX90 ++ wsX70)
def wsX3_gatherForm_r1 : List Cond := [Cond.fieldLink RX3 24 "JoinBench$Lattice" "ways" "[J", Cond.fieldLink RX3 96 "JoinBench$Form" "number" "I", Cond.methodLink RX3 146 yX3_gatherPlain, Cond.instanceMethod yX3_gatherPlain, Cond.selects RX3 yX3_gatherPlain yX3_gatherPlain, Cond.initialized RX3, Cond.code yX3_gatherPlain cX3_gatherPlain 5 none, Cond.fieldLink RX3 49 "JoinBench$Lattice" "tongue" "LJoinBench$Tongue;", Cond.fieldLink RX3 78 "JoinBench$Tongue" "formCount" "I", Cond.fieldLink RX3 81 "JoinBench$Tongue" "forms" "[LJoinBench$Form;", Cond.fieldLink RX3 30 "JoinBench$Lattice" "plainWays" "[[J", Cond.fieldLink RX3 33 "JoinBench$Lattice" "plainCheapest" "[[I", Cond.fieldLink RX3 11 "JoinBench$Lattice" "cheapest" "[[I", Cond.methodLink RX3 53 Lib.Math.min.name, Cond.static Lib.Math.min.name, Cond.initialized "java/lang/Math", Cond.code Lib.Math.min.name Lib.Math.min.code 2 (some .int), Cond.methodLink RX3 153 yX3_canMeetPlain, Cond.instanceMethod yX3_canMeetPlain, Cond.selects RX3 yX3_canMeetPlain yX3_canMeetPlain, Cond.code yX3_canMeetPlain cX3_canMeetPlain 3 (some .boolean), Cond.fieldLink RX3 119 "JoinBench$Form" "ends" "I", Cond.fieldLink RX3 157 "JoinBench$Form" "begins" "I", Cond.fieldLink RX3 42 "JoinBench$Lattice" "inForce" "I"]
def wsX3_gatherForm_r2 : List Cond := [Cond.fieldLink RX3 45 "JoinBench$Lattice" "barred" "[Z", Cond.fieldLink RX3 137 "JoinBench$Form" "kind" "I", Cond.static yX11_capped, Cond.initialized RX11, Cond.code yX11_capped cX11_capped 2 (some .long), Cond.constantLong RX11 257 (1000000000000000), Cond.methodLink RX11 259 Lib.MathLoose.min_long.x, Cond.static Lib.MathLoose.min_long.x, Cond.code Lib.MathLoose.min_long.x Lib.MathLoose.min_long.code 4 (some .long), Cond.methodLink RX3 149 yX3_gatherRuled, Cond.instanceMethod yX3_gatherRuled, Cond.selects RX3 yX3_gatherRuled yX3_gatherRuled, Cond.code yX3_gatherRuled cX3_gatherRuled 6 none, Cond.fieldLink RX3 122 "JoinBench$Tongue" "ruleCount" "I", Cond.fieldLink RX3 129 "JoinBench$Tongue" "rules" "[LJoinBench$Rule;", Cond.fieldLink RX3 160 "JoinBench$Rule" "beginningSize" "I", Cond.static yX11_hasRule, Cond.code yX11_hasRule cX11_hasRule 2 (some .boolean), Cond.methodLink RX3 163 yX3_gatherBehindRule, Cond.instanceMethod yX3_gatherBehindRule, Cond.selects RX3 yX3_gatherBehindRule yX3_gatherBehindRule, Cond.code yX3_gatherBehindRule cX3_gatherBehindRule 7 none, Cond.fieldLink RX3 36 "JoinBench$Lattice" "ruledWays" "[[J", Cond.fieldLink RX3 39 "JoinBench$Lattice" "ruledCheapest" "[[I"]
def wsX3_gatherForm : List Cond := .code yX3_gatherForm cX3_gatherForm 4 none :: ((wsX3_gatherForm_r1 ++ wsX3_gatherForm_r2) ++ wsX30 ++ wsX20 ++ wsX90 ++ wsX70)
def wsX3_fill_r1 : List Cond := [Cond.fieldLink RX3 45 "JoinBench$Lattice" "barred" "[Z", Cond.fieldLink RX3 49 "JoinBench$Lattice" "tongue" "LJoinBench$Tongue;", Cond.fieldLink RX3 65 "JoinBench$Tongue" "forbidden" "[Z", Cond.fieldLink RX3 16 "JoinBench$Lattice" "size" "I", Cond.fieldLink RX3 30 "JoinBench$Lattice" "plainWays" "[[J", Cond.fieldLink RX3 33 "JoinBench$Lattice" "plainCheapest" "[[I", Cond.constant RX3 74 (1048576), Cond.fieldLink RX3 36 "JoinBench$Lattice" "ruledWays" "[[J", Cond.fieldLink RX3 39 "JoinBench$Lattice" "ruledCheapest" "[[I", Cond.fieldLink RX3 78 "JoinBench$Tongue" "formCount" "I", Cond.fieldLink RX3 81 "JoinBench$Tongue" "forms" "[LJoinBench$Form;", Cond.fieldLink RX3 24 "JoinBench$Lattice" "ways" "[J", Cond.methodLink RX3 68 yJ7_fill_d0a16, Cond.static yJ7_fill_d0a16, Cond.initialized RJ7, Cond.code yJ7_fill_d0a16 cJ7_fill_d0a16 5 none, Cond.methodLink RX3 75 yJ7_fill_53178, Cond.static yJ7_fill_53178, Cond.code yJ7_fill_53178 cJ7_fill_53178 4 none, Cond.methodLink RX3 85 yX3_setForm, Cond.instanceMethod yX3_setForm, Cond.selects RX3 yX3_setForm yX3_setForm, Cond.initialized RX3, Cond.code yX3_setForm cX3_setForm 6 none]
def wsX3_fill_r2 : List Cond := [Cond.fieldLink RX3 96 "JoinBench$Form" "number" "I", Cond.fieldLink RX3 11 "JoinBench$Lattice" "cheapest" "[[I", Cond.methodLink RX3 101 yX3_sharedLetters, Cond.instanceMethod yX3_sharedLetters, Cond.selects RX3 yX3_sharedLetters yX3_sharedLetters, Cond.code yX3_sharedLetters cX3_sharedLetters 6 (some .int), Cond.fieldLink RX3 112 "JoinBench$Form" "letters" "[B", Cond.methodLink RX3 53 Lib.Math.min.name, Cond.static Lib.Math.min.name, Cond.initialized "java/lang/Math", Cond.code Lib.Math.min.name Lib.Math.min.code 2 (some .int), Cond.fieldLink RX3 20 "JoinBench$Lattice" "line" "[B", Cond.methodLink RX3 105 yX3_addPlainEnd, Cond.instanceMethod yX3_addPlainEnd, Cond.selects RX3 yX3_addPlainEnd yX3_addPlainEnd, Cond.code yX3_addPlainEnd cX3_addPlainEnd 6 none, Cond.methodLink RX3 115 yX3_addToState, Cond.instanceMethod yX3_addToState, Cond.selects RX3 yX3_addToState yX3_addToState, Cond.code yX3_addToState cX3_addToState 8 none, Cond.fieldLink RX3 145 "JoinBench$Form" "cost" "I", Cond.static yX11_capped, Cond.initialized RX11, Cond.code yX11_capped cX11_capped 2 (some .long)]
def wsX3_fill_r3 : List Cond := [Cond.constantLong RX11 257 (1000000000000000), Cond.methodLink RX11 259 Lib.MathLoose.min_long.x, Cond.static Lib.MathLoose.min_long.x, Cond.code Lib.MathLoose.min_long.x Lib.MathLoose.min_long.code 4 (some .long), Cond.methodLink RX3 109 yX3_addRuledEnds, Cond.instanceMethod yX3_addRuledEnds, Cond.selects RX3 yX3_addRuledEnds yX3_addRuledEnds, Cond.code yX3_addRuledEnds cX3_addRuledEnds 10 none, Cond.fieldLink RX3 119 "JoinBench$Form" "ends" "I", Cond.fieldLink RX3 42 "JoinBench$Lattice" "inForce" "I", Cond.fieldLink RX3 122 "JoinBench$Tongue" "ruleCount" "I", Cond.fieldLink RX3 129 "JoinBench$Tongue" "rules" "[LJoinBench$Rule;", Cond.fieldLink RX3 137 "JoinBench$Form" "kind" "I", Cond.fieldLink RX3 140 "JoinBench$Rule" "cost" "I", Cond.static yX11_hasRule, Cond.code yX11_hasRule cX11_hasRule 2 (some .boolean), Cond.methodLink RX3 133 yX3_placeBehind, Cond.instanceMethod yX3_placeBehind, Cond.selects RX3 yX3_placeBehind yX3_placeBehind, Cond.code yX3_placeBehind cX3_placeBehind 8 (some .int), Cond.fieldLink RX3 166 "JoinBench$Rule" "endSize" "I", Cond.fieldLink RX3 169 "JoinBench$Rule" "comesFrom" "I", Cond.fieldLink RX3 172 "JoinBench$Rule" "comesSize" "I", Cond.methodLink RX3 175 yX7_stands]
def wsX3_fill_r4 : List Cond := [Cond.instanceMethod yX7_stands, Cond.selects RX7 yX7_stands yX7_stands, Cond.initialized RX7, Cond.code yX7_stands cX7_stands 7 (some .boolean), Cond.fieldLink RX7 30 "JoinBench$Rule" "letters" "[B", Cond.methodLink RX3 89 yX3_gatherForm, Cond.instanceMethod yX3_gatherForm, Cond.selects RX3 yX3_gatherForm yX3_gatherForm, Cond.code yX3_gatherForm cX3_gatherForm 4 none, Cond.methodLink RX3 146 yX3_gatherPlain, Cond.instanceMethod yX3_gatherPlain, Cond.selects RX3 yX3_gatherPlain yX3_gatherPlain, Cond.code yX3_gatherPlain cX3_gatherPlain 5 none, Cond.methodLink RX3 153 yX3_canMeetPlain, Cond.instanceMethod yX3_canMeetPlain, Cond.selects RX3 yX3_canMeetPlain yX3_canMeetPlain, Cond.code yX3_canMeetPlain cX3_canMeetPlain 3 (some .boolean), Cond.fieldLink RX3 157 "JoinBench$Form" "begins" "I", Cond.methodLink RX3 149 yX3_gatherRuled, Cond.instanceMethod yX3_gatherRuled, Cond.selects RX3 yX3_gatherRuled yX3_gatherRuled, Cond.code yX3_gatherRuled cX3_gatherRuled 6 none, Cond.fieldLink RX3 160 "JoinBench$Rule" "beginningSize" "I", Cond.methodLink RX3 163 yX3_gatherBehindRule]
def wsX3_fill_r5 : List Cond := [Cond.instanceMethod yX3_gatherBehindRule, Cond.selects RX3 yX3_gatherBehindRule yX3_gatherBehindRule, Cond.code yX3_gatherBehindRule cX3_gatherBehindRule 7 none]
def wsX3_fill : List Cond := .code yX3_fill cX3_fill 5 (some .long) :: ((wsX3_fill_r1 ++ (wsX3_fill_r2 ++ (wsX3_fill_r3 ++ (wsX3_fill_r4 ++ wsX3_fill_r5)))) ++ wsX30 ++ wsX90 ++ wsX20 ++ wsX70)
def wsX3_canMeetBy : List Cond := .code yX3_canMeetBy cX3_canMeetBy 4 (some .boolean) :: ([.fieldLink RX3 119 "JoinBench$Form" "ends" "I", .fieldLink RX3 157 "JoinBench$Form" "begins" "I", .fieldLink RX3 42 "JoinBench$Lattice" "inForce" "I", .fieldLink RX3 45 "JoinBench$Lattice" "barred" "[Z", .fieldLink RX3 137 "JoinBench$Form" "kind" "I", .static yX11_hasRule, .initialized RX11, .code yX11_hasRule cX11_hasRule 2 (some .boolean)] ++ wsX20 ++ wsX30)
def wsX5_init : List Cond := .code yX5_init cX5_init 1 none :: ([.methodLink RX5 1 objectInit, .instanceMethod objectInit, .code objectInit ⟨#[0xb1]⟩ 1 none, .classLink RX5 7 RX0, .instantiable RX0 3, .initialized RX0, .fieldLink RX5 10 "JoinBench$Path" "chain" "LJoinBench$Chain;", .fieldLink RX5 16 "JoinBench$Path" "cost" "I", .fieldLink RX5 20 "JoinBench$Path" "spent" "I", .fieldLink RX5 23 "JoinBench$Path" "place" "I", .fieldLink RX5 26 "JoinBench$Path" "ended" "Z", .fieldLink RX5 30 "JoinBench$Path" "rank" "I", .instanceMethod yX0_init, .code yX0_init cX0_init 1 none, .methodLink RX0 3 objectInit, .classLink RX0 9 RX2, .fieldLink RX0 11 "JoinBench$Chain" "forms" "[LJoinBench$Form;", .classLink RX0 17 RX7, .fieldLink RX0 19 "JoinBench$Chain" "rules" "[LJoinBench$Rule;", .fieldLink RX0 23 "JoinBench$Chain" "size" "I"] ++ wsX00 ++ wsX50)
def wsX4_init_r1 : List Cond := [Cond.methodLink RX4 5 objectInit, Cond.instanceMethod objectInit, Cond.code objectInit ⟨#[0xb1]⟩ 1 none, Cond.fieldLink RX4 11 "JoinBench$Parter" "countedUncut" "J", Cond.fieldLink RX4 15 "JoinBench$Parter" "counted" "J", Cond.fieldLink RX4 18 "JoinBench$Parter" "left" "Z", Cond.classLink RX4 22 RX5, Cond.fieldLink RX4 24 "JoinBench$Parter" "told" "[LJoinBench$Path;", Cond.fieldLink RX4 28 "JoinBench$Parter" "toldCount" "I", Cond.fieldLink RX4 32 "JoinBench$Parter" "grown" "[LJoinBench$Path;", Cond.arrayClass .int, Cond.fieldLink RX4 35 "JoinBench$Parter" "keys" "[I", Cond.fieldLink RX4 39 "JoinBench$Parter" "keyCount" "I", Cond.fieldLink RX4 42 "JoinBench$Parter" "tongue" "LJoinBench$Tongue;", Cond.classLink RX4 46 RX3, Cond.instantiable RX3 11, Cond.initialized RX3, Cond.fieldLink RX4 51 "JoinBench$Parter" "lattice" "LJoinBench$Lattice;", Cond.instantiable RX5 6, Cond.initialized RX5, Cond.methodLink RX4 48 yX3_init, Cond.instanceMethod yX3_init, Cond.code yX3_init cX3_init 2 none, Cond.methodLink RX3 3 objectInit]
def wsX4_init_r2 : List Cond := [Cond.classLink RX3 9 "[[I", Cond.fieldLink RX3 11 "JoinBench$Lattice" "cheapest" "[[I", Cond.fieldLink RX3 16 "JoinBench$Lattice" "size" "I", Cond.arrayClass .byte, Cond.fieldLink RX3 20 "JoinBench$Lattice" "line" "[B", Cond.arrayClass .long, Cond.fieldLink RX3 24 "JoinBench$Lattice" "ways" "[J", Cond.classLink RX3 28 "[[J", Cond.fieldLink RX3 30 "JoinBench$Lattice" "plainWays" "[[J", Cond.fieldLink RX3 33 "JoinBench$Lattice" "plainCheapest" "[[I", Cond.fieldLink RX3 36 "JoinBench$Lattice" "ruledWays" "[[J", Cond.fieldLink RX3 39 "JoinBench$Lattice" "ruledCheapest" "[[I", Cond.fieldLink RX3 42 "JoinBench$Lattice" "inForce" "I", Cond.arrayClass .boolean, Cond.fieldLink RX3 45 "JoinBench$Lattice" "barred" "[Z", Cond.fieldLink RX3 49 "JoinBench$Lattice" "tongue" "LJoinBench$Tongue;", Cond.instanceMethod yX5_init, Cond.code yX5_init cX5_init 1 none, Cond.methodLink RX5 1 objectInit, Cond.classLink RX5 7 RX0, Cond.instantiable RX0 3, Cond.initialized RX0, Cond.fieldLink RX5 10 "JoinBench$Path" "chain" "LJoinBench$Chain;", Cond.fieldLink RX5 16 "JoinBench$Path" "cost" "I"]
def wsX4_init_r3 : List Cond := [Cond.fieldLink RX5 20 "JoinBench$Path" "spent" "I", Cond.fieldLink RX5 23 "JoinBench$Path" "place" "I", Cond.fieldLink RX5 26 "JoinBench$Path" "ended" "Z", Cond.fieldLink RX5 30 "JoinBench$Path" "rank" "I", Cond.instanceMethod yX0_init, Cond.code yX0_init cX0_init 1 none, Cond.methodLink RX0 3 objectInit, Cond.classLink RX0 9 RX2, Cond.fieldLink RX0 11 "JoinBench$Chain" "forms" "[LJoinBench$Form;", Cond.classLink RX0 17 RX7, Cond.fieldLink RX0 19 "JoinBench$Chain" "rules" "[LJoinBench$Rule;", Cond.fieldLink RX0 23 "JoinBench$Chain" "size" "I"]
def wsX4_init : List Cond := .code yX4_init cX4_init 3 none :: ((wsX4_init_r1 ++ (wsX4_init_r2 ++ wsX4_init_r3)) ++ wsX40 ++ wsX30 ++ wsX50 ++ wsX00)
def wsX9_allMayMeet : List Cond := .code yX9_allMayMeet cX9_allMayMeet 2 (some .boolean) :: ([.fieldLink RX9 30 "JoinBench$Tongue" "forbidden" "[Z"] ++ wsX90)
def wsX4_countLine_r1 : List Cond := [Cond.fieldLink RX4 51 "JoinBench$Parter" "lattice" "LJoinBench$Lattice;", Cond.fieldLink RX4 11 "JoinBench$Parter" "countedUncut" "J", Cond.fieldLink RX4 15 "JoinBench$Parter" "counted" "J", Cond.fieldLink RX4 18 "JoinBench$Parter" "left" "Z", Cond.fieldLink RX4 42 "JoinBench$Parter" "tongue" "LJoinBench$Tongue;", Cond.methodLink RX4 56 yX3_setLine, Cond.instanceMethod yX3_setLine, Cond.selects RX3 yX3_setLine yX3_setLine, Cond.initialized RX3, Cond.code yX3_setLine cX3_setLine 5 none, Cond.methodLink RX3 53 Lib.Math.min.name, Cond.static Lib.Math.min.name, Cond.initialized "java/lang/Math", Cond.code Lib.Math.min.name Lib.Math.min.code 2 (some .int), Cond.fieldLink RX3 16 "JoinBench$Lattice" "size" "I", Cond.fieldLink RX3 20 "JoinBench$Lattice" "line" "[B", Cond.fieldLink RX3 49 "JoinBench$Lattice" "tongue" "LJoinBench$Tongue;", Cond.fieldLink RX3 42 "JoinBench$Lattice" "inForce" "I", Cond.methodLink RX3 59 yX9_rulesInForce, Cond.instanceMethod yX9_rulesInForce, Cond.selects RX9 yX9_rulesInForce yX9_rulesInForce, Cond.initialized RX9, Cond.code yX9_rulesInForce cX9_rulesInForce 4 (some .int), Cond.fieldLink RX9 27 "JoinBench$Tongue" "ruleCount" "I"]
def wsX4_countLine_r2 : List Cond := [Cond.fieldLink RX9 19 "JoinBench$Tongue" "rules" "[LJoinBench$Rule;", Cond.fieldLink RX9 59 "JoinBench$Rule" "firstDay" "I", Cond.fieldLink RX9 62 "JoinBench$Rule" "lastDay" "I", Cond.methodLink RX4 60 yX3_fill, Cond.instanceMethod yX3_fill, Cond.selects RX3 yX3_fill yX3_fill, Cond.code yX3_fill cX3_fill 5 (some .long), Cond.fieldLink RX3 45 "JoinBench$Lattice" "barred" "[Z", Cond.fieldLink RX3 65 "JoinBench$Tongue" "forbidden" "[Z", Cond.fieldLink RX3 30 "JoinBench$Lattice" "plainWays" "[[J", Cond.fieldLink RX3 33 "JoinBench$Lattice" "plainCheapest" "[[I", Cond.constant RX3 74 (1048576), Cond.fieldLink RX3 36 "JoinBench$Lattice" "ruledWays" "[[J", Cond.fieldLink RX3 39 "JoinBench$Lattice" "ruledCheapest" "[[I", Cond.fieldLink RX3 78 "JoinBench$Tongue" "formCount" "I", Cond.fieldLink RX3 81 "JoinBench$Tongue" "forms" "[LJoinBench$Form;", Cond.fieldLink RX3 24 "JoinBench$Lattice" "ways" "[J", Cond.methodLink RX3 68 yJ7_fill_d0a16, Cond.static yJ7_fill_d0a16, Cond.initialized RJ7, Cond.code yJ7_fill_d0a16 cJ7_fill_d0a16 5 none, Cond.methodLink RX3 75 yJ7_fill_53178, Cond.static yJ7_fill_53178, Cond.code yJ7_fill_53178 cJ7_fill_53178 4 none]
def wsX4_countLine_r3 : List Cond := [Cond.methodLink RX3 85 yX3_setForm, Cond.instanceMethod yX3_setForm, Cond.selects RX3 yX3_setForm yX3_setForm, Cond.code yX3_setForm cX3_setForm 6 none, Cond.fieldLink RX3 96 "JoinBench$Form" "number" "I", Cond.fieldLink RX3 11 "JoinBench$Lattice" "cheapest" "[[I", Cond.methodLink RX3 101 yX3_sharedLetters, Cond.instanceMethod yX3_sharedLetters, Cond.selects RX3 yX3_sharedLetters yX3_sharedLetters, Cond.code yX3_sharedLetters cX3_sharedLetters 6 (some .int), Cond.fieldLink RX3 112 "JoinBench$Form" "letters" "[B", Cond.methodLink RX3 105 yX3_addPlainEnd, Cond.instanceMethod yX3_addPlainEnd, Cond.selects RX3 yX3_addPlainEnd yX3_addPlainEnd, Cond.code yX3_addPlainEnd cX3_addPlainEnd 6 none, Cond.methodLink RX3 115 yX3_addToState, Cond.instanceMethod yX3_addToState, Cond.selects RX3 yX3_addToState yX3_addToState, Cond.code yX3_addToState cX3_addToState 8 none, Cond.fieldLink RX3 145 "JoinBench$Form" "cost" "I", Cond.static yX11_capped, Cond.initialized RX11, Cond.code yX11_capped cX11_capped 2 (some .long), Cond.constantLong RX11 257 (1000000000000000)]
def wsX4_countLine_r4 : List Cond := [Cond.methodLink RX11 259 Lib.MathLoose.min_long.x, Cond.static Lib.MathLoose.min_long.x, Cond.code Lib.MathLoose.min_long.x Lib.MathLoose.min_long.code 4 (some .long), Cond.methodLink RX3 109 yX3_addRuledEnds, Cond.instanceMethod yX3_addRuledEnds, Cond.selects RX3 yX3_addRuledEnds yX3_addRuledEnds, Cond.code yX3_addRuledEnds cX3_addRuledEnds 10 none, Cond.fieldLink RX3 119 "JoinBench$Form" "ends" "I", Cond.fieldLink RX3 122 "JoinBench$Tongue" "ruleCount" "I", Cond.fieldLink RX3 129 "JoinBench$Tongue" "rules" "[LJoinBench$Rule;", Cond.fieldLink RX3 137 "JoinBench$Form" "kind" "I", Cond.fieldLink RX3 140 "JoinBench$Rule" "cost" "I", Cond.static yX11_hasRule, Cond.code yX11_hasRule cX11_hasRule 2 (some .boolean), Cond.methodLink RX3 133 yX3_placeBehind, Cond.instanceMethod yX3_placeBehind, Cond.selects RX3 yX3_placeBehind yX3_placeBehind, Cond.code yX3_placeBehind cX3_placeBehind 8 (some .int), Cond.fieldLink RX3 166 "JoinBench$Rule" "endSize" "I", Cond.fieldLink RX3 169 "JoinBench$Rule" "comesFrom" "I", Cond.fieldLink RX3 172 "JoinBench$Rule" "comesSize" "I", Cond.methodLink RX3 175 yX7_stands, Cond.instanceMethod yX7_stands, Cond.selects RX7 yX7_stands yX7_stands]
def wsX4_countLine_r5 : List Cond := [Cond.initialized RX7, Cond.code yX7_stands cX7_stands 7 (some .boolean), Cond.fieldLink RX7 30 "JoinBench$Rule" "letters" "[B", Cond.methodLink RX3 89 yX3_gatherForm, Cond.instanceMethod yX3_gatherForm, Cond.selects RX3 yX3_gatherForm yX3_gatherForm, Cond.code yX3_gatherForm cX3_gatherForm 4 none, Cond.methodLink RX3 146 yX3_gatherPlain, Cond.instanceMethod yX3_gatherPlain, Cond.selects RX3 yX3_gatherPlain yX3_gatherPlain, Cond.code yX3_gatherPlain cX3_gatherPlain 5 none, Cond.methodLink RX3 153 yX3_canMeetPlain, Cond.instanceMethod yX3_canMeetPlain, Cond.selects RX3 yX3_canMeetPlain yX3_canMeetPlain, Cond.code yX3_canMeetPlain cX3_canMeetPlain 3 (some .boolean), Cond.fieldLink RX3 157 "JoinBench$Form" "begins" "I", Cond.methodLink RX3 149 yX3_gatherRuled, Cond.instanceMethod yX3_gatherRuled, Cond.selects RX3 yX3_gatherRuled yX3_gatherRuled, Cond.code yX3_gatherRuled cX3_gatherRuled 6 none, Cond.fieldLink RX3 160 "JoinBench$Rule" "beginningSize" "I", Cond.methodLink RX3 163 yX3_gatherBehindRule, Cond.instanceMethod yX3_gatherBehindRule, Cond.selects RX3 yX3_gatherBehindRule yX3_gatherBehindRule]
def wsX4_countLine_r6 : List Cond := [Cond.code yX3_gatherBehindRule cX3_gatherBehindRule 7 none, Cond.methodLink RX4 64 yX9_allMayMeet, Cond.instanceMethod yX9_allMayMeet, Cond.selects RX9 yX9_allMayMeet yX9_allMayMeet, Cond.code yX9_allMayMeet cX9_allMayMeet 2 (some .boolean), Cond.fieldLink RX9 30 "JoinBench$Tongue" "forbidden" "[Z"]
def wsX4_countLine : List Cond := .code yX4_countLine cX4_countLine 4 none :: ((wsX4_countLine_r1 ++ (wsX4_countLine_r2 ++ (wsX4_countLine_r3 ++ (wsX4_countLine_r4 ++ (wsX4_countLine_r5 ++ wsX4_countLine_r6))))) ++ wsX40 ++ wsX30 ++ wsX90 ++ wsX70 ++ wsX20)
def wsX4_offer : List Cond := .code yX4_offer cX4_offer 7 none :: ([.constant RX4 200 (1048576), .fieldLink RX4 39 "JoinBench$Parter" "keyCount" "I", .fieldLink RX4 35 "JoinBench$Parter" "keys" "[I"] ++ wsX40)
def wsX4_keyForm : List Cond := .code yX4_keyForm cX4_keyForm 1 (some .int) :: ([])
def wsX9_formAt : List Cond := .code yX9_formAt cX9_formAt 2 (some (.object "JoinBench$Form")) :: ([.fieldLink RX9 23 "JoinBench$Tongue" "formCount" "I", .fieldLink RX9 11 "JoinBench$Tongue" "forms" "[LJoinBench$Form;"] ++ wsX90)
def wsX4_rankOf : List Cond := .code yX4_rankOf cX4_rankOf 5 (some .int) :: ([.fieldLink RX4 39 "JoinBench$Parter" "keyCount" "I", .fieldLink RX4 35 "JoinBench$Parter" "keys" "[I"] ++ wsX40)
def wsX4_startPaths_r1 : List Cond := [Cond.fieldLink RX4 39 "JoinBench$Parter" "keyCount" "I", Cond.fieldLink RX4 42 "JoinBench$Parter" "tongue" "LJoinBench$Tongue;", Cond.fieldLink RX4 85 "JoinBench$Tongue" "formCount" "I", Cond.fieldLink RX4 51 "JoinBench$Parter" "lattice" "LJoinBench$Lattice;", Cond.fieldLink RX4 88 "JoinBench$Lattice" "cheapest" "[[I", Cond.fieldLink RX4 28 "JoinBench$Parter" "toldCount" "I", Cond.fieldLink RX4 24 "JoinBench$Parter" "told" "[LJoinBench$Path;", Cond.fieldLink RX4 96 "JoinBench$Path" "chain" "LJoinBench$Chain;", Cond.fieldLink RX4 100 "JoinBench$Chain" "size" "I", Cond.fieldLink RX4 35 "JoinBench$Parter" "keys" "[I", Cond.fieldLink RX4 115 "JoinBench$Path" "cost" "I", Cond.fieldLink RX4 118 "JoinBench$Path" "spent" "I", Cond.fieldLink RX4 121 "JoinBench$Path" "place" "I", Cond.fieldLink RX4 82 "JoinBench$Path" "ended" "Z", Cond.fieldLink RX4 127 "JoinBench$Path" "rank" "I", Cond.methodLink RX4 92 yX4_offer, Cond.instanceMethod yX4_offer, Cond.selects RX4 yX4_offer yX4_offer, Cond.initialized RX4, Cond.code yX4_offer cX4_offer 7 none, Cond.constant RX4 200 (1048576), Cond.methodLink RX4 103 yX4_keyForm, Cond.static yX4_keyForm, Cond.code yX4_keyForm cX4_keyForm 1 (some .int)]
def wsX4_startPaths_r2 : List Cond := [Cond.methodLink RX4 107 yX9_formAt, Cond.instanceMethod yX9_formAt, Cond.selects RX9 yX9_formAt yX9_formAt, Cond.initialized RX9, Cond.code yX9_formAt cX9_formAt 2 (some (.object "JoinBench$Form")), Cond.fieldLink RX9 23 "JoinBench$Tongue" "formCount" "I", Cond.fieldLink RX9 11 "JoinBench$Tongue" "forms" "[LJoinBench$Form;", Cond.methodLink RX4 111 yX0_append, Cond.instanceMethod yX0_append, Cond.selects RX0 yX0_append yX0_append, Cond.initialized RX0, Cond.code yX0_append cX0_append 3 none, Cond.fieldLink RX0 23 "JoinBench$Chain" "size" "I", Cond.fieldLink RX0 11 "JoinBench$Chain" "forms" "[LJoinBench$Form;", Cond.fieldLink RX0 19 "JoinBench$Chain" "rules" "[LJoinBench$Rule;", Cond.methodLink RX4 124 yX4_rankOf, Cond.instanceMethod yX4_rankOf, Cond.selects RX4 yX4_rankOf yX4_rankOf, Cond.code yX4_rankOf cX4_rankOf 5 (some .int)]
def wsX4_startPaths : List Cond := .code yX4_startPaths cX4_startPaths 3 none :: ((wsX4_startPaths_r1 ++ wsX4_startPaths_r2) ++ wsX40 ++ wsX90 ++ wsX30 ++ wsX50 ++ wsX00)
def wsX4_allEnded : List Cond := .code yX4_allEnded cX4_allEnded 2 (some .boolean) :: ([.fieldLink RX4 28 "JoinBench$Parter" "toldCount" "I", .fieldLink RX4 24 "JoinBench$Parter" "told" "[LJoinBench$Path;", .fieldLink RX4 82 "JoinBench$Path" "ended" "Z"] ++ wsX40 ++ wsX50)
def wsX4_offerPlainSteps_r1 : List Cond := [Cond.fieldLink RX4 96 "JoinBench$Path" "chain" "LJoinBench$Chain;", Cond.fieldLink RX4 51 "JoinBench$Parter" "lattice" "LJoinBench$Lattice;", Cond.fieldLink RX4 121 "JoinBench$Path" "place" "I", Cond.fieldLink RX4 118 "JoinBench$Path" "spent" "I", Cond.fieldLink RX4 153 "JoinBench$Form" "cost" "I", Cond.fieldLink RX4 156 "JoinBench$Form" "letters" "[B", Cond.fieldLink RX4 73 "JoinBench$Lattice" "size" "I", Cond.fieldLink RX4 127 "JoinBench$Path" "rank" "I", Cond.fieldLink RX4 42 "JoinBench$Parter" "tongue" "LJoinBench$Tongue;", Cond.fieldLink RX4 85 "JoinBench$Tongue" "formCount" "I", Cond.fieldLink RX4 160 "JoinBench$Tongue" "forms" "[LJoinBench$Form;", Cond.fieldLink RX4 88 "JoinBench$Lattice" "cheapest" "[[I", Cond.methodLink RX4 141 yX0_last, Cond.instanceMethod yX0_last, Cond.selects RX0 yX0_last yX0_last, Cond.initialized RX0, Cond.code yX0_last cX0_last 1 (some (.object "JoinBench$Form")), Cond.fieldLink RX0 23 "JoinBench$Chain" "size" "I", Cond.methodLink RX0 27 yX0_formAt, Cond.instanceMethod yX0_formAt, Cond.selects RX0 yX0_formAt yX0_formAt, Cond.code yX0_formAt cX0_formAt 2 (some (.object "JoinBench$Form")), Cond.fieldLink RX0 11 "JoinBench$Chain" "forms" "[LJoinBench$Form;", Cond.methodLink RX4 145 yX0_lastCut]
def wsX4_offerPlainSteps_r2 : List Cond := [Cond.instanceMethod yX0_lastCut, Cond.selects RX0 yX0_lastCut yX0_lastCut, Cond.code yX0_lastCut cX0_lastCut 1 (some .int), Cond.methodLink RX0 31 yX0_cutAtBeginning, Cond.instanceMethod yX0_cutAtBeginning, Cond.selects RX0 yX0_cutAtBeginning yX0_cutAtBeginning, Cond.code yX0_cutAtBeginning cX0_cutAtBeginning 3 (some .int), Cond.fieldLink RX0 39 "JoinBench$Rule" "beginningSize" "I", Cond.methodLink RX0 35 yX0_ruleAheadOf, Cond.instanceMethod yX0_ruleAheadOf, Cond.selects RX0 yX0_ruleAheadOf yX0_ruleAheadOf, Cond.code yX0_ruleAheadOf cX0_ruleAheadOf 2 (some (.object "JoinBench$Rule")), Cond.fieldLink RX0 19 "JoinBench$Chain" "rules" "[LJoinBench$Rule;", Cond.methodLink RX4 149 yX3_sharedLetters, Cond.instanceMethod yX3_sharedLetters, Cond.selects RX3 yX3_sharedLetters yX3_sharedLetters, Cond.initialized RX3, Cond.code yX3_sharedLetters cX3_sharedLetters 6 (some .int), Cond.fieldLink RX3 112 "JoinBench$Form" "letters" "[B", Cond.fieldLink RX3 16 "JoinBench$Lattice" "size" "I", Cond.methodLink RX3 53 Lib.Math.min.name, Cond.static Lib.Math.min.name, Cond.initialized "java/lang/Math", Cond.code Lib.Math.min.name Lib.Math.min.code 2 (some .int)]
def wsX4_offerPlainSteps_r3 : List Cond := [Cond.fieldLink RX3 20 "JoinBench$Lattice" "line" "[B", Cond.methodLink RX4 92 yX4_offer, Cond.instanceMethod yX4_offer, Cond.selects RX4 yX4_offer yX4_offer, Cond.initialized RX4, Cond.code yX4_offer cX4_offer 7 none, Cond.constant RX4 200 (1048576), Cond.fieldLink RX4 39 "JoinBench$Parter" "keyCount" "I", Cond.fieldLink RX4 35 "JoinBench$Parter" "keys" "[I", Cond.methodLink RX4 164 yX3_canMeetPlain, Cond.instanceMethod yX3_canMeetPlain, Cond.selects RX3 yX3_canMeetPlain yX3_canMeetPlain, Cond.code yX3_canMeetPlain cX3_canMeetPlain 3 (some .boolean), Cond.fieldLink RX3 119 "JoinBench$Form" "ends" "I", Cond.fieldLink RX3 157 "JoinBench$Form" "begins" "I", Cond.fieldLink RX3 42 "JoinBench$Lattice" "inForce" "I", Cond.fieldLink RX3 45 "JoinBench$Lattice" "barred" "[Z", Cond.fieldLink RX3 137 "JoinBench$Form" "kind" "I"]
def wsX4_offerPlainSteps : List Cond := .code yX4_offerPlainSteps cX4_offerPlainSteps 8 none :: ((wsX4_offerPlainSteps_r1 ++ (wsX4_offerPlainSteps_r2 ++ wsX4_offerPlainSteps_r3)) ++ wsX50 ++ wsX40 ++ wsX20 ++ wsX30 ++ wsX90 ++ wsX00 ++ wsX70)
def wsX4_offerStepsBehind_r1 : List Cond := [Cond.fieldLink RX4 42 "JoinBench$Parter" "tongue" "LJoinBench$Tongue;", Cond.fieldLink RX4 178 "JoinBench$Tongue" "rules" "[LJoinBench$Rule;", Cond.fieldLink RX4 118 "JoinBench$Path" "spent" "I", Cond.fieldLink RX4 153 "JoinBench$Form" "cost" "I", Cond.fieldLink RX4 190 "JoinBench$Rule" "cost" "I", Cond.fieldLink RX4 85 "JoinBench$Tongue" "formCount" "I", Cond.fieldLink RX4 51 "JoinBench$Parter" "lattice" "LJoinBench$Lattice;", Cond.fieldLink RX4 160 "JoinBench$Tongue" "forms" "[LJoinBench$Form;", Cond.fieldLink RX4 88 "JoinBench$Lattice" "cheapest" "[[I", Cond.fieldLink RX4 197 "JoinBench$Rule" "beginningSize" "I", Cond.fieldLink RX4 127 "JoinBench$Path" "rank" "I", Cond.methodLink RX4 193 yX3_canMeetBy, Cond.instanceMethod yX3_canMeetBy, Cond.selects RX3 yX3_canMeetBy yX3_canMeetBy, Cond.initialized RX3, Cond.code yX3_canMeetBy cX3_canMeetBy 4 (some .boolean), Cond.fieldLink RX3 119 "JoinBench$Form" "ends" "I", Cond.fieldLink RX3 157 "JoinBench$Form" "begins" "I", Cond.fieldLink RX3 42 "JoinBench$Lattice" "inForce" "I", Cond.fieldLink RX3 45 "JoinBench$Lattice" "barred" "[Z", Cond.fieldLink RX3 137 "JoinBench$Form" "kind" "I", Cond.static yX11_hasRule, Cond.initialized RX11, Cond.code yX11_hasRule cX11_hasRule 2 (some .boolean)]
def wsX4_offerStepsBehind_r2 : List Cond := [Cond.methodLink RX4 92 yX4_offer, Cond.instanceMethod yX4_offer, Cond.selects RX4 yX4_offer yX4_offer, Cond.initialized RX4, Cond.code yX4_offer cX4_offer 7 none, Cond.constant RX4 200 (1048576), Cond.fieldLink RX4 39 "JoinBench$Parter" "keyCount" "I", Cond.fieldLink RX4 35 "JoinBench$Parter" "keys" "[I"]
def wsX4_offerStepsBehind : List Cond := .code yX4_offerStepsBehind cX4_offerStepsBehind 9 none :: ((wsX4_offerStepsBehind_r1 ++ wsX4_offerStepsBehind_r2) ++ wsX40 ++ wsX90 ++ wsX50 ++ wsX20 ++ wsX70 ++ wsX30)
def wsX4_offerRuledSteps_r1 : List Cond := [Cond.fieldLink RX4 96 "JoinBench$Path" "chain" "LJoinBench$Chain;", Cond.fieldLink RX4 51 "JoinBench$Parter" "lattice" "LJoinBench$Lattice;", Cond.fieldLink RX4 121 "JoinBench$Path" "place" "I", Cond.fieldLink RX4 42 "JoinBench$Parter" "tongue" "LJoinBench$Tongue;", Cond.fieldLink RX4 168 "JoinBench$Tongue" "ruleCount" "I", Cond.fieldLink RX4 171 "JoinBench$Form" "ends" "I", Cond.fieldLink RX4 156 "JoinBench$Form" "letters" "[B", Cond.fieldLink RX4 178 "JoinBench$Tongue" "rules" "[LJoinBench$Rule;", Cond.methodLink RX4 141 yX0_last, Cond.instanceMethod yX0_last, Cond.selects RX0 yX0_last yX0_last, Cond.initialized RX0, Cond.code yX0_last cX0_last 1 (some (.object "JoinBench$Form")), Cond.fieldLink RX0 23 "JoinBench$Chain" "size" "I", Cond.methodLink RX0 27 yX0_formAt, Cond.instanceMethod yX0_formAt, Cond.selects RX0 yX0_formAt yX0_formAt, Cond.code yX0_formAt cX0_formAt 2 (some (.object "JoinBench$Form")), Cond.fieldLink RX0 11 "JoinBench$Chain" "forms" "[LJoinBench$Form;", Cond.methodLink RX4 145 yX0_lastCut, Cond.instanceMethod yX0_lastCut, Cond.selects RX0 yX0_lastCut yX0_lastCut, Cond.code yX0_lastCut cX0_lastCut 1 (some .int), Cond.methodLink RX0 31 yX0_cutAtBeginning]
def wsX4_offerRuledSteps_r2 : List Cond := [Cond.instanceMethod yX0_cutAtBeginning, Cond.selects RX0 yX0_cutAtBeginning yX0_cutAtBeginning, Cond.code yX0_cutAtBeginning cX0_cutAtBeginning 3 (some .int), Cond.fieldLink RX0 39 "JoinBench$Rule" "beginningSize" "I", Cond.methodLink RX0 35 yX0_ruleAheadOf, Cond.instanceMethod yX0_ruleAheadOf, Cond.selects RX0 yX0_ruleAheadOf yX0_ruleAheadOf, Cond.code yX0_ruleAheadOf cX0_ruleAheadOf 2 (some (.object "JoinBench$Rule")), Cond.fieldLink RX0 19 "JoinBench$Chain" "rules" "[LJoinBench$Rule;", Cond.methodLink RX4 149 yX3_sharedLetters, Cond.instanceMethod yX3_sharedLetters, Cond.selects RX3 yX3_sharedLetters yX3_sharedLetters, Cond.initialized RX3, Cond.code yX3_sharedLetters cX3_sharedLetters 6 (some .int), Cond.fieldLink RX3 112 "JoinBench$Form" "letters" "[B", Cond.fieldLink RX3 16 "JoinBench$Lattice" "size" "I", Cond.methodLink RX3 53 Lib.Math.min.name, Cond.static Lib.Math.min.name, Cond.initialized "java/lang/Math", Cond.code Lib.Math.min.name Lib.Math.min.code 2 (some .int), Cond.fieldLink RX3 20 "JoinBench$Lattice" "line" "[B", Cond.static yX11_hasRule, Cond.initialized RX11, Cond.code yX11_hasRule cX11_hasRule 2 (some .boolean)]
def wsX4_offerRuledSteps_r3 : List Cond := [Cond.methodLink RX4 182 yX3_placeBehind, Cond.instanceMethod yX3_placeBehind, Cond.selects RX3 yX3_placeBehind yX3_placeBehind, Cond.code yX3_placeBehind cX3_placeBehind 8 (some .int), Cond.fieldLink RX3 166 "JoinBench$Rule" "endSize" "I", Cond.fieldLink RX3 169 "JoinBench$Rule" "comesFrom" "I", Cond.fieldLink RX3 172 "JoinBench$Rule" "comesSize" "I", Cond.methodLink RX3 175 yX7_stands, Cond.instanceMethod yX7_stands, Cond.selects RX7 yX7_stands yX7_stands, Cond.initialized RX7, Cond.code yX7_stands cX7_stands 7 (some .boolean), Cond.fieldLink RX7 30 "JoinBench$Rule" "letters" "[B", Cond.methodLink RX4 186 yX4_offerStepsBehind, Cond.instanceMethod yX4_offerStepsBehind, Cond.selects RX4 yX4_offerStepsBehind yX4_offerStepsBehind, Cond.initialized RX4, Cond.code yX4_offerStepsBehind cX4_offerStepsBehind 9 none, Cond.fieldLink RX4 118 "JoinBench$Path" "spent" "I", Cond.fieldLink RX4 153 "JoinBench$Form" "cost" "I", Cond.fieldLink RX4 190 "JoinBench$Rule" "cost" "I", Cond.fieldLink RX4 85 "JoinBench$Tongue" "formCount" "I", Cond.fieldLink RX4 160 "JoinBench$Tongue" "forms" "[LJoinBench$Form;", Cond.fieldLink RX4 88 "JoinBench$Lattice" "cheapest" "[[I"]
def wsX4_offerRuledSteps_r4 : List Cond := [Cond.fieldLink RX4 197 "JoinBench$Rule" "beginningSize" "I", Cond.fieldLink RX4 127 "JoinBench$Path" "rank" "I", Cond.methodLink RX4 193 yX3_canMeetBy, Cond.instanceMethod yX3_canMeetBy, Cond.selects RX3 yX3_canMeetBy yX3_canMeetBy, Cond.code yX3_canMeetBy cX3_canMeetBy 4 (some .boolean), Cond.fieldLink RX3 119 "JoinBench$Form" "ends" "I", Cond.fieldLink RX3 157 "JoinBench$Form" "begins" "I", Cond.fieldLink RX3 42 "JoinBench$Lattice" "inForce" "I", Cond.fieldLink RX3 45 "JoinBench$Lattice" "barred" "[Z", Cond.fieldLink RX3 137 "JoinBench$Form" "kind" "I", Cond.methodLink RX4 92 yX4_offer, Cond.instanceMethod yX4_offer, Cond.selects RX4 yX4_offer yX4_offer, Cond.code yX4_offer cX4_offer 7 none, Cond.constant RX4 200 (1048576), Cond.fieldLink RX4 39 "JoinBench$Parter" "keyCount" "I", Cond.fieldLink RX4 35 "JoinBench$Parter" "keys" "[I"]
def wsX4_offerRuledSteps : List Cond := .code yX4_offerRuledSteps cX4_offerRuledSteps 7 none :: ((wsX4_offerRuledSteps_r1 ++ (wsX4_offerRuledSteps_r2 ++ (wsX4_offerRuledSteps_r3 ++ wsX4_offerRuledSteps_r4))) ++ wsX50 ++ wsX40 ++ wsX90 ++ wsX20 ++ wsX00 ++ wsX70 ++ wsX30)
def wsX4_pathOfRank : List Cond := .code yX4_pathOfRank cX4_pathOfRank 3 (some (.object "JoinBench$Path")) :: ([.fieldLink RX4 28 "JoinBench$Parter" "toldCount" "I", .fieldLink RX4 24 "JoinBench$Parter" "told" "[LJoinBench$Path;", .fieldLink RX4 127 "JoinBench$Path" "rank" "I"] ++ wsX40 ++ wsX50)
def wsX9_ruleAt : List Cond := .code yX9_ruleAt cX9_ruleAt 2 (some (.object "JoinBench$Rule")) :: ([.fieldLink RX9 27 "JoinBench$Tongue" "ruleCount" "I", .fieldLink RX9 19 "JoinBench$Tongue" "rules" "[LJoinBench$Rule;"] ++ wsX90)
def wsX4_grow_r1 : List Cond := [Cond.fieldLink RX4 96 "JoinBench$Path" "chain" "LJoinBench$Chain;", Cond.fieldLink RX4 42 "JoinBench$Parter" "tongue" "LJoinBench$Tongue;", Cond.fieldLink RX4 115 "JoinBench$Path" "cost" "I", Cond.fieldLink RX4 127 "JoinBench$Path" "rank" "I", Cond.fieldLink RX4 118 "JoinBench$Path" "spent" "I", Cond.fieldLink RX4 121 "JoinBench$Path" "place" "I", Cond.fieldLink RX4 82 "JoinBench$Path" "ended" "Z", Cond.fieldLink RX4 153 "JoinBench$Form" "cost" "I", Cond.fieldLink RX4 156 "JoinBench$Form" "letters" "[B", Cond.fieldLink RX4 190 "JoinBench$Rule" "cost" "I", Cond.fieldLink RX4 213 "JoinBench$Rule" "comesSize" "I", Cond.fieldLink RX4 216 "JoinBench$Rule" "endSize" "I", Cond.methodLink RX4 201 yX4_pathOfRank, Cond.instanceMethod yX4_pathOfRank, Cond.selects RX4 yX4_pathOfRank yX4_pathOfRank, Cond.initialized RX4, Cond.code yX4_pathOfRank cX4_pathOfRank 3 (some (.object "JoinBench$Path")), Cond.fieldLink RX4 28 "JoinBench$Parter" "toldCount" "I", Cond.fieldLink RX4 24 "JoinBench$Parter" "told" "[LJoinBench$Path;", Cond.methodLink RX4 141 yX0_last, Cond.instanceMethod yX0_last, Cond.selects RX0 yX0_last yX0_last, Cond.initialized RX0, Cond.code yX0_last cX0_last 1 (some (.object "JoinBench$Form"))]
def wsX4_grow_r2 : List Cond := [Cond.fieldLink RX0 23 "JoinBench$Chain" "size" "I", Cond.methodLink RX0 27 yX0_formAt, Cond.instanceMethod yX0_formAt, Cond.selects RX0 yX0_formAt yX0_formAt, Cond.code yX0_formAt cX0_formAt 2 (some (.object "JoinBench$Form")), Cond.fieldLink RX0 11 "JoinBench$Chain" "forms" "[LJoinBench$Form;", Cond.methodLink RX4 103 yX4_keyForm, Cond.static yX4_keyForm, Cond.code yX4_keyForm cX4_keyForm 1 (some .int), Cond.methodLink RX4 107 yX9_formAt, Cond.instanceMethod yX9_formAt, Cond.selects RX9 yX9_formAt yX9_formAt, Cond.initialized RX9, Cond.code yX9_formAt cX9_formAt 2 (some (.object "JoinBench$Form")), Cond.fieldLink RX9 23 "JoinBench$Tongue" "formCount" "I", Cond.fieldLink RX9 11 "JoinBench$Tongue" "forms" "[LJoinBench$Form;", Cond.methodLink RX4 205 yX0_copyFrom, Cond.instanceMethod yX0_copyFrom, Cond.selects RX0 yX0_copyFrom yX0_copyFrom, Cond.code yX0_copyFrom cX0_copyFrom 3 none, Cond.fieldLink RX0 19 "JoinBench$Chain" "rules" "[LJoinBench$Rule;", Cond.methodLink RX4 124 yX4_rankOf, Cond.instanceMethod yX4_rankOf, Cond.selects RX4 yX4_rankOf yX4_rankOf]
def wsX4_grow_r3 : List Cond := [Cond.code yX4_rankOf cX4_rankOf 5 (some .int), Cond.fieldLink RX4 39 "JoinBench$Parter" "keyCount" "I", Cond.fieldLink RX4 35 "JoinBench$Parter" "keys" "[I", Cond.methodLink RX4 209 yX9_ruleAt, Cond.instanceMethod yX9_ruleAt, Cond.selects RX9 yX9_ruleAt yX9_ruleAt, Cond.code yX9_ruleAt cX9_ruleAt 2 (some (.object "JoinBench$Rule")), Cond.fieldLink RX9 27 "JoinBench$Tongue" "ruleCount" "I", Cond.fieldLink RX9 19 "JoinBench$Tongue" "rules" "[LJoinBench$Rule;", Cond.methodLink RX4 145 yX0_lastCut, Cond.instanceMethod yX0_lastCut, Cond.selects RX0 yX0_lastCut yX0_lastCut, Cond.code yX0_lastCut cX0_lastCut 1 (some .int), Cond.methodLink RX0 31 yX0_cutAtBeginning, Cond.instanceMethod yX0_cutAtBeginning, Cond.selects RX0 yX0_cutAtBeginning yX0_cutAtBeginning, Cond.code yX0_cutAtBeginning cX0_cutAtBeginning 3 (some .int), Cond.fieldLink RX0 39 "JoinBench$Rule" "beginningSize" "I", Cond.methodLink RX0 35 yX0_ruleAheadOf, Cond.instanceMethod yX0_ruleAheadOf, Cond.selects RX0 yX0_ruleAheadOf yX0_ruleAheadOf, Cond.code yX0_ruleAheadOf cX0_ruleAheadOf 2 (some (.object "JoinBench$Rule")), Cond.methodLink RX4 111 yX0_append, Cond.instanceMethod yX0_append]
def wsX4_grow_r4 : List Cond := [Cond.selects RX0 yX0_append yX0_append, Cond.code yX0_append cX0_append 3 none]
def wsX4_grow : List Cond := .code yX4_grow cX4_grow 8 none :: ((wsX4_grow_r1 ++ (wsX4_grow_r2 ++ (wsX4_grow_r3 ++ wsX4_grow_r4))) ++ wsX50 ++ wsX40 ++ wsX20 ++ wsX70 ++ wsX00 ++ wsX90)
def wsX4_growPaths_r1 : List Cond := [Cond.fieldLink RX4 39 "JoinBench$Parter" "keyCount" "I", Cond.fieldLink RX4 28 "JoinBench$Parter" "toldCount" "I", Cond.fieldLink RX4 24 "JoinBench$Parter" "told" "[LJoinBench$Path;", Cond.fieldLink RX4 82 "JoinBench$Path" "ended" "Z", Cond.fieldLink RX4 115 "JoinBench$Path" "cost" "I", Cond.fieldLink RX4 127 "JoinBench$Path" "rank" "I", Cond.fieldLink RX4 32 "JoinBench$Parter" "grown" "[LJoinBench$Path;", Cond.fieldLink RX4 35 "JoinBench$Parter" "keys" "[I", Cond.methodLink RX4 92 yX4_offer, Cond.instanceMethod yX4_offer, Cond.selects RX4 yX4_offer yX4_offer, Cond.initialized RX4, Cond.code yX4_offer cX4_offer 7 none, Cond.constant RX4 200 (1048576), Cond.methodLink RX4 130 yX4_offerPlainSteps, Cond.instanceMethod yX4_offerPlainSteps, Cond.selects RX4 yX4_offerPlainSteps yX4_offerPlainSteps, Cond.code yX4_offerPlainSteps cX4_offerPlainSteps 8 none, Cond.fieldLink RX4 96 "JoinBench$Path" "chain" "LJoinBench$Chain;", Cond.fieldLink RX4 51 "JoinBench$Parter" "lattice" "LJoinBench$Lattice;", Cond.fieldLink RX4 121 "JoinBench$Path" "place" "I", Cond.fieldLink RX4 118 "JoinBench$Path" "spent" "I", Cond.fieldLink RX4 153 "JoinBench$Form" "cost" "I", Cond.fieldLink RX4 156 "JoinBench$Form" "letters" "[B"]
def wsX4_growPaths_r2 : List Cond := [Cond.fieldLink RX4 73 "JoinBench$Lattice" "size" "I", Cond.fieldLink RX4 42 "JoinBench$Parter" "tongue" "LJoinBench$Tongue;", Cond.fieldLink RX4 85 "JoinBench$Tongue" "formCount" "I", Cond.fieldLink RX4 160 "JoinBench$Tongue" "forms" "[LJoinBench$Form;", Cond.fieldLink RX4 88 "JoinBench$Lattice" "cheapest" "[[I", Cond.methodLink RX4 141 yX0_last, Cond.instanceMethod yX0_last, Cond.selects RX0 yX0_last yX0_last, Cond.initialized RX0, Cond.code yX0_last cX0_last 1 (some (.object "JoinBench$Form")), Cond.fieldLink RX0 23 "JoinBench$Chain" "size" "I", Cond.methodLink RX0 27 yX0_formAt, Cond.instanceMethod yX0_formAt, Cond.selects RX0 yX0_formAt yX0_formAt, Cond.code yX0_formAt cX0_formAt 2 (some (.object "JoinBench$Form")), Cond.fieldLink RX0 11 "JoinBench$Chain" "forms" "[LJoinBench$Form;", Cond.methodLink RX4 145 yX0_lastCut, Cond.instanceMethod yX0_lastCut, Cond.selects RX0 yX0_lastCut yX0_lastCut, Cond.code yX0_lastCut cX0_lastCut 1 (some .int), Cond.methodLink RX0 31 yX0_cutAtBeginning, Cond.instanceMethod yX0_cutAtBeginning, Cond.selects RX0 yX0_cutAtBeginning yX0_cutAtBeginning, Cond.code yX0_cutAtBeginning cX0_cutAtBeginning 3 (some .int)]
def wsX4_growPaths_r3 : List Cond := [Cond.fieldLink RX0 39 "JoinBench$Rule" "beginningSize" "I", Cond.methodLink RX0 35 yX0_ruleAheadOf, Cond.instanceMethod yX0_ruleAheadOf, Cond.selects RX0 yX0_ruleAheadOf yX0_ruleAheadOf, Cond.code yX0_ruleAheadOf cX0_ruleAheadOf 2 (some (.object "JoinBench$Rule")), Cond.fieldLink RX0 19 "JoinBench$Chain" "rules" "[LJoinBench$Rule;", Cond.methodLink RX4 149 yX3_sharedLetters, Cond.instanceMethod yX3_sharedLetters, Cond.selects RX3 yX3_sharedLetters yX3_sharedLetters, Cond.initialized RX3, Cond.code yX3_sharedLetters cX3_sharedLetters 6 (some .int), Cond.fieldLink RX3 112 "JoinBench$Form" "letters" "[B", Cond.fieldLink RX3 16 "JoinBench$Lattice" "size" "I", Cond.methodLink RX3 53 Lib.Math.min.name, Cond.static Lib.Math.min.name, Cond.initialized "java/lang/Math", Cond.code Lib.Math.min.name Lib.Math.min.code 2 (some .int), Cond.fieldLink RX3 20 "JoinBench$Lattice" "line" "[B", Cond.methodLink RX4 164 yX3_canMeetPlain, Cond.instanceMethod yX3_canMeetPlain, Cond.selects RX3 yX3_canMeetPlain yX3_canMeetPlain, Cond.code yX3_canMeetPlain cX3_canMeetPlain 3 (some .boolean), Cond.fieldLink RX3 119 "JoinBench$Form" "ends" "I", Cond.fieldLink RX3 157 "JoinBench$Form" "begins" "I"]
def wsX4_growPaths_r4 : List Cond := [Cond.fieldLink RX3 42 "JoinBench$Lattice" "inForce" "I", Cond.fieldLink RX3 45 "JoinBench$Lattice" "barred" "[Z", Cond.fieldLink RX3 137 "JoinBench$Form" "kind" "I", Cond.methodLink RX4 134 yX4_offerRuledSteps, Cond.instanceMethod yX4_offerRuledSteps, Cond.selects RX4 yX4_offerRuledSteps yX4_offerRuledSteps, Cond.code yX4_offerRuledSteps cX4_offerRuledSteps 7 none, Cond.fieldLink RX4 168 "JoinBench$Tongue" "ruleCount" "I", Cond.fieldLink RX4 171 "JoinBench$Form" "ends" "I", Cond.fieldLink RX4 178 "JoinBench$Tongue" "rules" "[LJoinBench$Rule;", Cond.static yX11_hasRule, Cond.initialized RX11, Cond.code yX11_hasRule cX11_hasRule 2 (some .boolean), Cond.methodLink RX4 182 yX3_placeBehind, Cond.instanceMethod yX3_placeBehind, Cond.selects RX3 yX3_placeBehind yX3_placeBehind, Cond.code yX3_placeBehind cX3_placeBehind 8 (some .int), Cond.fieldLink RX3 166 "JoinBench$Rule" "endSize" "I", Cond.fieldLink RX3 169 "JoinBench$Rule" "comesFrom" "I", Cond.fieldLink RX3 172 "JoinBench$Rule" "comesSize" "I", Cond.methodLink RX3 175 yX7_stands, Cond.instanceMethod yX7_stands, Cond.selects RX7 yX7_stands yX7_stands, Cond.initialized RX7]
def wsX4_growPaths_r5 : List Cond := [Cond.code yX7_stands cX7_stands 7 (some .boolean), Cond.fieldLink RX7 30 "JoinBench$Rule" "letters" "[B", Cond.methodLink RX4 186 yX4_offerStepsBehind, Cond.instanceMethod yX4_offerStepsBehind, Cond.selects RX4 yX4_offerStepsBehind yX4_offerStepsBehind, Cond.code yX4_offerStepsBehind cX4_offerStepsBehind 9 none, Cond.fieldLink RX4 190 "JoinBench$Rule" "cost" "I", Cond.fieldLink RX4 197 "JoinBench$Rule" "beginningSize" "I", Cond.methodLink RX4 193 yX3_canMeetBy, Cond.instanceMethod yX3_canMeetBy, Cond.selects RX3 yX3_canMeetBy yX3_canMeetBy, Cond.code yX3_canMeetBy cX3_canMeetBy 4 (some .boolean), Cond.methodLink RX4 137 yX4_grow, Cond.instanceMethod yX4_grow, Cond.selects RX4 yX4_grow yX4_grow, Cond.code yX4_grow cX4_grow 8 none, Cond.fieldLink RX4 213 "JoinBench$Rule" "comesSize" "I", Cond.fieldLink RX4 216 "JoinBench$Rule" "endSize" "I", Cond.methodLink RX4 201 yX4_pathOfRank, Cond.instanceMethod yX4_pathOfRank, Cond.selects RX4 yX4_pathOfRank yX4_pathOfRank, Cond.code yX4_pathOfRank cX4_pathOfRank 3 (some (.object "JoinBench$Path")), Cond.methodLink RX4 103 yX4_keyForm, Cond.static yX4_keyForm]
def wsX4_growPaths_r6 : List Cond := [Cond.code yX4_keyForm cX4_keyForm 1 (some .int), Cond.methodLink RX4 107 yX9_formAt, Cond.instanceMethod yX9_formAt, Cond.selects RX9 yX9_formAt yX9_formAt, Cond.initialized RX9, Cond.code yX9_formAt cX9_formAt 2 (some (.object "JoinBench$Form")), Cond.fieldLink RX9 23 "JoinBench$Tongue" "formCount" "I", Cond.fieldLink RX9 11 "JoinBench$Tongue" "forms" "[LJoinBench$Form;", Cond.methodLink RX4 205 yX0_copyFrom, Cond.instanceMethod yX0_copyFrom, Cond.selects RX0 yX0_copyFrom yX0_copyFrom, Cond.code yX0_copyFrom cX0_copyFrom 3 none, Cond.methodLink RX4 124 yX4_rankOf, Cond.instanceMethod yX4_rankOf, Cond.selects RX4 yX4_rankOf yX4_rankOf, Cond.code yX4_rankOf cX4_rankOf 5 (some .int), Cond.methodLink RX4 209 yX9_ruleAt, Cond.instanceMethod yX9_ruleAt, Cond.selects RX9 yX9_ruleAt yX9_ruleAt, Cond.code yX9_ruleAt cX9_ruleAt 2 (some (.object "JoinBench$Rule")), Cond.fieldLink RX9 27 "JoinBench$Tongue" "ruleCount" "I", Cond.fieldLink RX9 19 "JoinBench$Tongue" "rules" "[LJoinBench$Rule;", Cond.methodLink RX4 111 yX0_append, Cond.instanceMethod yX0_append]
def wsX4_growPaths_r7 : List Cond := [Cond.selects RX0 yX0_append yX0_append, Cond.code yX0_append cX0_append 3 none]
def wsX4_growPaths : List Cond := .code yX4_growPaths cX4_growPaths 2 none :: ((wsX4_growPaths_r1 ++ (wsX4_growPaths_r2 ++ (wsX4_growPaths_r3 ++ (wsX4_growPaths_r4 ++ (wsX4_growPaths_r5 ++ (wsX4_growPaths_r6 ++ wsX4_growPaths_r7)))))) ++ wsX40 ++ wsX50 ++ wsX20 ++ wsX30 ++ wsX90 ++ wsX00 ++ wsX70)
def wsX4_tell_r1 : List Cond := [Cond.fieldLink RX4 51 "JoinBench$Parter" "lattice" "LJoinBench$Lattice;", Cond.fieldLink RX4 73 "JoinBench$Lattice" "size" "I", Cond.methodLink RX4 70 yX4_startPaths, Cond.instanceMethod yX4_startPaths, Cond.selects RX4 yX4_startPaths yX4_startPaths, Cond.initialized RX4, Cond.code yX4_startPaths cX4_startPaths 3 none, Cond.fieldLink RX4 39 "JoinBench$Parter" "keyCount" "I", Cond.fieldLink RX4 42 "JoinBench$Parter" "tongue" "LJoinBench$Tongue;", Cond.fieldLink RX4 85 "JoinBench$Tongue" "formCount" "I", Cond.fieldLink RX4 88 "JoinBench$Lattice" "cheapest" "[[I", Cond.fieldLink RX4 28 "JoinBench$Parter" "toldCount" "I", Cond.fieldLink RX4 24 "JoinBench$Parter" "told" "[LJoinBench$Path;", Cond.fieldLink RX4 96 "JoinBench$Path" "chain" "LJoinBench$Chain;", Cond.fieldLink RX4 100 "JoinBench$Chain" "size" "I", Cond.fieldLink RX4 35 "JoinBench$Parter" "keys" "[I", Cond.fieldLink RX4 115 "JoinBench$Path" "cost" "I", Cond.fieldLink RX4 118 "JoinBench$Path" "spent" "I", Cond.fieldLink RX4 121 "JoinBench$Path" "place" "I", Cond.fieldLink RX4 82 "JoinBench$Path" "ended" "Z", Cond.fieldLink RX4 127 "JoinBench$Path" "rank" "I", Cond.methodLink RX4 92 yX4_offer, Cond.instanceMethod yX4_offer, Cond.selects RX4 yX4_offer yX4_offer]
def wsX4_tell_r2 : List Cond := [Cond.code yX4_offer cX4_offer 7 none, Cond.constant RX4 200 (1048576), Cond.methodLink RX4 103 yX4_keyForm, Cond.static yX4_keyForm, Cond.code yX4_keyForm cX4_keyForm 1 (some .int), Cond.methodLink RX4 107 yX9_formAt, Cond.instanceMethod yX9_formAt, Cond.selects RX9 yX9_formAt yX9_formAt, Cond.initialized RX9, Cond.code yX9_formAt cX9_formAt 2 (some (.object "JoinBench$Form")), Cond.fieldLink RX9 23 "JoinBench$Tongue" "formCount" "I", Cond.fieldLink RX9 11 "JoinBench$Tongue" "forms" "[LJoinBench$Form;", Cond.methodLink RX4 111 yX0_append, Cond.instanceMethod yX0_append, Cond.selects RX0 yX0_append yX0_append, Cond.initialized RX0, Cond.code yX0_append cX0_append 3 none, Cond.fieldLink RX0 23 "JoinBench$Chain" "size" "I", Cond.fieldLink RX0 11 "JoinBench$Chain" "forms" "[LJoinBench$Form;", Cond.fieldLink RX0 19 "JoinBench$Chain" "rules" "[LJoinBench$Rule;", Cond.methodLink RX4 124 yX4_rankOf, Cond.instanceMethod yX4_rankOf, Cond.selects RX4 yX4_rankOf yX4_rankOf, Cond.code yX4_rankOf cX4_rankOf 5 (some .int)]
def wsX4_tell_r3 : List Cond := [Cond.methodLink RX4 76 yX4_allEnded, Cond.instanceMethod yX4_allEnded, Cond.selects RX4 yX4_allEnded yX4_allEnded, Cond.code yX4_allEnded cX4_allEnded 2 (some .boolean), Cond.methodLink RX4 79 yX4_growPaths, Cond.instanceMethod yX4_growPaths, Cond.selects RX4 yX4_growPaths yX4_growPaths, Cond.code yX4_growPaths cX4_growPaths 2 none, Cond.fieldLink RX4 32 "JoinBench$Parter" "grown" "[LJoinBench$Path;", Cond.methodLink RX4 130 yX4_offerPlainSteps, Cond.instanceMethod yX4_offerPlainSteps, Cond.selects RX4 yX4_offerPlainSteps yX4_offerPlainSteps, Cond.code yX4_offerPlainSteps cX4_offerPlainSteps 8 none, Cond.fieldLink RX4 153 "JoinBench$Form" "cost" "I", Cond.fieldLink RX4 156 "JoinBench$Form" "letters" "[B", Cond.fieldLink RX4 160 "JoinBench$Tongue" "forms" "[LJoinBench$Form;", Cond.methodLink RX4 141 yX0_last, Cond.instanceMethod yX0_last, Cond.selects RX0 yX0_last yX0_last, Cond.code yX0_last cX0_last 1 (some (.object "JoinBench$Form")), Cond.methodLink RX0 27 yX0_formAt, Cond.instanceMethod yX0_formAt, Cond.selects RX0 yX0_formAt yX0_formAt, Cond.code yX0_formAt cX0_formAt 2 (some (.object "JoinBench$Form"))]
def wsX4_tell_r4 : List Cond := [Cond.methodLink RX4 145 yX0_lastCut, Cond.instanceMethod yX0_lastCut, Cond.selects RX0 yX0_lastCut yX0_lastCut, Cond.code yX0_lastCut cX0_lastCut 1 (some .int), Cond.methodLink RX0 31 yX0_cutAtBeginning, Cond.instanceMethod yX0_cutAtBeginning, Cond.selects RX0 yX0_cutAtBeginning yX0_cutAtBeginning, Cond.code yX0_cutAtBeginning cX0_cutAtBeginning 3 (some .int), Cond.fieldLink RX0 39 "JoinBench$Rule" "beginningSize" "I", Cond.methodLink RX0 35 yX0_ruleAheadOf, Cond.instanceMethod yX0_ruleAheadOf, Cond.selects RX0 yX0_ruleAheadOf yX0_ruleAheadOf, Cond.code yX0_ruleAheadOf cX0_ruleAheadOf 2 (some (.object "JoinBench$Rule")), Cond.methodLink RX4 149 yX3_sharedLetters, Cond.instanceMethod yX3_sharedLetters, Cond.selects RX3 yX3_sharedLetters yX3_sharedLetters, Cond.initialized RX3, Cond.code yX3_sharedLetters cX3_sharedLetters 6 (some .int), Cond.fieldLink RX3 112 "JoinBench$Form" "letters" "[B", Cond.fieldLink RX3 16 "JoinBench$Lattice" "size" "I", Cond.methodLink RX3 53 Lib.Math.min.name, Cond.static Lib.Math.min.name, Cond.initialized "java/lang/Math", Cond.code Lib.Math.min.name Lib.Math.min.code 2 (some .int)]
def wsX4_tell_r5 : List Cond := [Cond.fieldLink RX3 20 "JoinBench$Lattice" "line" "[B", Cond.methodLink RX4 164 yX3_canMeetPlain, Cond.instanceMethod yX3_canMeetPlain, Cond.selects RX3 yX3_canMeetPlain yX3_canMeetPlain, Cond.code yX3_canMeetPlain cX3_canMeetPlain 3 (some .boolean), Cond.fieldLink RX3 119 "JoinBench$Form" "ends" "I", Cond.fieldLink RX3 157 "JoinBench$Form" "begins" "I", Cond.fieldLink RX3 42 "JoinBench$Lattice" "inForce" "I", Cond.fieldLink RX3 45 "JoinBench$Lattice" "barred" "[Z", Cond.fieldLink RX3 137 "JoinBench$Form" "kind" "I", Cond.methodLink RX4 134 yX4_offerRuledSteps, Cond.instanceMethod yX4_offerRuledSteps, Cond.selects RX4 yX4_offerRuledSteps yX4_offerRuledSteps, Cond.code yX4_offerRuledSteps cX4_offerRuledSteps 7 none, Cond.fieldLink RX4 168 "JoinBench$Tongue" "ruleCount" "I", Cond.fieldLink RX4 171 "JoinBench$Form" "ends" "I", Cond.fieldLink RX4 178 "JoinBench$Tongue" "rules" "[LJoinBench$Rule;", Cond.static yX11_hasRule, Cond.initialized RX11, Cond.code yX11_hasRule cX11_hasRule 2 (some .boolean), Cond.methodLink RX4 182 yX3_placeBehind, Cond.instanceMethod yX3_placeBehind, Cond.selects RX3 yX3_placeBehind yX3_placeBehind, Cond.code yX3_placeBehind cX3_placeBehind 8 (some .int)]
def wsX4_tell_r6 : List Cond := [Cond.fieldLink RX3 166 "JoinBench$Rule" "endSize" "I", Cond.fieldLink RX3 169 "JoinBench$Rule" "comesFrom" "I", Cond.fieldLink RX3 172 "JoinBench$Rule" "comesSize" "I", Cond.methodLink RX3 175 yX7_stands, Cond.instanceMethod yX7_stands, Cond.selects RX7 yX7_stands yX7_stands, Cond.initialized RX7, Cond.code yX7_stands cX7_stands 7 (some .boolean), Cond.fieldLink RX7 30 "JoinBench$Rule" "letters" "[B", Cond.methodLink RX4 186 yX4_offerStepsBehind, Cond.instanceMethod yX4_offerStepsBehind, Cond.selects RX4 yX4_offerStepsBehind yX4_offerStepsBehind, Cond.code yX4_offerStepsBehind cX4_offerStepsBehind 9 none, Cond.fieldLink RX4 190 "JoinBench$Rule" "cost" "I", Cond.fieldLink RX4 197 "JoinBench$Rule" "beginningSize" "I", Cond.methodLink RX4 193 yX3_canMeetBy, Cond.instanceMethod yX3_canMeetBy, Cond.selects RX3 yX3_canMeetBy yX3_canMeetBy, Cond.code yX3_canMeetBy cX3_canMeetBy 4 (some .boolean), Cond.methodLink RX4 137 yX4_grow, Cond.instanceMethod yX4_grow, Cond.selects RX4 yX4_grow yX4_grow, Cond.code yX4_grow cX4_grow 8 none, Cond.fieldLink RX4 213 "JoinBench$Rule" "comesSize" "I"]
def wsX4_tell_r7 : List Cond := [Cond.fieldLink RX4 216 "JoinBench$Rule" "endSize" "I", Cond.methodLink RX4 201 yX4_pathOfRank, Cond.instanceMethod yX4_pathOfRank, Cond.selects RX4 yX4_pathOfRank yX4_pathOfRank, Cond.code yX4_pathOfRank cX4_pathOfRank 3 (some (.object "JoinBench$Path")), Cond.methodLink RX4 205 yX0_copyFrom, Cond.instanceMethod yX0_copyFrom, Cond.selects RX0 yX0_copyFrom yX0_copyFrom, Cond.code yX0_copyFrom cX0_copyFrom 3 none, Cond.methodLink RX4 209 yX9_ruleAt, Cond.instanceMethod yX9_ruleAt, Cond.selects RX9 yX9_ruleAt yX9_ruleAt, Cond.code yX9_ruleAt cX9_ruleAt 2 (some (.object "JoinBench$Rule")), Cond.fieldLink RX9 27 "JoinBench$Tongue" "ruleCount" "I", Cond.fieldLink RX9 19 "JoinBench$Tongue" "rules" "[LJoinBench$Rule;"]
def wsX4_tell : List Cond := .code yX4_tell cX4_tell 2 none :: ((wsX4_tell_r1 ++ (wsX4_tell_r2 ++ (wsX4_tell_r3 ++ (wsX4_tell_r4 ++ (wsX4_tell_r5 ++ (wsX4_tell_r6 ++ wsX4_tell_r7)))))) ++ wsX40 ++ wsX30 ++ wsX90 ++ wsX50 ++ wsX00 ++ wsX20 ++ wsX70)
def wsX6_init : List Cond := .code yX6_init cX6_init 1 none :: ([.methodLink RX6 3 objectInit, .instanceMethod objectInit, .code objectInit ⟨#[0xb1]⟩ 1 none, .classLink RX6 9 RX0, .instantiable RX0 3, .initialized RX0, .fieldLink RX6 12 "JoinBench$Row" "chain" "LJoinBench$Chain;", .arrayClass .byte, .fieldLink RX6 18 "JoinBench$Row" "out" "[B", .fieldLink RX6 22 "JoinBench$Row" "day" "I", .fieldLink RX6 26 "JoinBench$Row" "outSize" "I", .instanceMethod yX0_init, .code yX0_init cX0_init 1 none, .methodLink RX0 3 objectInit, .classLink RX0 9 RX2, .fieldLink RX0 11 "JoinBench$Chain" "forms" "[LJoinBench$Form;", .classLink RX0 17 RX7, .fieldLink RX0 19 "JoinBench$Chain" "rules" "[LJoinBench$Rule;", .fieldLink RX0 23 "JoinBench$Chain" "size" "I"] ++ wsX00 ++ wsX60)
def wsX6_write : List Cond := .code yX6_write cX6_write 5 none :: ([.fieldLink RX6 26 "JoinBench$Row" "outSize" "I", .fieldLink RX6 18 "JoinBench$Row" "out" "[B"] ++ wsX60)
def wsX6_join_r1 : List Cond := [Cond.fieldLink RX6 26 "JoinBench$Row" "outSize" "I", Cond.fieldLink RX6 12 "JoinBench$Row" "chain" "LJoinBench$Chain;", Cond.fieldLink RX6 29 "JoinBench$Chain" "size" "I", Cond.fieldLink RX6 32 "JoinBench$Chain" "rules" "[LJoinBench$Rule;", Cond.fieldLink RX6 36 "JoinBench$Rule" "letters" "[B", Cond.fieldLink RX6 41 "JoinBench$Rule" "comesFrom" "I", Cond.fieldLink RX6 48 "JoinBench$Chain" "forms" "[LJoinBench$Form;", Cond.fieldLink RX6 52 "JoinBench$Form" "letters" "[B", Cond.methodLink RX6 44 yX6_write, Cond.instanceMethod yX6_write, Cond.selects RX6 yX6_write yX6_write, Cond.initialized RX6, Cond.code yX6_write cX6_write 5 none, Cond.fieldLink RX6 18 "JoinBench$Row" "out" "[B", Cond.methodLink RX6 55 yX0_cutAtBeginning, Cond.instanceMethod yX0_cutAtBeginning, Cond.selects RX0 yX0_cutAtBeginning yX0_cutAtBeginning, Cond.initialized RX0, Cond.code yX0_cutAtBeginning cX0_cutAtBeginning 3 (some .int), Cond.fieldLink RX0 39 "JoinBench$Rule" "beginningSize" "I", Cond.methodLink RX0 35 yX0_ruleAheadOf, Cond.instanceMethod yX0_ruleAheadOf, Cond.selects RX0 yX0_ruleAheadOf yX0_ruleAheadOf, Cond.code yX0_ruleAheadOf cX0_ruleAheadOf 2 (some (.object "JoinBench$Rule"))]
def wsX6_join_r2 : List Cond := [Cond.fieldLink RX0 23 "JoinBench$Chain" "size" "I", Cond.fieldLink RX0 19 "JoinBench$Chain" "rules" "[LJoinBench$Rule;", Cond.methodLink RX6 59 yX0_cutAtEnd, Cond.instanceMethod yX0_cutAtEnd, Cond.selects RX0 yX0_cutAtEnd yX0_cutAtEnd, Cond.code yX0_cutAtEnd cX0_cutAtEnd 3 (some .int), Cond.fieldLink RX0 42 "JoinBench$Rule" "endSize" "I"]
def wsX6_join : List Cond := .code yX6_join cX6_join 4 none :: ((wsX6_join_r1 ++ wsX6_join_r2) ++ wsX60 ++ wsX00 ++ wsX70 ++ wsX20)
def wsX7_init_r1 : List Cond := [Cond.methodLink RX7 3 objectInit, Cond.instanceMethod objectInit, Cond.code objectInit ⟨#[0xb1]⟩ 1 none, Cond.fieldLink RX7 9 "JoinBench$Rule" "number" "I", Cond.fieldLink RX7 15 "JoinBench$Tape" "bytes" "[B", Cond.fieldLink RX7 21 "JoinBench$Tape" "size" "I", Cond.fieldLink RX7 30 "JoinBench$Rule" "letters" "[B", Cond.fieldLink RX7 33 "JoinBench$Rule" "endSize" "I", Cond.fieldLink RX7 36 "JoinBench$Rule" "beginningSize" "I", Cond.fieldLink RX7 39 "JoinBench$Rule" "comesFrom" "I", Cond.fieldLink RX7 42 "JoinBench$Rule" "comesSize" "I", Cond.fieldLink RX7 45 "JoinBench$Rule" "cost" "I", Cond.fieldLink RX7 48 "JoinBench$Rule" "firstDay" "I", Cond.fieldLink RX7 51 "JoinBench$Rule" "lastDay" "I", Cond.methodLink RX7 24 yJ7_copyOf_9075b, Cond.static yJ7_copyOf_9075b, Cond.initialized RJ7, Cond.code yJ7_copyOf_9075b cJ7_copyOf_9075b 3 (some (.array .byte)), Cond.methodLink RJ7 310 ⟨"[B", "clone", "()Ljava/lang/Object;"⟩, Cond.sameMethod "[B" "java/lang/Object" "clone" "()Ljava/lang/Object;", Cond.native ⟨"java/lang/Object", "clone", "()Ljava/lang/Object;"⟩, Cond.instanceMethod ⟨"java/lang/Object", "clone", "()Ljava/lang/Object;"⟩, Cond.selects "[B" ⟨"[B", "clone", "()Ljava/lang/Object;"⟩ ⟨"java/lang/Object", "clone", "()Ljava/lang/Object;"⟩, Cond.classLink RJ7 311 "[B"]
def wsX7_init_r2 : List Cond := [Cond.arrayClass .byte, Cond.methodLink RJ7 304 Lib.Math.min.name, Cond.static Lib.Math.min.name, Cond.initialized "java/lang/Math", Cond.code Lib.Math.min.name Lib.Math.min.code 2 (some .int), Cond.methodLink RJ7 150 arraycopyName, Cond.native arraycopyName, Cond.static arraycopyName, Cond.initialized "java/lang/System"]
def wsX7_init : List Cond := .code yX7_init cX7_init 7 none :: ((wsX7_init_r1 ++ wsX7_init_r2) ++ wsX70 ++ wsX80)
def wsX7_isEndOf : List Cond := .code yX7_isEndOf cX7_isEndOf 3 (some .boolean) :: ([.fieldLink RX7 54 "JoinBench$Form" "letters" "[B", .fieldLink RX7 33 "JoinBench$Rule" "endSize" "I", .methodLink RX7 57 yX7_stands, .instanceMethod yX7_stands, .selects RX7 yX7_stands yX7_stands, .initialized RX7, .code yX7_stands cX7_stands 7 (some .boolean), .fieldLink RX7 30 "JoinBench$Rule" "letters" "[B"] ++ wsX20 ++ wsX70)
def wsX7_isBeginningOf : List Cond := .code yX7_isBeginningOf cX7_isBeginningOf 2 (some .boolean) :: ([.fieldLink RX7 33 "JoinBench$Rule" "endSize" "I", .fieldLink RX7 36 "JoinBench$Rule" "beginningSize" "I", .fieldLink RX7 54 "JoinBench$Form" "letters" "[B", .methodLink RX7 57 yX7_stands, .instanceMethod yX7_stands, .selects RX7 yX7_stands yX7_stands, .initialized RX7, .code yX7_stands cX7_stands 7 (some .boolean), .fieldLink RX7 30 "JoinBench$Rule" "letters" "[B"] ++ wsX70 ++ wsX20)
def wsX8_init : List Cond := .code yX8_init cX8_init 1 none :: ([.methodLink RX8 3 objectInit, .instanceMethod objectInit, .code objectInit ⟨#[0xb1]⟩ 1 none, .arrayClass .byte, .fieldLink RX8 9 "JoinBench$Tape" "bytes" "[B", .fieldLink RX8 15 "JoinBench$Tape" "size" "I"] ++ wsX80)
def wsX8_hasRoomFor : List Cond := .code yX8_hasRoomFor cX8_hasRoomFor 2 (some .boolean) :: ([.fieldLink RX8 15 "JoinBench$Tape" "size" "I"] ++ wsX80)
def wsX8_addByte : List Cond := .code yX8_addByte cX8_addByte 2 none :: ([.fieldLink RX8 15 "JoinBench$Tape" "size" "I", .fieldLink RX8 9 "JoinBench$Tape" "bytes" "[B"] ++ wsX80)
def wsX8_addNumber : List Cond := .code yX8_addNumber cX8_addNumber 3 none :: ([.methodLink RX8 19 yX8_addByte, .instanceMethod yX8_addByte, .selects RX8 yX8_addByte yX8_addByte, .initialized RX8, .code yX8_addByte cX8_addByte 2 none, .fieldLink RX8 15 "JoinBench$Tape" "size" "I", .fieldLink RX8 9 "JoinBench$Tape" "bytes" "[B"] ++ wsX80)
def wsX8_hasOnlyLetters : List Cond := .code yX8_hasOnlyLetters cX8_hasOnlyLetters 2 (some .boolean) :: ([.fieldLink RX8 15 "JoinBench$Tape" "size" "I", .fieldLink RX8 9 "JoinBench$Tape" "bytes" "[B"] ++ wsX80)
def wsX9_init : List Cond := .code yX9_init cX9_init 1 none :: ([.methodLink RX9 3 objectInit, .instanceMethod objectInit, .code objectInit ⟨#[0xb1]⟩ 1 none, .classLink RX9 9 RX2, .fieldLink RX9 11 "JoinBench$Tongue" "forms" "[LJoinBench$Form;", .classLink RX9 17 RX7, .fieldLink RX9 19 "JoinBench$Tongue" "rules" "[LJoinBench$Rule;", .fieldLink RX9 23 "JoinBench$Tongue" "formCount" "I", .fieldLink RX9 27 "JoinBench$Tongue" "ruleCount" "I", .arrayClass .boolean, .fieldLink RX9 30 "JoinBench$Tongue" "forbidden" "[Z"] ++ wsX90)
def wsX9_markFit : List Cond := .code yX9_markFit cX9_markFit 3 none :: ([.fieldLink RX9 42 "JoinBench$Form" "kept" "Z", .fieldLink RX9 50 "JoinBench$Form" "ends" "I", .fieldLink RX9 41 "JoinBench$Rule" "number" "I", .fieldLink RX9 56 "JoinBench$Form" "begins" "I", .methodLink RX9 46 yX7_isEndOf, .instanceMethod yX7_isEndOf, .selects RX7 yX7_isEndOf yX7_isEndOf, .initialized RX7, .code yX7_isEndOf cX7_isEndOf 3 (some .boolean), .fieldLink RX7 54 "JoinBench$Form" "letters" "[B", .fieldLink RX7 33 "JoinBench$Rule" "endSize" "I", .methodLink RX7 57 yX7_stands, .instanceMethod yX7_stands, .selects RX7 yX7_stands yX7_stands, .code yX7_stands cX7_stands 7 (some .boolean), .fieldLink RX7 30 "JoinBench$Rule" "letters" "[B", .methodLink RX9 53 yX7_isBeginningOf, .instanceMethod yX7_isBeginningOf, .selects RX7 yX7_isBeginningOf yX7_isBeginningOf, .code yX7_isBeginningOf cX7_isBeginningOf 2 (some .boolean), .fieldLink RX7 36 "JoinBench$Rule" "beginningSize" "I"] ++ wsX20 ++ wsX70)
def wsX9_addForm_r1 : List Cond := [Cond.fieldLink RX9 23 "JoinBench$Tongue" "formCount" "I", Cond.fieldLink RX9 34 "JoinBench$Form" "number" "I", Cond.fieldLink RX9 11 "JoinBench$Tongue" "forms" "[LJoinBench$Form;", Cond.fieldLink RX9 27 "JoinBench$Tongue" "ruleCount" "I", Cond.fieldLink RX9 19 "JoinBench$Tongue" "rules" "[LJoinBench$Rule;", Cond.methodLink RX9 37 yX9_markFit, Cond.instanceMethod yX9_markFit, Cond.selects RX9 yX9_markFit yX9_markFit, Cond.initialized RX9, Cond.code yX9_markFit cX9_markFit 3 none, Cond.fieldLink RX9 42 "JoinBench$Form" "kept" "Z", Cond.fieldLink RX9 50 "JoinBench$Form" "ends" "I", Cond.fieldLink RX9 41 "JoinBench$Rule" "number" "I", Cond.fieldLink RX9 56 "JoinBench$Form" "begins" "I", Cond.methodLink RX9 46 yX7_isEndOf, Cond.instanceMethod yX7_isEndOf, Cond.selects RX7 yX7_isEndOf yX7_isEndOf, Cond.initialized RX7, Cond.code yX7_isEndOf cX7_isEndOf 3 (some .boolean), Cond.fieldLink RX7 54 "JoinBench$Form" "letters" "[B", Cond.fieldLink RX7 33 "JoinBench$Rule" "endSize" "I", Cond.methodLink RX7 57 yX7_stands, Cond.instanceMethod yX7_stands, Cond.selects RX7 yX7_stands yX7_stands]
def wsX9_addForm_r2 : List Cond := [Cond.code yX7_stands cX7_stands 7 (some .boolean), Cond.fieldLink RX7 30 "JoinBench$Rule" "letters" "[B", Cond.methodLink RX9 53 yX7_isBeginningOf, Cond.instanceMethod yX7_isBeginningOf, Cond.selects RX7 yX7_isBeginningOf yX7_isBeginningOf, Cond.code yX7_isBeginningOf cX7_isBeginningOf 2 (some .boolean), Cond.fieldLink RX7 36 "JoinBench$Rule" "beginningSize" "I"]
def wsX9_addForm : List Cond := .code yX9_addForm cX9_addForm 3 (some .int) :: ((wsX9_addForm_r1 ++ wsX9_addForm_r2) ++ wsX90 ++ wsX20 ++ wsX70)
def wsX9_addRule_r1 : List Cond := [Cond.fieldLink RX9 27 "JoinBench$Tongue" "ruleCount" "I", Cond.fieldLink RX9 41 "JoinBench$Rule" "number" "I", Cond.fieldLink RX9 19 "JoinBench$Tongue" "rules" "[LJoinBench$Rule;", Cond.fieldLink RX9 23 "JoinBench$Tongue" "formCount" "I", Cond.fieldLink RX9 11 "JoinBench$Tongue" "forms" "[LJoinBench$Form;", Cond.methodLink RX9 37 yX9_markFit, Cond.instanceMethod yX9_markFit, Cond.selects RX9 yX9_markFit yX9_markFit, Cond.initialized RX9, Cond.code yX9_markFit cX9_markFit 3 none, Cond.fieldLink RX9 42 "JoinBench$Form" "kept" "Z", Cond.fieldLink RX9 50 "JoinBench$Form" "ends" "I", Cond.fieldLink RX9 56 "JoinBench$Form" "begins" "I", Cond.methodLink RX9 46 yX7_isEndOf, Cond.instanceMethod yX7_isEndOf, Cond.selects RX7 yX7_isEndOf yX7_isEndOf, Cond.initialized RX7, Cond.code yX7_isEndOf cX7_isEndOf 3 (some .boolean), Cond.fieldLink RX7 54 "JoinBench$Form" "letters" "[B", Cond.fieldLink RX7 33 "JoinBench$Rule" "endSize" "I", Cond.methodLink RX7 57 yX7_stands, Cond.instanceMethod yX7_stands, Cond.selects RX7 yX7_stands yX7_stands, Cond.code yX7_stands cX7_stands 7 (some .boolean)]
def wsX9_addRule_r2 : List Cond := [Cond.fieldLink RX7 30 "JoinBench$Rule" "letters" "[B", Cond.methodLink RX9 53 yX7_isBeginningOf, Cond.instanceMethod yX7_isBeginningOf, Cond.selects RX7 yX7_isBeginningOf yX7_isBeginningOf, Cond.code yX7_isBeginningOf cX7_isBeginningOf 2 (some .boolean), Cond.fieldLink RX7 36 "JoinBench$Rule" "beginningSize" "I"]
def wsX9_addRule : List Cond := .code yX9_addRule cX9_addRule 3 (some .int) :: ((wsX9_addRule_r1 ++ wsX9_addRule_r2) ++ wsX90 ++ wsX70 ++ wsX20)
def wsX9_setMeeting : List Cond := .code yX9_setMeeting cX9_setMeeting 5 (some .boolean) :: ([.fieldLink RX9 30 "JoinBench$Tongue" "forbidden" "[Z"] ++ wsX90)
def wsX10_init : List Cond := .code yX10_init cX10_init 1 none :: ([.methodLink RX10 3 objectInit, .instanceMethod objectInit, .code objectInit ⟨#[0xb1]⟩ 1 none, .arrayClass .int, .fieldLink RX10 9 "JoinBench$Trees" "kinds" "[I", .fieldLink RX10 15 "JoinBench$Trees" "ways" "[[J", .methodLink RX10 19 yJ7_fill_53178, .static yJ7_fill_53178, .initialized RJ7, .code yJ7_fill_53178 cJ7_fill_53178 4 none] ++ wsX100)
def wsX10_setKind : List Cond := .code yX10_setKind cX10_setKind 5 (some .int) :: ([.fieldLink RX10 9 "JoinBench$Trees" "kinds" "[I"] ++ wsX100)
def wsX10_cappedProduct : List Cond := .code yX10_cappedProduct cX10_cappedProduct 4 (some .long) :: ([.constantLong RX10 60 (1000000000000000), .static yX11_capped, .initialized RX11, .code yX11_capped cX11_capped 2 (some .long), .constantLong RX11 257 (1000000000000000), .methodLink RX11 259 Lib.MathLoose.min_long.x, .static Lib.MathLoose.min_long.x, .initialized "java/lang/Math", .code Lib.MathLoose.min_long.x Lib.MathLoose.min_long.code 4 (some .long)])
def wsX10_addSeconds : List Cond := .code yX10_addSeconds cX10_addSeconds 14 none :: ([.fieldLink RX10 9 "JoinBench$Trees" "kinds" "[I", .fieldLink RX10 15 "JoinBench$Trees" "ways" "[[J", .methodLink RX10 52 yX10_cappedProduct, .static yX10_cappedProduct, .initialized RX10, .code yX10_cappedProduct cX10_cappedProduct 4 (some .long), .constantLong RX10 60 (1000000000000000), .static yX11_capped, .initialized RX11, .code yX11_capped cX11_capped 2 (some .long), .constantLong RX11 257 (1000000000000000), .methodLink RX11 259 Lib.MathLoose.min_long.x, .static Lib.MathLoose.min_long.x, .initialized "java/lang/Math", .code Lib.MathLoose.min_long.x Lib.MathLoose.min_long.code 4 (some .long)] ++ wsX100)
def wsX10_addSplits : List Cond := .code yX10_addSplits cX10_addSplits 7 none :: ([.fieldLink RX10 15 "JoinBench$Trees" "ways" "[[J", .methodLink RX10 48 yX10_addSeconds, .instanceMethod yX10_addSeconds, .selects RX10 yX10_addSeconds yX10_addSeconds, .initialized RX10, .code yX10_addSeconds cX10_addSeconds 14 none, .fieldLink RX10 9 "JoinBench$Trees" "kinds" "[I", .methodLink RX10 52 yX10_cappedProduct, .static yX10_cappedProduct, .code yX10_cappedProduct cX10_cappedProduct 4 (some .long), .constantLong RX10 60 (1000000000000000), .static yX11_capped, .initialized RX11, .code yX11_capped cX11_capped 2 (some .long), .constantLong RX11 257 (1000000000000000), .methodLink RX11 259 Lib.MathLoose.min_long.x, .static Lib.MathLoose.min_long.x, .initialized "java/lang/Math", .code Lib.MathLoose.min_long.x Lib.MathLoose.min_long.code 4 (some .long)] ++ wsX100)
def wsX10_waysTo_r1 : List Cond := [Cond.fieldLink RX10 15 "JoinBench$Trees" "ways" "[[J", Cond.classLink RX10 25 "[[J", Cond.arrayClass .long, Cond.fieldLink RX10 26 "JoinBench$Chain" "size" "I", Cond.fieldLink RX10 35 "JoinBench$Chain" "forms" "[LJoinBench$Form;", Cond.fieldLink RX10 39 "JoinBench$Form" "kind" "I", Cond.methodLink RX10 32 yJ7_fill_d0a16, Cond.static yJ7_fill_d0a16, Cond.initialized RJ7, Cond.code yJ7_fill_d0a16 cJ7_fill_d0a16 5 none, Cond.methodLink RX10 44 yX10_addSplits, Cond.instanceMethod yX10_addSplits, Cond.selects RX10 yX10_addSplits yX10_addSplits, Cond.initialized RX10, Cond.code yX10_addSplits cX10_addSplits 7 none, Cond.methodLink RX10 48 yX10_addSeconds, Cond.instanceMethod yX10_addSeconds, Cond.selects RX10 yX10_addSeconds yX10_addSeconds, Cond.code yX10_addSeconds cX10_addSeconds 14 none, Cond.fieldLink RX10 9 "JoinBench$Trees" "kinds" "[I", Cond.methodLink RX10 52 yX10_cappedProduct, Cond.static yX10_cappedProduct, Cond.code yX10_cappedProduct cX10_cappedProduct 4 (some .long), Cond.constantLong RX10 60 (1000000000000000)]
def wsX10_waysTo_r2 : List Cond := [Cond.static yX11_capped, Cond.initialized RX11, Cond.code yX11_capped cX11_capped 2 (some .long), Cond.constantLong RX11 257 (1000000000000000), Cond.methodLink RX11 259 Lib.MathLoose.min_long.x, Cond.static Lib.MathLoose.min_long.x, Cond.initialized "java/lang/Math", Cond.code Lib.MathLoose.min_long.x Lib.MathLoose.min_long.code 4 (some .long)]
def wsX10_waysTo : List Cond := .code yX10_waysTo cX10_waysTo 5 (some .long) :: ((wsX10_waysTo_r1 ++ wsX10_waysTo_r2) ++ wsX100 ++ wsX00 ++ wsX20)
def wsX11_init_r1 : List Cond := [Cond.methodLink RX11 3 objectInit, Cond.instanceMethod objectInit, Cond.code objectInit ⟨#[0xb1]⟩ 1 none, Cond.classLink RX11 9 RX8, Cond.instantiable RX8 2, Cond.initialized RX8, Cond.fieldLink RX11 12 "JoinBench" "tape" "LJoinBench$Tape;", Cond.classLink RX11 16 RX9, Cond.instantiable RX9 5, Cond.initialized RX9, Cond.fieldLink RX11 19 "JoinBench" "tongue" "LJoinBench$Tongue;", Cond.classLink RX11 23 RX6, Cond.instantiable RX6 4, Cond.initialized RX6, Cond.fieldLink RX11 26 "JoinBench" "row" "LJoinBench$Row;", Cond.classLink RX11 30 RX10, Cond.instantiable RX10 2, Cond.initialized RX10, Cond.fieldLink RX11 33 "JoinBench" "trees" "LJoinBench$Trees;", Cond.classLink RX11 37 RX1, Cond.instantiable RX1 6, Cond.initialized RX1, Cond.fieldLink RX11 40 "JoinBench" "choices" "LJoinBench$Choices;", Cond.fieldLink RX11 44 "JoinBench" "parter" "LJoinBench$Parter;"]
def wsX11_init_r2 : List Cond := [Cond.fieldLink RX11 48 "JoinBench" "step" "I", Cond.instanceMethod yX8_init, Cond.code yX8_init cX8_init 1 none, Cond.methodLink RX8 3 objectInit, Cond.arrayClass .byte, Cond.fieldLink RX8 9 "JoinBench$Tape" "bytes" "[B", Cond.fieldLink RX8 15 "JoinBench$Tape" "size" "I", Cond.instanceMethod yX9_init, Cond.code yX9_init cX9_init 1 none, Cond.methodLink RX9 3 objectInit, Cond.classLink RX9 9 RX2, Cond.fieldLink RX9 11 "JoinBench$Tongue" "forms" "[LJoinBench$Form;", Cond.classLink RX9 17 RX7, Cond.fieldLink RX9 19 "JoinBench$Tongue" "rules" "[LJoinBench$Rule;", Cond.fieldLink RX9 23 "JoinBench$Tongue" "formCount" "I", Cond.fieldLink RX9 27 "JoinBench$Tongue" "ruleCount" "I", Cond.arrayClass .boolean, Cond.fieldLink RX9 30 "JoinBench$Tongue" "forbidden" "[Z", Cond.instanceMethod yX6_init, Cond.code yX6_init cX6_init 1 none, Cond.methodLink RX6 3 objectInit, Cond.classLink RX6 9 RX0, Cond.instantiable RX0 3, Cond.initialized RX0]
def wsX11_init_r3 : List Cond := [Cond.fieldLink RX6 12 "JoinBench$Row" "chain" "LJoinBench$Chain;", Cond.fieldLink RX6 18 "JoinBench$Row" "out" "[B", Cond.fieldLink RX6 22 "JoinBench$Row" "day" "I", Cond.fieldLink RX6 26 "JoinBench$Row" "outSize" "I", Cond.instanceMethod yX0_init, Cond.code yX0_init cX0_init 1 none, Cond.methodLink RX0 3 objectInit, Cond.classLink RX0 9 RX2, Cond.fieldLink RX0 11 "JoinBench$Chain" "forms" "[LJoinBench$Form;", Cond.classLink RX0 17 RX7, Cond.fieldLink RX0 19 "JoinBench$Chain" "rules" "[LJoinBench$Rule;", Cond.fieldLink RX0 23 "JoinBench$Chain" "size" "I", Cond.methodLink RX11 32 yX10_init, Cond.instanceMethod yX10_init, Cond.code yX10_init cX10_init 1 none, Cond.methodLink RX10 3 objectInit, Cond.arrayClass .int, Cond.fieldLink RX10 9 "JoinBench$Trees" "kinds" "[I", Cond.fieldLink RX10 15 "JoinBench$Trees" "ways" "[[J", Cond.methodLink RX10 19 yJ7_fill_53178, Cond.static yJ7_fill_53178, Cond.initialized RJ7, Cond.code yJ7_fill_53178 cJ7_fill_53178 4 none, Cond.instanceMethod yX1_init]
def wsX11_init_r4 : List Cond := [Cond.code yX1_init cX1_init 1 none, Cond.methodLink RX1 3 objectInit, Cond.fieldLink RX1 9 "JoinBench$Choices" "uses" "[I", Cond.fieldLink RX1 15 "JoinBench$Choices" "size" "I", Cond.classLink RX1 19 "[[I", Cond.fieldLink RX1 21 "JoinBench$Choices" "costsBefore" "[[I", Cond.fieldLink RX1 24 "JoinBench$Choices" "usesBefore" "[[I", Cond.fieldLink RX1 27 "JoinBench$Choices" "formsBefore" "[I", Cond.fieldLink RX1 30 "JoinBench$Choices" "oldest" "I"]
def wsX11_init : List Cond := .code yX11_init cX11_init 1 none :: ((wsX11_init_r1 ++ (wsX11_init_r2 ++ (wsX11_init_r3 ++ wsX11_init_r4))) ++ wsX80 ++ wsX110 ++ wsX90 ++ wsX60 ++ wsX100 ++ wsX10 ++ wsX00)
def wsX11_feed : List Cond := .code yX11_feed cX11_feed 6 (some .int) :: ([.fieldLink RX11 12 "JoinBench" "tape" "LJoinBench$Tape;", .fieldLink RX11 60 "JoinBench$Tape" "size" "I", .methodLink RX11 52 yX8_hasRoomFor, .instanceMethod yX8_hasRoomFor, .selects RX8 yX8_hasRoomFor yX8_hasRoomFor, .initialized RX8, .code yX8_hasRoomFor cX8_hasRoomFor 2 (some .boolean), .fieldLink RX8 15 "JoinBench$Tape" "size" "I", .methodLink RX11 56 yX8_addNumber, .instanceMethod yX8_addNumber, .selects RX8 yX8_addNumber yX8_addNumber, .code yX8_addNumber cX8_addNumber 3 none, .methodLink RX8 19 yX8_addByte, .instanceMethod yX8_addByte, .selects RX8 yX8_addByte yX8_addByte, .code yX8_addByte cX8_addByte 2 none, .fieldLink RX8 9 "JoinBench$Tape" "bytes" "[B"] ++ wsX110 ++ wsX80)
def wsX11_within : List Cond := .code yX11_within cX11_within 3 (some .boolean) :: ([])
def wsX11_end : List Cond := .code yX11_end cX11_end 2 (some .int) :: ([.fieldLink RX11 12 "JoinBench" "tape" "LJoinBench$Tape;", .fieldLink RX11 60 "JoinBench$Tape" "size" "I", .methodLink RX11 63 yX11_within, .static yX11_within, .initialized RX11, .code yX11_within cX11_within 3 (some .boolean)] ++ wsX110 ++ wsX80)
def wsX11_isKind : List Cond := .code yX11_isKind cX11_isKind 1 (some .boolean) :: ([.methodLink RX11 63 yX11_within, .static yX11_within, .initialized RX11, .code yX11_within cX11_within 3 (some .boolean)])
def wsX11_isStem : List Cond := .code yX11_isStem cX11_isStem 1 (some .boolean) :: ([.methodLink RX11 63 yX11_within, .static yX11_within, .initialized RX11, .code yX11_within cX11_within 3 (some .boolean)])
def wsX11_isCost : List Cond := .code yX11_isCost cX11_isCost 1 (some .boolean) :: ([.methodLink RX11 63 yX11_within, .static yX11_within, .initialized RX11, .code yX11_within cX11_within 3 (some .boolean)])
def wsX11_form_r1 : List Cond := [Cond.fieldLink RX11 19 "JoinBench" "tongue" "LJoinBench$Tongue;", Cond.fieldLink RX11 67 "JoinBench$Tongue" "formCount" "I", Cond.fieldLink RX11 12 "JoinBench" "tape" "LJoinBench$Tape;", Cond.fieldLink RX11 60 "JoinBench$Tape" "size" "I", Cond.classLink RX11 83 RX2, Cond.instantiable RX2 8, Cond.initialized RX2, Cond.methodLink RX11 70 yX11_isKind, Cond.static yX11_isKind, Cond.initialized RX11, Cond.code yX11_isKind cX11_isKind 1 (some .boolean), Cond.methodLink RX11 63 yX11_within, Cond.static yX11_within, Cond.code yX11_within cX11_within 3 (some .boolean), Cond.methodLink RX11 73 yX11_isStem, Cond.static yX11_isStem, Cond.code yX11_isStem cX11_isStem 1 (some .boolean), Cond.methodLink RX11 76 yX11_isCost, Cond.static yX11_isCost, Cond.code yX11_isCost cX11_isCost 1 (some .boolean), Cond.methodLink RX11 79 yX8_hasOnlyLetters, Cond.instanceMethod yX8_hasOnlyLetters, Cond.selects RX8 yX8_hasOnlyLetters yX8_hasOnlyLetters, Cond.initialized RX8]
def wsX11_form_r2 : List Cond := [Cond.code yX8_hasOnlyLetters cX8_hasOnlyLetters 2 (some .boolean), Cond.fieldLink RX8 15 "JoinBench$Tape" "size" "I", Cond.fieldLink RX8 9 "JoinBench$Tape" "bytes" "[B", Cond.methodLink RX11 85 yX2_init, Cond.instanceMethod yX2_init, Cond.code yX2_init cX2_init 6 none, Cond.methodLink RX2 3 objectInit, Cond.instanceMethod objectInit, Cond.code objectInit ⟨#[0xb1]⟩ 1 none, Cond.fieldLink RX2 9 "JoinBench$Form" "number" "I", Cond.fieldLink RX2 15 "JoinBench$Form" "ends" "I", Cond.fieldLink RX2 18 "JoinBench$Form" "begins" "I", Cond.fieldLink RX2 21 "JoinBench$Tape" "bytes" "[B", Cond.fieldLink RX2 27 "JoinBench$Tape" "size" "I", Cond.fieldLink RX2 36 "JoinBench$Form" "letters" "[B", Cond.fieldLink RX2 39 "JoinBench$Form" "kind" "I", Cond.fieldLink RX2 42 "JoinBench$Form" "stem" "I", Cond.fieldLink RX2 45 "JoinBench$Form" "cost" "I", Cond.fieldLink RX2 48 "JoinBench$Form" "kept" "Z", Cond.methodLink RX2 30 yJ7_copyOf_9075b, Cond.static yJ7_copyOf_9075b, Cond.initialized RJ7, Cond.code yJ7_copyOf_9075b cJ7_copyOf_9075b 3 (some (.array .byte)), Cond.methodLink RJ7 310 ⟨"[B", "clone", "()Ljava/lang/Object;"⟩]
def wsX11_form_r3 : List Cond := [Cond.sameMethod "[B" "java/lang/Object" "clone" "()Ljava/lang/Object;", Cond.native ⟨"java/lang/Object", "clone", "()Ljava/lang/Object;"⟩, Cond.instanceMethod ⟨"java/lang/Object", "clone", "()Ljava/lang/Object;"⟩, Cond.selects "[B" ⟨"[B", "clone", "()Ljava/lang/Object;"⟩ ⟨"java/lang/Object", "clone", "()Ljava/lang/Object;"⟩, Cond.classLink RJ7 311 "[B", Cond.arrayClass .byte, Cond.methodLink RJ7 304 Lib.Math.min.name, Cond.static Lib.Math.min.name, Cond.initialized "java/lang/Math", Cond.code Lib.Math.min.name Lib.Math.min.code 2 (some .int), Cond.methodLink RJ7 150 arraycopyName, Cond.native arraycopyName, Cond.static arraycopyName, Cond.initialized "java/lang/System", Cond.methodLink RX11 88 yX9_addForm, Cond.instanceMethod yX9_addForm, Cond.selects RX9 yX9_addForm yX9_addForm, Cond.initialized RX9, Cond.code yX9_addForm cX9_addForm 3 (some .int), Cond.fieldLink RX9 23 "JoinBench$Tongue" "formCount" "I", Cond.fieldLink RX9 34 "JoinBench$Form" "number" "I", Cond.fieldLink RX9 11 "JoinBench$Tongue" "forms" "[LJoinBench$Form;", Cond.fieldLink RX9 27 "JoinBench$Tongue" "ruleCount" "I", Cond.fieldLink RX9 19 "JoinBench$Tongue" "rules" "[LJoinBench$Rule;"]
def wsX11_form_r4 : List Cond := [Cond.methodLink RX9 37 yX9_markFit, Cond.instanceMethod yX9_markFit, Cond.selects RX9 yX9_markFit yX9_markFit, Cond.code yX9_markFit cX9_markFit 3 none, Cond.fieldLink RX9 42 "JoinBench$Form" "kept" "Z", Cond.fieldLink RX9 50 "JoinBench$Form" "ends" "I", Cond.fieldLink RX9 41 "JoinBench$Rule" "number" "I", Cond.fieldLink RX9 56 "JoinBench$Form" "begins" "I", Cond.methodLink RX9 46 yX7_isEndOf, Cond.instanceMethod yX7_isEndOf, Cond.selects RX7 yX7_isEndOf yX7_isEndOf, Cond.initialized RX7, Cond.code yX7_isEndOf cX7_isEndOf 3 (some .boolean), Cond.fieldLink RX7 54 "JoinBench$Form" "letters" "[B", Cond.fieldLink RX7 33 "JoinBench$Rule" "endSize" "I", Cond.methodLink RX7 57 yX7_stands, Cond.instanceMethod yX7_stands, Cond.selects RX7 yX7_stands yX7_stands, Cond.code yX7_stands cX7_stands 7 (some .boolean), Cond.fieldLink RX7 30 "JoinBench$Rule" "letters" "[B", Cond.methodLink RX9 53 yX7_isBeginningOf, Cond.instanceMethod yX7_isBeginningOf, Cond.selects RX7 yX7_isBeginningOf yX7_isBeginningOf, Cond.code yX7_isBeginningOf cX7_isBeginningOf 2 (some .boolean)]
def wsX11_form_r5 : List Cond := [Cond.fieldLink RX7 36 "JoinBench$Rule" "beginningSize" "I"]
def wsX11_form : List Cond := .code yX11_form cX11_form 7 (some .int) :: ((wsX11_form_r1 ++ (wsX11_form_r2 ++ (wsX11_form_r3 ++ (wsX11_form_r4 ++ wsX11_form_r5)))) ++ wsX110 ++ wsX90 ++ wsX80 ++ wsX20 ++ wsX70)
def wsX11_isDay : List Cond := .code yX11_isDay cX11_isDay 1 (some .boolean) :: ([.methodLink RX11 63 yX11_within, .static yX11_within, .initialized RX11, .code yX11_within cX11_within 3 (some .boolean)])
def wsX11_rule_r1 : List Cond := [Cond.fieldLink RX11 19 "JoinBench" "tongue" "LJoinBench$Tongue;", Cond.fieldLink RX11 92 "JoinBench$Tongue" "ruleCount" "I", Cond.fieldLink RX11 12 "JoinBench" "tape" "LJoinBench$Tape;", Cond.fieldLink RX11 60 "JoinBench$Tape" "size" "I", Cond.classLink RX11 98 RX7, Cond.instantiable RX7 9, Cond.initialized RX7, Cond.methodLink RX11 63 yX11_within, Cond.static yX11_within, Cond.initialized RX11, Cond.code yX11_within cX11_within 3 (some .boolean), Cond.methodLink RX11 79 yX8_hasOnlyLetters, Cond.instanceMethod yX8_hasOnlyLetters, Cond.selects RX8 yX8_hasOnlyLetters yX8_hasOnlyLetters, Cond.initialized RX8, Cond.code yX8_hasOnlyLetters cX8_hasOnlyLetters 2 (some .boolean), Cond.fieldLink RX8 15 "JoinBench$Tape" "size" "I", Cond.fieldLink RX8 9 "JoinBench$Tape" "bytes" "[B", Cond.methodLink RX11 76 yX11_isCost, Cond.static yX11_isCost, Cond.code yX11_isCost cX11_isCost 1 (some .boolean), Cond.methodLink RX11 95 yX11_isDay, Cond.static yX11_isDay, Cond.code yX11_isDay cX11_isDay 1 (some .boolean)]
def wsX11_rule_r2 : List Cond := [Cond.methodLink RX11 100 yX7_init, Cond.instanceMethod yX7_init, Cond.code yX7_init cX7_init 7 none, Cond.methodLink RX7 3 objectInit, Cond.instanceMethod objectInit, Cond.code objectInit ⟨#[0xb1]⟩ 1 none, Cond.fieldLink RX7 9 "JoinBench$Rule" "number" "I", Cond.fieldLink RX7 15 "JoinBench$Tape" "bytes" "[B", Cond.fieldLink RX7 21 "JoinBench$Tape" "size" "I", Cond.fieldLink RX7 30 "JoinBench$Rule" "letters" "[B", Cond.fieldLink RX7 33 "JoinBench$Rule" "endSize" "I", Cond.fieldLink RX7 36 "JoinBench$Rule" "beginningSize" "I", Cond.fieldLink RX7 39 "JoinBench$Rule" "comesFrom" "I", Cond.fieldLink RX7 42 "JoinBench$Rule" "comesSize" "I", Cond.fieldLink RX7 45 "JoinBench$Rule" "cost" "I", Cond.fieldLink RX7 48 "JoinBench$Rule" "firstDay" "I", Cond.fieldLink RX7 51 "JoinBench$Rule" "lastDay" "I", Cond.methodLink RX7 24 yJ7_copyOf_9075b, Cond.static yJ7_copyOf_9075b, Cond.initialized RJ7, Cond.code yJ7_copyOf_9075b cJ7_copyOf_9075b 3 (some (.array .byte)), Cond.methodLink RJ7 310 ⟨"[B", "clone", "()Ljava/lang/Object;"⟩, Cond.sameMethod "[B" "java/lang/Object" "clone" "()Ljava/lang/Object;", Cond.native ⟨"java/lang/Object", "clone", "()Ljava/lang/Object;"⟩]
def wsX11_rule_r3 : List Cond := [Cond.instanceMethod ⟨"java/lang/Object", "clone", "()Ljava/lang/Object;"⟩, Cond.selects "[B" ⟨"[B", "clone", "()Ljava/lang/Object;"⟩ ⟨"java/lang/Object", "clone", "()Ljava/lang/Object;"⟩, Cond.classLink RJ7 311 "[B", Cond.arrayClass .byte, Cond.methodLink RJ7 304 Lib.Math.min.name, Cond.static Lib.Math.min.name, Cond.initialized "java/lang/Math", Cond.code Lib.Math.min.name Lib.Math.min.code 2 (some .int), Cond.methodLink RJ7 150 arraycopyName, Cond.native arraycopyName, Cond.static arraycopyName, Cond.initialized "java/lang/System", Cond.methodLink RX11 103 yX9_addRule, Cond.instanceMethod yX9_addRule, Cond.selects RX9 yX9_addRule yX9_addRule, Cond.initialized RX9, Cond.code yX9_addRule cX9_addRule 3 (some .int), Cond.fieldLink RX9 27 "JoinBench$Tongue" "ruleCount" "I", Cond.fieldLink RX9 41 "JoinBench$Rule" "number" "I", Cond.fieldLink RX9 19 "JoinBench$Tongue" "rules" "[LJoinBench$Rule;", Cond.fieldLink RX9 23 "JoinBench$Tongue" "formCount" "I", Cond.fieldLink RX9 11 "JoinBench$Tongue" "forms" "[LJoinBench$Form;", Cond.methodLink RX9 37 yX9_markFit, Cond.instanceMethod yX9_markFit]
def wsX11_rule_r4 : List Cond := [Cond.selects RX9 yX9_markFit yX9_markFit, Cond.code yX9_markFit cX9_markFit 3 none, Cond.fieldLink RX9 42 "JoinBench$Form" "kept" "Z", Cond.fieldLink RX9 50 "JoinBench$Form" "ends" "I", Cond.fieldLink RX9 56 "JoinBench$Form" "begins" "I", Cond.methodLink RX9 46 yX7_isEndOf, Cond.instanceMethod yX7_isEndOf, Cond.selects RX7 yX7_isEndOf yX7_isEndOf, Cond.code yX7_isEndOf cX7_isEndOf 3 (some .boolean), Cond.fieldLink RX7 54 "JoinBench$Form" "letters" "[B", Cond.methodLink RX7 57 yX7_stands, Cond.instanceMethod yX7_stands, Cond.selects RX7 yX7_stands yX7_stands, Cond.code yX7_stands cX7_stands 7 (some .boolean), Cond.methodLink RX9 53 yX7_isBeginningOf, Cond.instanceMethod yX7_isBeginningOf, Cond.selects RX7 yX7_isBeginningOf yX7_isBeginningOf, Cond.code yX7_isBeginningOf cX7_isBeginningOf 2 (some .boolean)]
def wsX11_rule : List Cond := .code yX11_rule cX11_rule 8 (some .int) :: ((wsX11_rule_r1 ++ (wsX11_rule_r2 ++ (wsX11_rule_r3 ++ wsX11_rule_r4))) ++ wsX110 ++ wsX90 ++ wsX80 ++ wsX70 ++ wsX20)
def wsX11_cost : List Cond := .code yX11_cost cX11_cost 5 (some .int) :: ([.fieldLink RX11 19 "JoinBench" "tongue" "LJoinBench$Tongue;", .fieldLink RX11 111 "JoinBench$Form" "cost" "I", .methodLink RX11 107 yX9_formAt, .instanceMethod yX9_formAt, .selects RX9 yX9_formAt yX9_formAt, .initialized RX9, .code yX9_formAt cX9_formAt 2 (some (.object "JoinBench$Form")), .fieldLink RX9 23 "JoinBench$Tongue" "formCount" "I", .fieldLink RX9 11 "JoinBench$Tongue" "forms" "[LJoinBench$Form;", .methodLink RX11 76 yX11_isCost, .static yX11_isCost, .initialized RX11, .code yX11_isCost cX11_isCost 1 (some .boolean), .methodLink RX11 63 yX11_within, .static yX11_within, .code yX11_within cX11_within 3 (some .boolean)] ++ wsX110 ++ wsX20 ++ wsX90)
def wsX11_meets : List Cond := .code yX11_meets cX11_meets 4 (some .boolean) :: ([.fieldLink RX11 19 "JoinBench" "tongue" "LJoinBench$Tongue;", .methodLink RX11 70 yX11_isKind, .static yX11_isKind, .initialized RX11, .code yX11_isKind cX11_isKind 1 (some .boolean), .methodLink RX11 63 yX11_within, .static yX11_within, .code yX11_within cX11_within 3 (some .boolean), .methodLink RX11 114 yX9_setMeeting, .instanceMethod yX9_setMeeting, .selects RX9 yX9_setMeeting yX9_setMeeting, .initialized RX9, .code yX9_setMeeting cX9_setMeeting 5 (some .boolean), .fieldLink RX9 30 "JoinBench$Tongue" "forbidden" "[Z"] ++ wsX110 ++ wsX90)
def wsX11_becomes : List Cond := .code yX11_becomes cX11_becomes 4 (some .int) :: ([.fieldLink RX11 33 "JoinBench" "trees" "LJoinBench$Trees;", .methodLink RX11 70 yX11_isKind, .static yX11_isKind, .initialized RX11, .code yX11_isKind cX11_isKind 1 (some .boolean), .methodLink RX11 63 yX11_within, .static yX11_within, .code yX11_within cX11_within 3 (some .boolean), .methodLink RX11 118 yX10_setKind, .instanceMethod yX10_setKind, .selects RX10 yX10_setKind yX10_setKind, .initialized RX10, .code yX10_setKind cX10_setKind 5 (some .int), .fieldLink RX10 9 "JoinBench$Trees" "kinds" "[I"] ++ wsX110 ++ wsX100)
def wsX11_rulesBetween_r1 : List Cond := [Cond.fieldLink RX11 19 "JoinBench" "tongue" "LJoinBench$Tongue;", Cond.fieldLink RX11 265 "JoinBench$Form" "ends" "I", Cond.fieldLink RX11 268 "JoinBench$Form" "begins" "I", Cond.methodLink RX11 107 yX9_formAt, Cond.instanceMethod yX9_formAt, Cond.selects RX9 yX9_formAt yX9_formAt, Cond.initialized RX9, Cond.code yX9_formAt cX9_formAt 2 (some (.object "JoinBench$Form")), Cond.fieldLink RX9 23 "JoinBench$Tongue" "formCount" "I", Cond.fieldLink RX9 11 "JoinBench$Tongue" "forms" "[LJoinBench$Form;", Cond.methodLink RX11 95 yX11_isDay, Cond.static yX11_isDay, Cond.initialized RX11, Cond.code yX11_isDay cX11_isDay 1 (some .boolean), Cond.methodLink RX11 63 yX11_within, Cond.static yX11_within, Cond.code yX11_within cX11_within 3 (some .boolean), Cond.methodLink RX11 271 yX9_rulesInForce, Cond.instanceMethod yX9_rulesInForce, Cond.selects RX9 yX9_rulesInForce yX9_rulesInForce, Cond.code yX9_rulesInForce cX9_rulesInForce 4 (some .int), Cond.fieldLink RX9 27 "JoinBench$Tongue" "ruleCount" "I", Cond.fieldLink RX9 19 "JoinBench$Tongue" "rules" "[LJoinBench$Rule;", Cond.fieldLink RX9 59 "JoinBench$Rule" "firstDay" "I"]
def wsX11_rulesBetween_r2 : List Cond := [Cond.fieldLink RX9 62 "JoinBench$Rule" "lastDay" "I"]
def wsX11_rulesBetween : List Cond := .code yX11_rulesBetween cX11_rulesBetween 6 (some .int) :: ((wsX11_rulesBetween_r1 ++ wsX11_rulesBetween_r2) ++ wsX110 ++ wsX20 ++ wsX90 ++ wsX70)
def wsJ6_bitCount_0f7a4 : List Cond := .code yJ6_bitCount_0f7a4 cJ6_bitCount_0f7a4 1 (some .int) :: ([.constant RJ6 265 (1431655765), .constant RJ6 266 (858993459), .constant RJ6 267 (252645135)])
def wsX11_fits_r1 : List Cond := [Cond.methodLink RX11 122 yX11_rulesBetween, Cond.instanceMethod yX11_rulesBetween, Cond.selects RX11 yX11_rulesBetween yX11_rulesBetween, Cond.initialized RX11, Cond.code yX11_rulesBetween cX11_rulesBetween 6 (some .int), Cond.fieldLink RX11 19 "JoinBench" "tongue" "LJoinBench$Tongue;", Cond.fieldLink RX11 265 "JoinBench$Form" "ends" "I", Cond.fieldLink RX11 268 "JoinBench$Form" "begins" "I", Cond.methodLink RX11 107 yX9_formAt, Cond.instanceMethod yX9_formAt, Cond.selects RX9 yX9_formAt yX9_formAt, Cond.initialized RX9, Cond.code yX9_formAt cX9_formAt 2 (some (.object "JoinBench$Form")), Cond.fieldLink RX9 23 "JoinBench$Tongue" "formCount" "I", Cond.fieldLink RX9 11 "JoinBench$Tongue" "forms" "[LJoinBench$Form;", Cond.methodLink RX11 95 yX11_isDay, Cond.static yX11_isDay, Cond.code yX11_isDay cX11_isDay 1 (some .boolean), Cond.methodLink RX11 63 yX11_within, Cond.static yX11_within, Cond.code yX11_within cX11_within 3 (some .boolean), Cond.methodLink RX11 271 yX9_rulesInForce, Cond.instanceMethod yX9_rulesInForce, Cond.selects RX9 yX9_rulesInForce yX9_rulesInForce]
def wsX11_fits_r2 : List Cond := [Cond.code yX9_rulesInForce cX9_rulesInForce 4 (some .int), Cond.fieldLink RX9 27 "JoinBench$Tongue" "ruleCount" "I", Cond.fieldLink RX9 19 "JoinBench$Tongue" "rules" "[LJoinBench$Rule;", Cond.fieldLink RX9 59 "JoinBench$Rule" "firstDay" "I", Cond.fieldLink RX9 62 "JoinBench$Rule" "lastDay" "I", Cond.methodLink RX11 125 yJ6_bitCount_0f7a4, Cond.static yJ6_bitCount_0f7a4, Cond.initialized RJ6, Cond.code yJ6_bitCount_0f7a4 cJ6_bitCount_0f7a4 1 (some .int), Cond.constant RJ6 265 (1431655765), Cond.constant RJ6 266 (858993459), Cond.constant RJ6 267 (252645135)]
def wsX11_fits : List Cond := .code yX11_fits cX11_fits 5 (some .int) :: ((wsX11_fits_r1 ++ wsX11_fits_r2) ++ wsX110 ++ wsX20 ++ wsX90 ++ wsX70)
def wsX11_fitting_r1 : List Cond := [Cond.methodLink RX11 122 yX11_rulesBetween, Cond.instanceMethod yX11_rulesBetween, Cond.selects RX11 yX11_rulesBetween yX11_rulesBetween, Cond.initialized RX11, Cond.code yX11_rulesBetween cX11_rulesBetween 6 (some .int), Cond.fieldLink RX11 19 "JoinBench" "tongue" "LJoinBench$Tongue;", Cond.fieldLink RX11 265 "JoinBench$Form" "ends" "I", Cond.fieldLink RX11 268 "JoinBench$Form" "begins" "I", Cond.methodLink RX11 107 yX9_formAt, Cond.instanceMethod yX9_formAt, Cond.selects RX9 yX9_formAt yX9_formAt, Cond.initialized RX9, Cond.code yX9_formAt cX9_formAt 2 (some (.object "JoinBench$Form")), Cond.fieldLink RX9 23 "JoinBench$Tongue" "formCount" "I", Cond.fieldLink RX9 11 "JoinBench$Tongue" "forms" "[LJoinBench$Form;", Cond.methodLink RX11 95 yX11_isDay, Cond.static yX11_isDay, Cond.code yX11_isDay cX11_isDay 1 (some .boolean), Cond.methodLink RX11 63 yX11_within, Cond.static yX11_within, Cond.code yX11_within cX11_within 3 (some .boolean), Cond.methodLink RX11 271 yX9_rulesInForce, Cond.instanceMethod yX9_rulesInForce, Cond.selects RX9 yX9_rulesInForce yX9_rulesInForce]
def wsX11_fitting_r2 : List Cond := [Cond.code yX9_rulesInForce cX9_rulesInForce 4 (some .int), Cond.fieldLink RX9 27 "JoinBench$Tongue" "ruleCount" "I", Cond.fieldLink RX9 19 "JoinBench$Tongue" "rules" "[LJoinBench$Rule;", Cond.fieldLink RX9 59 "JoinBench$Rule" "firstDay" "I", Cond.fieldLink RX9 62 "JoinBench$Rule" "lastDay" "I", Cond.methodLink RX11 131 yX11_hasRule, Cond.static yX11_hasRule, Cond.code yX11_hasRule cX11_hasRule 2 (some .boolean)]
def wsX11_fitting : List Cond := .code yX11_fitting cX11_fitting 8 (some .int) :: ((wsX11_fitting_r1 ++ wsX11_fitting_r2) ++ wsX110 ++ wsX20 ++ wsX90 ++ wsX70)
def wsX11_row : List Cond := .code yX11_row cX11_row 3 (some .int) :: ([.fieldLink RX11 26 "JoinBench" "row" "LJoinBench$Row;", .fieldLink RX11 135 "JoinBench$Row" "chain" "LJoinBench$Chain;", .fieldLink RX11 139 "JoinBench$Chain" "size" "I", .fieldLink RX11 142 "JoinBench$Row" "day" "I", .methodLink RX11 95 yX11_isDay, .static yX11_isDay, .initialized RX11, .code yX11_isDay cX11_isDay 1 (some .boolean), .methodLink RX11 63 yX11_within, .static yX11_within, .code yX11_within cX11_within 3 (some .boolean)] ++ wsX110 ++ wsX60 ++ wsX00)
def wsX11_canFollow_r1 : List Cond := [Cond.fieldLink RX11 265 "JoinBench$Form" "ends" "I", Cond.fieldLink RX11 268 "JoinBench$Form" "begins" "I", Cond.fieldLink RX11 19 "JoinBench" "tongue" "LJoinBench$Tongue;", Cond.fieldLink RX11 26 "JoinBench" "row" "LJoinBench$Row;", Cond.fieldLink RX11 142 "JoinBench$Row" "day" "I", Cond.fieldLink RX11 250 "JoinBench$Form" "letters" "[B", Cond.fieldLink RX11 135 "JoinBench$Row" "chain" "LJoinBench$Chain;", Cond.fieldLink RX11 277 "JoinBench$Rule" "endSize" "I", Cond.fieldLink RX11 280 "JoinBench$Rule" "beginningSize" "I", Cond.methodLink RX11 271 yX9_rulesInForce, Cond.instanceMethod yX9_rulesInForce, Cond.selects RX9 yX9_rulesInForce yX9_rulesInForce, Cond.initialized RX9, Cond.code yX9_rulesInForce cX9_rulesInForce 4 (some .int), Cond.fieldLink RX9 27 "JoinBench$Tongue" "ruleCount" "I", Cond.fieldLink RX9 19 "JoinBench$Tongue" "rules" "[LJoinBench$Rule;", Cond.fieldLink RX9 59 "JoinBench$Rule" "firstDay" "I", Cond.fieldLink RX9 62 "JoinBench$Rule" "lastDay" "I", Cond.methodLink RX11 157 yX9_ruleAt, Cond.instanceMethod yX9_ruleAt, Cond.selects RX9 yX9_ruleAt yX9_ruleAt, Cond.code yX9_ruleAt cX9_ruleAt 2 (some (.object "JoinBench$Rule")), Cond.methodLink RX11 131 yX11_hasRule, Cond.static yX11_hasRule]
def wsX11_canFollow_r2 : List Cond := [Cond.initialized RX11, Cond.code yX11_hasRule cX11_hasRule 2 (some .boolean), Cond.methodLink RX11 274 yX0_lastCut, Cond.instanceMethod yX0_lastCut, Cond.selects RX0 yX0_lastCut yX0_lastCut, Cond.initialized RX0, Cond.code yX0_lastCut cX0_lastCut 1 (some .int), Cond.fieldLink RX0 23 "JoinBench$Chain" "size" "I", Cond.methodLink RX0 31 yX0_cutAtBeginning, Cond.instanceMethod yX0_cutAtBeginning, Cond.selects RX0 yX0_cutAtBeginning yX0_cutAtBeginning, Cond.code yX0_cutAtBeginning cX0_cutAtBeginning 3 (some .int), Cond.fieldLink RX0 39 "JoinBench$Rule" "beginningSize" "I", Cond.methodLink RX0 35 yX0_ruleAheadOf, Cond.instanceMethod yX0_ruleAheadOf, Cond.selects RX0 yX0_ruleAheadOf yX0_ruleAheadOf, Cond.code yX0_ruleAheadOf cX0_ruleAheadOf 2 (some (.object "JoinBench$Rule")), Cond.fieldLink RX0 19 "JoinBench$Chain" "rules" "[LJoinBench$Rule;"]
def wsX11_canFollow : List Cond := .code yX11_canFollow cX11_canFollow 6 (some .boolean) :: ((wsX11_canFollow_r1 ++ wsX11_canFollow_r2) ++ wsX20 ++ wsX110 ++ wsX60 ++ wsX70 ++ wsX90 ++ wsX00)
def wsX11_joins_r1 : List Cond := [Cond.fieldLink RX11 19 "JoinBench" "tongue" "LJoinBench$Tongue;", Cond.fieldLink RX11 26 "JoinBench" "row" "LJoinBench$Row;", Cond.fieldLink RX11 135 "JoinBench$Row" "chain" "LJoinBench$Chain;", Cond.fieldLink RX11 139 "JoinBench$Chain" "size" "I", Cond.methodLink RX11 107 yX9_formAt, Cond.instanceMethod yX9_formAt, Cond.selects RX9 yX9_formAt yX9_formAt, Cond.initialized RX9, Cond.code yX9_formAt cX9_formAt 2 (some (.object "JoinBench$Form")), Cond.fieldLink RX9 23 "JoinBench$Tongue" "formCount" "I", Cond.fieldLink RX9 11 "JoinBench$Tongue" "forms" "[LJoinBench$Form;", Cond.methodLink RX11 145 yX0_last, Cond.instanceMethod yX0_last, Cond.selects RX0 yX0_last yX0_last, Cond.initialized RX0, Cond.code yX0_last cX0_last 1 (some (.object "JoinBench$Form")), Cond.fieldLink RX0 23 "JoinBench$Chain" "size" "I", Cond.methodLink RX0 27 yX0_formAt, Cond.instanceMethod yX0_formAt, Cond.selects RX0 yX0_formAt yX0_formAt, Cond.code yX0_formAt cX0_formAt 2 (some (.object "JoinBench$Form")), Cond.fieldLink RX0 11 "JoinBench$Chain" "forms" "[LJoinBench$Form;", Cond.methodLink RX11 149 yX0_append, Cond.instanceMethod yX0_append]
def wsX11_joins_r2 : List Cond := [Cond.selects RX0 yX0_append yX0_append, Cond.code yX0_append cX0_append 3 none, Cond.fieldLink RX0 19 "JoinBench$Chain" "rules" "[LJoinBench$Rule;", Cond.methodLink RX11 153 yX11_canFollow, Cond.instanceMethod yX11_canFollow, Cond.selects RX11 yX11_canFollow yX11_canFollow, Cond.initialized RX11, Cond.code yX11_canFollow cX11_canFollow 6 (some .boolean), Cond.fieldLink RX11 265 "JoinBench$Form" "ends" "I", Cond.fieldLink RX11 268 "JoinBench$Form" "begins" "I", Cond.fieldLink RX11 142 "JoinBench$Row" "day" "I", Cond.fieldLink RX11 250 "JoinBench$Form" "letters" "[B", Cond.fieldLink RX11 277 "JoinBench$Rule" "endSize" "I", Cond.fieldLink RX11 280 "JoinBench$Rule" "beginningSize" "I", Cond.methodLink RX11 271 yX9_rulesInForce, Cond.instanceMethod yX9_rulesInForce, Cond.selects RX9 yX9_rulesInForce yX9_rulesInForce, Cond.code yX9_rulesInForce cX9_rulesInForce 4 (some .int), Cond.fieldLink RX9 27 "JoinBench$Tongue" "ruleCount" "I", Cond.fieldLink RX9 19 "JoinBench$Tongue" "rules" "[LJoinBench$Rule;", Cond.fieldLink RX9 59 "JoinBench$Rule" "firstDay" "I", Cond.fieldLink RX9 62 "JoinBench$Rule" "lastDay" "I", Cond.methodLink RX11 157 yX9_ruleAt, Cond.instanceMethod yX9_ruleAt]
def wsX11_joins_r3 : List Cond := [Cond.selects RX9 yX9_ruleAt yX9_ruleAt, Cond.code yX9_ruleAt cX9_ruleAt 2 (some (.object "JoinBench$Rule")), Cond.methodLink RX11 131 yX11_hasRule, Cond.static yX11_hasRule, Cond.code yX11_hasRule cX11_hasRule 2 (some .boolean), Cond.methodLink RX11 274 yX0_lastCut, Cond.instanceMethod yX0_lastCut, Cond.selects RX0 yX0_lastCut yX0_lastCut, Cond.code yX0_lastCut cX0_lastCut 1 (some .int), Cond.methodLink RX0 31 yX0_cutAtBeginning, Cond.instanceMethod yX0_cutAtBeginning, Cond.selects RX0 yX0_cutAtBeginning yX0_cutAtBeginning, Cond.code yX0_cutAtBeginning cX0_cutAtBeginning 3 (some .int), Cond.fieldLink RX0 39 "JoinBench$Rule" "beginningSize" "I", Cond.methodLink RX0 35 yX0_ruleAheadOf, Cond.instanceMethod yX0_ruleAheadOf, Cond.selects RX0 yX0_ruleAheadOf yX0_ruleAheadOf, Cond.code yX0_ruleAheadOf cX0_ruleAheadOf 2 (some (.object "JoinBench$Rule"))]
def wsX11_joins : List Cond := .code yX11_joins cX11_joins 5 (some .int) :: ((wsX11_joins_r1 ++ (wsX11_joins_r2 ++ wsX11_joins_r3)) ++ wsX110 ++ wsX60 ++ wsX00 ++ wsX90 ++ wsX20 ++ wsX70)
def wsX11_joined_r1 : List Cond := [Cond.fieldLink RX11 26 "JoinBench" "row" "LJoinBench$Row;", Cond.fieldLink RX11 164 "JoinBench$Row" "outSize" "I", Cond.methodLink RX11 161 yX6_join, Cond.instanceMethod yX6_join, Cond.selects RX6 yX6_join yX6_join, Cond.initialized RX6, Cond.code yX6_join cX6_join 4 none, Cond.fieldLink RX6 26 "JoinBench$Row" "outSize" "I", Cond.fieldLink RX6 12 "JoinBench$Row" "chain" "LJoinBench$Chain;", Cond.fieldLink RX6 29 "JoinBench$Chain" "size" "I", Cond.fieldLink RX6 32 "JoinBench$Chain" "rules" "[LJoinBench$Rule;", Cond.fieldLink RX6 36 "JoinBench$Rule" "letters" "[B", Cond.fieldLink RX6 41 "JoinBench$Rule" "comesFrom" "I", Cond.fieldLink RX6 48 "JoinBench$Chain" "forms" "[LJoinBench$Form;", Cond.fieldLink RX6 52 "JoinBench$Form" "letters" "[B", Cond.methodLink RX6 44 yX6_write, Cond.instanceMethod yX6_write, Cond.selects RX6 yX6_write yX6_write, Cond.code yX6_write cX6_write 5 none, Cond.fieldLink RX6 18 "JoinBench$Row" "out" "[B", Cond.methodLink RX6 55 yX0_cutAtBeginning, Cond.instanceMethod yX0_cutAtBeginning, Cond.selects RX0 yX0_cutAtBeginning yX0_cutAtBeginning, Cond.initialized RX0]
def wsX11_joined_r2 : List Cond := [Cond.code yX0_cutAtBeginning cX0_cutAtBeginning 3 (some .int), Cond.fieldLink RX0 39 "JoinBench$Rule" "beginningSize" "I", Cond.methodLink RX0 35 yX0_ruleAheadOf, Cond.instanceMethod yX0_ruleAheadOf, Cond.selects RX0 yX0_ruleAheadOf yX0_ruleAheadOf, Cond.code yX0_ruleAheadOf cX0_ruleAheadOf 2 (some (.object "JoinBench$Rule")), Cond.fieldLink RX0 23 "JoinBench$Chain" "size" "I", Cond.fieldLink RX0 19 "JoinBench$Chain" "rules" "[LJoinBench$Rule;", Cond.methodLink RX6 59 yX0_cutAtEnd, Cond.instanceMethod yX0_cutAtEnd, Cond.selects RX0 yX0_cutAtEnd yX0_cutAtEnd, Cond.code yX0_cutAtEnd cX0_cutAtEnd 3 (some .int), Cond.fieldLink RX0 42 "JoinBench$Rule" "endSize" "I"]
def wsX11_joined : List Cond := .code yX11_joined cX11_joined 1 (some .int) :: ((wsX11_joined_r1 ++ wsX11_joined_r2) ++ wsX110 ++ wsX60 ++ wsX00 ++ wsX70 ++ wsX20)
def wsX11_letter : List Cond := .code yX11_letter cX11_letter 2 (some .int) :: ([.fieldLink RX11 26 "JoinBench" "row" "LJoinBench$Row;", .fieldLink RX11 164 "JoinBench$Row" "outSize" "I", .fieldLink RX11 167 "JoinBench$Row" "out" "[B"] ++ wsX110 ++ wsX60)
def wsX11_back : List Cond := .code yX11_back cX11_back 2 (some .int) :: ([.fieldLink RX11 12 "JoinBench" "tape" "LJoinBench$Tape;", .fieldLink RX11 26 "JoinBench" "row" "LJoinBench$Row;", .fieldLink RX11 164 "JoinBench$Row" "outSize" "I", .fieldLink RX11 167 "JoinBench$Row" "out" "[B", .fieldLink RX11 60 "JoinBench$Tape" "size" "I", .methodLink RX11 52 yX8_hasRoomFor, .instanceMethod yX8_hasRoomFor, .selects RX8 yX8_hasRoomFor yX8_hasRoomFor, .initialized RX8, .code yX8_hasRoomFor cX8_hasRoomFor 2 (some .boolean), .fieldLink RX8 15 "JoinBench$Tape" "size" "I", .methodLink RX11 171 yX8_addByte, .instanceMethod yX8_addByte, .selects RX8 yX8_addByte yX8_addByte, .code yX8_addByte cX8_addByte 2 none, .fieldLink RX8 9 "JoinBench$Tape" "bytes" "[B"] ++ wsX110 ++ wsX60 ++ wsX80)
def wsX11_part_r1 : List Cond := [Cond.fieldLink RX11 12 "JoinBench" "tape" "LJoinBench$Tape;", Cond.fieldLink RX11 60 "JoinBench$Tape" "size" "I", Cond.constantLong RX11 174 (-1), Cond.fieldLink RX11 44 "JoinBench" "parter" "LJoinBench$Parter;", Cond.classLink RX11 176 RX4, Cond.instantiable RX4 10, Cond.initialized RX4, Cond.fieldLink RX11 19 "JoinBench" "tongue" "LJoinBench$Tongue;", Cond.fieldLink RX11 181 "JoinBench$Tape" "bytes" "[B", Cond.fieldLink RX11 191 "JoinBench$Parter" "counted" "J", Cond.methodLink RX11 63 yX11_within, Cond.static yX11_within, Cond.initialized RX11, Cond.code yX11_within cX11_within 3 (some .boolean), Cond.methodLink RX11 79 yX8_hasOnlyLetters, Cond.instanceMethod yX8_hasOnlyLetters, Cond.selects RX8 yX8_hasOnlyLetters yX8_hasOnlyLetters, Cond.initialized RX8, Cond.code yX8_hasOnlyLetters cX8_hasOnlyLetters 2 (some .boolean), Cond.fieldLink RX8 15 "JoinBench$Tape" "size" "I", Cond.fieldLink RX8 9 "JoinBench$Tape" "bytes" "[B", Cond.methodLink RX11 95 yX11_isDay, Cond.static yX11_isDay, Cond.code yX11_isDay cX11_isDay 1 (some .boolean)]
def wsX11_part_r2 : List Cond := [Cond.methodLink RX11 178 yX4_init, Cond.instanceMethod yX4_init, Cond.code yX4_init cX4_init 3 none, Cond.methodLink RX4 5 objectInit, Cond.instanceMethod objectInit, Cond.code objectInit ⟨#[0xb1]⟩ 1 none, Cond.fieldLink RX4 11 "JoinBench$Parter" "countedUncut" "J", Cond.fieldLink RX4 15 "JoinBench$Parter" "counted" "J", Cond.fieldLink RX4 18 "JoinBench$Parter" "left" "Z", Cond.classLink RX4 22 RX5, Cond.fieldLink RX4 24 "JoinBench$Parter" "told" "[LJoinBench$Path;", Cond.fieldLink RX4 28 "JoinBench$Parter" "toldCount" "I", Cond.fieldLink RX4 32 "JoinBench$Parter" "grown" "[LJoinBench$Path;", Cond.arrayClass .int, Cond.fieldLink RX4 35 "JoinBench$Parter" "keys" "[I", Cond.fieldLink RX4 39 "JoinBench$Parter" "keyCount" "I", Cond.fieldLink RX4 42 "JoinBench$Parter" "tongue" "LJoinBench$Tongue;", Cond.classLink RX4 46 RX3, Cond.instantiable RX3 11, Cond.initialized RX3, Cond.fieldLink RX4 51 "JoinBench$Parter" "lattice" "LJoinBench$Lattice;", Cond.instantiable RX5 6, Cond.initialized RX5, Cond.methodLink RX4 48 yX3_init]
def wsX11_part_r3 : List Cond := [Cond.instanceMethod yX3_init, Cond.code yX3_init cX3_init 2 none, Cond.methodLink RX3 3 objectInit, Cond.classLink RX3 9 "[[I", Cond.fieldLink RX3 11 "JoinBench$Lattice" "cheapest" "[[I", Cond.fieldLink RX3 16 "JoinBench$Lattice" "size" "I", Cond.arrayClass .byte, Cond.fieldLink RX3 20 "JoinBench$Lattice" "line" "[B", Cond.arrayClass .long, Cond.fieldLink RX3 24 "JoinBench$Lattice" "ways" "[J", Cond.classLink RX3 28 "[[J", Cond.fieldLink RX3 30 "JoinBench$Lattice" "plainWays" "[[J", Cond.fieldLink RX3 33 "JoinBench$Lattice" "plainCheapest" "[[I", Cond.fieldLink RX3 36 "JoinBench$Lattice" "ruledWays" "[[J", Cond.fieldLink RX3 39 "JoinBench$Lattice" "ruledCheapest" "[[I", Cond.fieldLink RX3 42 "JoinBench$Lattice" "inForce" "I", Cond.arrayClass .boolean, Cond.fieldLink RX3 45 "JoinBench$Lattice" "barred" "[Z", Cond.fieldLink RX3 49 "JoinBench$Lattice" "tongue" "LJoinBench$Tongue;", Cond.instanceMethod yX5_init, Cond.code yX5_init cX5_init 1 none, Cond.methodLink RX5 1 objectInit, Cond.classLink RX5 7 RX0, Cond.instantiable RX0 3]
def wsX11_part_r4 : List Cond := [Cond.initialized RX0, Cond.fieldLink RX5 10 "JoinBench$Path" "chain" "LJoinBench$Chain;", Cond.fieldLink RX5 16 "JoinBench$Path" "cost" "I", Cond.fieldLink RX5 20 "JoinBench$Path" "spent" "I", Cond.fieldLink RX5 23 "JoinBench$Path" "place" "I", Cond.fieldLink RX5 26 "JoinBench$Path" "ended" "Z", Cond.fieldLink RX5 30 "JoinBench$Path" "rank" "I", Cond.instanceMethod yX0_init, Cond.code yX0_init cX0_init 1 none, Cond.methodLink RX0 3 objectInit, Cond.classLink RX0 9 RX2, Cond.fieldLink RX0 11 "JoinBench$Chain" "forms" "[LJoinBench$Form;", Cond.classLink RX0 17 RX7, Cond.fieldLink RX0 19 "JoinBench$Chain" "rules" "[LJoinBench$Rule;", Cond.fieldLink RX0 23 "JoinBench$Chain" "size" "I", Cond.methodLink RX11 184 yX4_countLine, Cond.instanceMethod yX4_countLine, Cond.selects RX4 yX4_countLine yX4_countLine, Cond.code yX4_countLine cX4_countLine 4 none, Cond.methodLink RX4 56 yX3_setLine, Cond.instanceMethod yX3_setLine, Cond.selects RX3 yX3_setLine yX3_setLine, Cond.code yX3_setLine cX3_setLine 5 none, Cond.methodLink RX3 53 Lib.Math.min.name]
def wsX11_part_r5 : List Cond := [Cond.static Lib.Math.min.name, Cond.initialized "java/lang/Math", Cond.code Lib.Math.min.name Lib.Math.min.code 2 (some .int), Cond.methodLink RX3 59 yX9_rulesInForce, Cond.instanceMethod yX9_rulesInForce, Cond.selects RX9 yX9_rulesInForce yX9_rulesInForce, Cond.initialized RX9, Cond.code yX9_rulesInForce cX9_rulesInForce 4 (some .int), Cond.fieldLink RX9 27 "JoinBench$Tongue" "ruleCount" "I", Cond.fieldLink RX9 19 "JoinBench$Tongue" "rules" "[LJoinBench$Rule;", Cond.fieldLink RX9 59 "JoinBench$Rule" "firstDay" "I", Cond.fieldLink RX9 62 "JoinBench$Rule" "lastDay" "I", Cond.methodLink RX4 60 yX3_fill, Cond.instanceMethod yX3_fill, Cond.selects RX3 yX3_fill yX3_fill, Cond.code yX3_fill cX3_fill 5 (some .long), Cond.fieldLink RX3 65 "JoinBench$Tongue" "forbidden" "[Z", Cond.constant RX3 74 (1048576), Cond.fieldLink RX3 78 "JoinBench$Tongue" "formCount" "I", Cond.fieldLink RX3 81 "JoinBench$Tongue" "forms" "[LJoinBench$Form;", Cond.methodLink RX3 68 yJ7_fill_d0a16, Cond.static yJ7_fill_d0a16, Cond.initialized RJ7, Cond.code yJ7_fill_d0a16 cJ7_fill_d0a16 5 none]
def wsX11_part_r6 : List Cond := [Cond.methodLink RX3 75 yJ7_fill_53178, Cond.static yJ7_fill_53178, Cond.code yJ7_fill_53178 cJ7_fill_53178 4 none, Cond.methodLink RX3 85 yX3_setForm, Cond.instanceMethod yX3_setForm, Cond.selects RX3 yX3_setForm yX3_setForm, Cond.code yX3_setForm cX3_setForm 6 none, Cond.fieldLink RX3 96 "JoinBench$Form" "number" "I", Cond.methodLink RX3 101 yX3_sharedLetters, Cond.instanceMethod yX3_sharedLetters, Cond.selects RX3 yX3_sharedLetters yX3_sharedLetters, Cond.code yX3_sharedLetters cX3_sharedLetters 6 (some .int), Cond.fieldLink RX3 112 "JoinBench$Form" "letters" "[B", Cond.methodLink RX3 105 yX3_addPlainEnd, Cond.instanceMethod yX3_addPlainEnd, Cond.selects RX3 yX3_addPlainEnd yX3_addPlainEnd, Cond.code yX3_addPlainEnd cX3_addPlainEnd 6 none, Cond.methodLink RX3 115 yX3_addToState, Cond.instanceMethod yX3_addToState, Cond.selects RX3 yX3_addToState yX3_addToState, Cond.code yX3_addToState cX3_addToState 8 none, Cond.fieldLink RX3 145 "JoinBench$Form" "cost" "I", Cond.static yX11_capped, Cond.code yX11_capped cX11_capped 2 (some .long)]
def wsX11_part_r7 : List Cond := [Cond.constantLong RX11 257 (1000000000000000), Cond.methodLink RX11 259 Lib.MathLoose.min_long.x, Cond.static Lib.MathLoose.min_long.x, Cond.code Lib.MathLoose.min_long.x Lib.MathLoose.min_long.code 4 (some .long), Cond.methodLink RX3 109 yX3_addRuledEnds, Cond.instanceMethod yX3_addRuledEnds, Cond.selects RX3 yX3_addRuledEnds yX3_addRuledEnds, Cond.code yX3_addRuledEnds cX3_addRuledEnds 10 none, Cond.fieldLink RX3 119 "JoinBench$Form" "ends" "I", Cond.fieldLink RX3 122 "JoinBench$Tongue" "ruleCount" "I", Cond.fieldLink RX3 129 "JoinBench$Tongue" "rules" "[LJoinBench$Rule;", Cond.fieldLink RX3 137 "JoinBench$Form" "kind" "I", Cond.fieldLink RX3 140 "JoinBench$Rule" "cost" "I", Cond.static yX11_hasRule, Cond.code yX11_hasRule cX11_hasRule 2 (some .boolean), Cond.methodLink RX3 133 yX3_placeBehind, Cond.instanceMethod yX3_placeBehind, Cond.selects RX3 yX3_placeBehind yX3_placeBehind, Cond.code yX3_placeBehind cX3_placeBehind 8 (some .int), Cond.fieldLink RX3 166 "JoinBench$Rule" "endSize" "I", Cond.fieldLink RX3 169 "JoinBench$Rule" "comesFrom" "I", Cond.fieldLink RX3 172 "JoinBench$Rule" "comesSize" "I", Cond.methodLink RX3 175 yX7_stands, Cond.instanceMethod yX7_stands]
def wsX11_part_r8 : List Cond := [Cond.selects RX7 yX7_stands yX7_stands, Cond.initialized RX7, Cond.code yX7_stands cX7_stands 7 (some .boolean), Cond.fieldLink RX7 30 "JoinBench$Rule" "letters" "[B", Cond.methodLink RX3 89 yX3_gatherForm, Cond.instanceMethod yX3_gatherForm, Cond.selects RX3 yX3_gatherForm yX3_gatherForm, Cond.code yX3_gatherForm cX3_gatherForm 4 none, Cond.methodLink RX3 146 yX3_gatherPlain, Cond.instanceMethod yX3_gatherPlain, Cond.selects RX3 yX3_gatherPlain yX3_gatherPlain, Cond.code yX3_gatherPlain cX3_gatherPlain 5 none, Cond.methodLink RX3 153 yX3_canMeetPlain, Cond.instanceMethod yX3_canMeetPlain, Cond.selects RX3 yX3_canMeetPlain yX3_canMeetPlain, Cond.code yX3_canMeetPlain cX3_canMeetPlain 3 (some .boolean), Cond.fieldLink RX3 157 "JoinBench$Form" "begins" "I", Cond.methodLink RX3 149 yX3_gatherRuled, Cond.instanceMethod yX3_gatherRuled, Cond.selects RX3 yX3_gatherRuled yX3_gatherRuled, Cond.code yX3_gatherRuled cX3_gatherRuled 6 none, Cond.fieldLink RX3 160 "JoinBench$Rule" "beginningSize" "I", Cond.methodLink RX3 163 yX3_gatherBehindRule, Cond.instanceMethod yX3_gatherBehindRule]
def wsX11_part_r9 : List Cond := [Cond.selects RX3 yX3_gatherBehindRule yX3_gatherBehindRule, Cond.code yX3_gatherBehindRule cX3_gatherBehindRule 7 none, Cond.methodLink RX4 64 yX9_allMayMeet, Cond.instanceMethod yX9_allMayMeet, Cond.selects RX9 yX9_allMayMeet yX9_allMayMeet, Cond.code yX9_allMayMeet cX9_allMayMeet 2 (some .boolean), Cond.fieldLink RX9 30 "JoinBench$Tongue" "forbidden" "[Z", Cond.methodLink RX11 188 yX4_tell, Cond.instanceMethod yX4_tell, Cond.selects RX4 yX4_tell yX4_tell, Cond.code yX4_tell cX4_tell 2 none, Cond.fieldLink RX4 73 "JoinBench$Lattice" "size" "I", Cond.methodLink RX4 70 yX4_startPaths, Cond.instanceMethod yX4_startPaths, Cond.selects RX4 yX4_startPaths yX4_startPaths, Cond.code yX4_startPaths cX4_startPaths 3 none, Cond.fieldLink RX4 85 "JoinBench$Tongue" "formCount" "I", Cond.fieldLink RX4 88 "JoinBench$Lattice" "cheapest" "[[I", Cond.fieldLink RX4 96 "JoinBench$Path" "chain" "LJoinBench$Chain;", Cond.fieldLink RX4 100 "JoinBench$Chain" "size" "I", Cond.fieldLink RX4 115 "JoinBench$Path" "cost" "I", Cond.fieldLink RX4 118 "JoinBench$Path" "spent" "I", Cond.fieldLink RX4 121 "JoinBench$Path" "place" "I", Cond.fieldLink RX4 82 "JoinBench$Path" "ended" "Z"]
def wsX11_part_r10 : List Cond := [Cond.fieldLink RX4 127 "JoinBench$Path" "rank" "I", Cond.methodLink RX4 92 yX4_offer, Cond.instanceMethod yX4_offer, Cond.selects RX4 yX4_offer yX4_offer, Cond.code yX4_offer cX4_offer 7 none, Cond.constant RX4 200 (1048576), Cond.methodLink RX4 103 yX4_keyForm, Cond.static yX4_keyForm, Cond.code yX4_keyForm cX4_keyForm 1 (some .int), Cond.methodLink RX4 107 yX9_formAt, Cond.instanceMethod yX9_formAt, Cond.selects RX9 yX9_formAt yX9_formAt, Cond.code yX9_formAt cX9_formAt 2 (some (.object "JoinBench$Form")), Cond.fieldLink RX9 23 "JoinBench$Tongue" "formCount" "I", Cond.fieldLink RX9 11 "JoinBench$Tongue" "forms" "[LJoinBench$Form;", Cond.methodLink RX4 111 yX0_append, Cond.instanceMethod yX0_append, Cond.selects RX0 yX0_append yX0_append, Cond.code yX0_append cX0_append 3 none, Cond.methodLink RX4 124 yX4_rankOf, Cond.instanceMethod yX4_rankOf, Cond.selects RX4 yX4_rankOf yX4_rankOf, Cond.code yX4_rankOf cX4_rankOf 5 (some .int), Cond.methodLink RX4 76 yX4_allEnded]
def wsX11_part_r11 : List Cond := [Cond.instanceMethod yX4_allEnded, Cond.selects RX4 yX4_allEnded yX4_allEnded, Cond.code yX4_allEnded cX4_allEnded 2 (some .boolean), Cond.methodLink RX4 79 yX4_growPaths, Cond.instanceMethod yX4_growPaths, Cond.selects RX4 yX4_growPaths yX4_growPaths, Cond.code yX4_growPaths cX4_growPaths 2 none, Cond.methodLink RX4 130 yX4_offerPlainSteps, Cond.instanceMethod yX4_offerPlainSteps, Cond.selects RX4 yX4_offerPlainSteps yX4_offerPlainSteps, Cond.code yX4_offerPlainSteps cX4_offerPlainSteps 8 none, Cond.fieldLink RX4 153 "JoinBench$Form" "cost" "I", Cond.fieldLink RX4 156 "JoinBench$Form" "letters" "[B", Cond.fieldLink RX4 160 "JoinBench$Tongue" "forms" "[LJoinBench$Form;", Cond.methodLink RX4 141 yX0_last, Cond.instanceMethod yX0_last, Cond.selects RX0 yX0_last yX0_last, Cond.code yX0_last cX0_last 1 (some (.object "JoinBench$Form")), Cond.methodLink RX0 27 yX0_formAt, Cond.instanceMethod yX0_formAt, Cond.selects RX0 yX0_formAt yX0_formAt, Cond.code yX0_formAt cX0_formAt 2 (some (.object "JoinBench$Form")), Cond.methodLink RX4 145 yX0_lastCut, Cond.instanceMethod yX0_lastCut]
def wsX11_part_r12 : List Cond := [Cond.selects RX0 yX0_lastCut yX0_lastCut, Cond.code yX0_lastCut cX0_lastCut 1 (some .int), Cond.methodLink RX0 31 yX0_cutAtBeginning, Cond.instanceMethod yX0_cutAtBeginning, Cond.selects RX0 yX0_cutAtBeginning yX0_cutAtBeginning, Cond.code yX0_cutAtBeginning cX0_cutAtBeginning 3 (some .int), Cond.fieldLink RX0 39 "JoinBench$Rule" "beginningSize" "I", Cond.methodLink RX0 35 yX0_ruleAheadOf, Cond.instanceMethod yX0_ruleAheadOf, Cond.selects RX0 yX0_ruleAheadOf yX0_ruleAheadOf, Cond.code yX0_ruleAheadOf cX0_ruleAheadOf 2 (some (.object "JoinBench$Rule")), Cond.methodLink RX4 149 yX3_sharedLetters, Cond.methodLink RX4 164 yX3_canMeetPlain, Cond.methodLink RX4 134 yX4_offerRuledSteps, Cond.instanceMethod yX4_offerRuledSteps, Cond.selects RX4 yX4_offerRuledSteps yX4_offerRuledSteps, Cond.code yX4_offerRuledSteps cX4_offerRuledSteps 7 none, Cond.fieldLink RX4 168 "JoinBench$Tongue" "ruleCount" "I", Cond.fieldLink RX4 171 "JoinBench$Form" "ends" "I", Cond.fieldLink RX4 178 "JoinBench$Tongue" "rules" "[LJoinBench$Rule;", Cond.methodLink RX4 182 yX3_placeBehind, Cond.methodLink RX4 186 yX4_offerStepsBehind, Cond.instanceMethod yX4_offerStepsBehind, Cond.selects RX4 yX4_offerStepsBehind yX4_offerStepsBehind]
def wsX11_part_r13 : List Cond := [Cond.code yX4_offerStepsBehind cX4_offerStepsBehind 9 none, Cond.fieldLink RX4 190 "JoinBench$Rule" "cost" "I", Cond.fieldLink RX4 197 "JoinBench$Rule" "beginningSize" "I", Cond.methodLink RX4 193 yX3_canMeetBy, Cond.instanceMethod yX3_canMeetBy, Cond.selects RX3 yX3_canMeetBy yX3_canMeetBy, Cond.code yX3_canMeetBy cX3_canMeetBy 4 (some .boolean), Cond.methodLink RX4 137 yX4_grow, Cond.instanceMethod yX4_grow, Cond.selects RX4 yX4_grow yX4_grow, Cond.code yX4_grow cX4_grow 8 none, Cond.fieldLink RX4 213 "JoinBench$Rule" "comesSize" "I", Cond.fieldLink RX4 216 "JoinBench$Rule" "endSize" "I", Cond.methodLink RX4 201 yX4_pathOfRank, Cond.instanceMethod yX4_pathOfRank, Cond.selects RX4 yX4_pathOfRank yX4_pathOfRank, Cond.code yX4_pathOfRank cX4_pathOfRank 3 (some (.object "JoinBench$Path")), Cond.methodLink RX4 205 yX0_copyFrom, Cond.instanceMethod yX0_copyFrom, Cond.selects RX0 yX0_copyFrom yX0_copyFrom, Cond.code yX0_copyFrom cX0_copyFrom 3 none, Cond.methodLink RX4 209 yX9_ruleAt, Cond.instanceMethod yX9_ruleAt, Cond.selects RX9 yX9_ruleAt yX9_ruleAt]
def wsX11_part_r14 : List Cond := [Cond.code yX9_ruleAt cX9_ruleAt 2 (some (.object "JoinBench$Rule"))]
def wsX11_part : List Cond := .code yX11_part cX11_part 4 (some .long) :: ((wsX11_part_r1 ++ (wsX11_part_r2 ++ (wsX11_part_r3 ++ (wsX11_part_r4 ++ (wsX11_part_r5 ++ (wsX11_part_r6 ++ (wsX11_part_r7 ++ (wsX11_part_r8 ++ (wsX11_part_r9 ++ (wsX11_part_r10 ++ (wsX11_part_r11 ++ (wsX11_part_r12 ++ (wsX11_part_r13 ++ wsX11_part_r14))))))))))))) ++ wsX110 ++ wsX80 ++ wsX40 ++ wsX30 ++ wsX50 ++ wsX00 ++ wsX90 ++ wsX70 ++ wsX20)
def wsX11_parted : List Cond := .code yX11_parted cX11_parted 2 (some .long) :: ([.fieldLink RX11 44 "JoinBench" "parter" "LJoinBench$Parter;", .constantLong RX11 174 (-1), .fieldLink RX11 195 "JoinBench$Parter" "countedUncut" "J", .fieldLink RX11 191 "JoinBench$Parter" "counted" "J", .fieldLink RX11 198 "JoinBench$Parter" "left" "Z", .fieldLink RX11 202 "JoinBench$Parter" "toldCount" "I"] ++ wsX110 ++ wsX40)
def wsX11_toldPath : List Cond := .code yX11_toldPath cX11_toldPath 2 (some (.object "JoinBench$Path")) :: ([.fieldLink RX11 44 "JoinBench" "parter" "LJoinBench$Parter;", .fieldLink RX11 202 "JoinBench$Parter" "toldCount" "I", .fieldLink RX11 283 "JoinBench$Parter" "told" "[LJoinBench$Path;"] ++ wsX110 ++ wsX40)
def wsX11_parting : List Cond := .code yX11_parting cX11_parting 5 (some .int) :: ([.fieldLink RX11 209 "JoinBench$Path" "cost" "I", .fieldLink RX11 212 "JoinBench$Path" "chain" "LJoinBench$Chain;", .fieldLink RX11 139 "JoinBench$Chain" "size" "I", .methodLink RX11 205 yX11_toldPath, .instanceMethod yX11_toldPath, .selects RX11 yX11_toldPath yX11_toldPath, .initialized RX11, .code yX11_toldPath cX11_toldPath 2 (some (.object "JoinBench$Path")), .fieldLink RX11 44 "JoinBench" "parter" "LJoinBench$Parter;", .fieldLink RX11 202 "JoinBench$Parter" "toldCount" "I", .fieldLink RX11 283 "JoinBench$Parter" "told" "[LJoinBench$Path;"] ++ wsX50 ++ wsX00 ++ wsX110 ++ wsX40)
def wsX11_formOf : List Cond := .code yX11_formOf cX11_formOf 5 (some .int) :: ([.fieldLink RX11 212 "JoinBench$Path" "chain" "LJoinBench$Chain;", .fieldLink RX11 214 "JoinBench$Form" "number" "I", .methodLink RX11 205 yX11_toldPath, .instanceMethod yX11_toldPath, .selects RX11 yX11_toldPath yX11_toldPath, .initialized RX11, .code yX11_toldPath cX11_toldPath 2 (some (.object "JoinBench$Path")), .fieldLink RX11 44 "JoinBench" "parter" "LJoinBench$Parter;", .fieldLink RX11 202 "JoinBench$Parter" "toldCount" "I", .fieldLink RX11 283 "JoinBench$Parter" "told" "[LJoinBench$Path;", .methodLink RX11 213 yX0_formAt, .instanceMethod yX0_formAt, .selects RX0 yX0_formAt yX0_formAt, .initialized RX0, .code yX0_formAt cX0_formAt 2 (some (.object "JoinBench$Form")), .fieldLink RX0 23 "JoinBench$Chain" "size" "I", .fieldLink RX0 11 "JoinBench$Chain" "forms" "[LJoinBench$Form;"] ++ wsX50 ++ wsX20 ++ wsX110 ++ wsX40 ++ wsX00)
def wsX11_ruleOf : List Cond := .code yX11_ruleOf cX11_ruleOf 5 (some .int) :: ([.fieldLink RX11 212 "JoinBench$Path" "chain" "LJoinBench$Chain;", .fieldLink RX11 220 "JoinBench$Rule" "number" "I", .methodLink RX11 205 yX11_toldPath, .instanceMethod yX11_toldPath, .selects RX11 yX11_toldPath yX11_toldPath, .initialized RX11, .code yX11_toldPath cX11_toldPath 2 (some (.object "JoinBench$Path")), .fieldLink RX11 44 "JoinBench" "parter" "LJoinBench$Parter;", .fieldLink RX11 202 "JoinBench$Parter" "toldCount" "I", .fieldLink RX11 283 "JoinBench$Parter" "told" "[LJoinBench$Path;", .methodLink RX11 217 yX0_ruleAheadOf, .instanceMethod yX0_ruleAheadOf, .selects RX0 yX0_ruleAheadOf yX0_ruleAheadOf, .initialized RX0, .code yX0_ruleAheadOf cX0_ruleAheadOf 2 (some (.object "JoinBench$Rule")), .fieldLink RX0 23 "JoinBench$Chain" "size" "I", .fieldLink RX0 19 "JoinBench$Chain" "rules" "[LJoinBench$Rule;"] ++ wsX50 ++ wsX70 ++ wsX110 ++ wsX40 ++ wsX00)
def wsX11_trees_r1 : List Cond := [Cond.constantLong RX11 174 (-1), Cond.fieldLink RX11 33 "JoinBench" "trees" "LJoinBench$Trees;", Cond.fieldLink RX11 212 "JoinBench$Path" "chain" "LJoinBench$Chain;", Cond.methodLink RX11 205 yX11_toldPath, Cond.instanceMethod yX11_toldPath, Cond.selects RX11 yX11_toldPath yX11_toldPath, Cond.initialized RX11, Cond.code yX11_toldPath cX11_toldPath 2 (some (.object "JoinBench$Path")), Cond.fieldLink RX11 44 "JoinBench" "parter" "LJoinBench$Parter;", Cond.fieldLink RX11 202 "JoinBench$Parter" "toldCount" "I", Cond.fieldLink RX11 283 "JoinBench$Parter" "told" "[LJoinBench$Path;", Cond.methodLink RX11 70 yX11_isKind, Cond.static yX11_isKind, Cond.code yX11_isKind cX11_isKind 1 (some .boolean), Cond.methodLink RX11 63 yX11_within, Cond.static yX11_within, Cond.code yX11_within cX11_within 3 (some .boolean), Cond.methodLink RX11 221 yX10_waysTo, Cond.instanceMethod yX10_waysTo, Cond.selects RX10 yX10_waysTo yX10_waysTo, Cond.initialized RX10, Cond.code yX10_waysTo cX10_waysTo 5 (some .long), Cond.fieldLink RX10 15 "JoinBench$Trees" "ways" "[[J", Cond.classLink RX10 25 "[[J"]
def wsX11_trees_r2 : List Cond := [Cond.arrayClass .long, Cond.fieldLink RX10 26 "JoinBench$Chain" "size" "I", Cond.fieldLink RX10 35 "JoinBench$Chain" "forms" "[LJoinBench$Form;", Cond.fieldLink RX10 39 "JoinBench$Form" "kind" "I", Cond.methodLink RX10 32 yJ7_fill_d0a16, Cond.static yJ7_fill_d0a16, Cond.initialized RJ7, Cond.code yJ7_fill_d0a16 cJ7_fill_d0a16 5 none, Cond.methodLink RX10 44 yX10_addSplits, Cond.instanceMethod yX10_addSplits, Cond.selects RX10 yX10_addSplits yX10_addSplits, Cond.code yX10_addSplits cX10_addSplits 7 none, Cond.methodLink RX10 48 yX10_addSeconds, Cond.instanceMethod yX10_addSeconds, Cond.selects RX10 yX10_addSeconds yX10_addSeconds, Cond.code yX10_addSeconds cX10_addSeconds 14 none, Cond.fieldLink RX10 9 "JoinBench$Trees" "kinds" "[I", Cond.methodLink RX10 52 yX10_cappedProduct, Cond.static yX10_cappedProduct, Cond.code yX10_cappedProduct cX10_cappedProduct 4 (some .long), Cond.constantLong RX10 60 (1000000000000000), Cond.static yX11_capped, Cond.code yX11_capped cX11_capped 2 (some .long), Cond.constantLong RX11 257 (1000000000000000)]
def wsX11_trees_r3 : List Cond := [Cond.methodLink RX11 259 Lib.MathLoose.min_long.x, Cond.static Lib.MathLoose.min_long.x, Cond.initialized "java/lang/Math", Cond.code Lib.MathLoose.min_long.x Lib.MathLoose.min_long.code 4 (some .long)]
def wsX11_trees : List Cond := .code yX11_trees cX11_trees 4 (some .long) :: ((wsX11_trees_r1 ++ (wsX11_trees_r2 ++ wsX11_trees_r3)) ++ wsX110 ++ wsX50 ++ wsX40 ++ wsX100 ++ wsX00 ++ wsX20)
def wsX11_choose_r1 : List Cond := [Cond.fieldLink RX11 40 "JoinBench" "choices" "LJoinBench$Choices;", Cond.fieldLink RX11 19 "JoinBench" "tongue" "LJoinBench$Tongue;", Cond.fieldLink RX11 212 "JoinBench$Path" "chain" "LJoinBench$Chain;", Cond.fieldLink RX11 48 "JoinBench" "step" "I", Cond.fieldLink RX11 232 "JoinBench$Choices" "size" "I", Cond.methodLink RX11 205 yX11_toldPath, Cond.instanceMethod yX11_toldPath, Cond.selects RX11 yX11_toldPath yX11_toldPath, Cond.initialized RX11, Cond.code yX11_toldPath cX11_toldPath 2 (some (.object "JoinBench$Path")), Cond.fieldLink RX11 44 "JoinBench" "parter" "LJoinBench$Parter;", Cond.fieldLink RX11 202 "JoinBench$Parter" "toldCount" "I", Cond.fieldLink RX11 283 "JoinBench$Parter" "told" "[LJoinBench$Path;", Cond.methodLink RX11 225 yX1_remember, Cond.instanceMethod yX1_remember, Cond.selects RX1 yX1_remember yX1_remember, Cond.initialized RX1, Cond.code yX1_remember cX1_remember 4 none, Cond.fieldLink RX1 15 "JoinBench$Choices" "size" "I", Cond.fieldLink RX1 30 "JoinBench$Choices" "oldest" "I", Cond.fieldLink RX1 33 "JoinBench$Tongue" "formCount" "I", Cond.fieldLink RX1 21 "JoinBench$Choices" "costsBefore" "[[I", Cond.fieldLink RX1 38 "JoinBench$Tongue" "forms" "[LJoinBench$Form;", Cond.fieldLink RX1 42 "JoinBench$Form" "cost" "I"]
def wsX11_choose_r2 : List Cond := [Cond.fieldLink RX1 27 "JoinBench$Choices" "formsBefore" "[I", Cond.fieldLink RX1 9 "JoinBench$Choices" "uses" "[I", Cond.fieldLink RX1 24 "JoinBench$Choices" "usesBefore" "[[I", Cond.methodLink RX1 47 arraycopyName, Cond.native arraycopyName, Cond.static arraycopyName, Cond.initialized "java/lang/System", Cond.methodLink RX11 228 yX1_learn, Cond.instanceMethod yX1_learn, Cond.selects RX1 yX1_learn yX1_learn, Cond.code yX1_learn cX1_learn 7 none, Cond.fieldLink RX1 53 "JoinBench$Chain" "size" "I", Cond.fieldLink RX1 56 "JoinBench$Chain" "forms" "[LJoinBench$Form;", Cond.fieldLink RX1 57 "JoinBench$Form" "stem" "I", Cond.fieldLink RX1 60 "JoinBench$Form" "number" "I", Cond.methodLink RX1 63 Lib.Math.max.name, Cond.static Lib.Math.max.name, Cond.initialized "java/lang/Math", Cond.code Lib.Math.max.name Lib.Math.max.code 2 (some .int)]
def wsX11_choose : List Cond := .code yX11_choose cX11_choose 3 (some .int) :: ((wsX11_choose_r1 ++ wsX11_choose_r2) ++ wsX110 ++ wsX50 ++ wsX10 ++ wsX40 ++ wsX90 ++ wsX20 ++ wsX00)
def wsX11_undo : List Cond := .code yX11_undo cX11_undo 1 (some .boolean) :: ([.fieldLink RX11 40 "JoinBench" "choices" "LJoinBench$Choices;", .fieldLink RX11 19 "JoinBench" "tongue" "LJoinBench$Tongue;", .methodLink RX11 233 yX1_restore, .instanceMethod yX1_restore, .selects RX1 yX1_restore yX1_restore, .initialized RX1, .code yX1_restore cX1_restore 4 (some .boolean), .fieldLink RX1 15 "JoinBench$Choices" "size" "I", .fieldLink RX1 30 "JoinBench$Choices" "oldest" "I", .fieldLink RX1 27 "JoinBench$Choices" "formsBefore" "[I", .fieldLink RX1 33 "JoinBench$Tongue" "formCount" "I", .fieldLink RX1 38 "JoinBench$Tongue" "forms" "[LJoinBench$Form;", .fieldLink RX1 21 "JoinBench$Choices" "costsBefore" "[[I", .fieldLink RX1 42 "JoinBench$Form" "cost" "I", .fieldLink RX1 24 "JoinBench$Choices" "usesBefore" "[[I", .fieldLink RX1 9 "JoinBench$Choices" "uses" "[I", .methodLink RX1 47 arraycopyName, .native arraycopyName, .static arraycopyName, .initialized "java/lang/System"] ++ wsX110 ++ wsX10 ++ wsX90 ++ wsX20)
def wsX11_step : List Cond := .code yX11_step cX11_step 3 (some .int) :: ([.fieldLink RX11 48 "JoinBench" "step" "I", .methodLink RX11 63 yX11_within, .static yX11_within, .initialized RX11, .code yX11_within cX11_within 3 (some .boolean)] ++ wsX110)
def wsX11_uses : List Cond := .code yX11_uses cX11_uses 2 (some .int) :: ([.fieldLink RX11 40 "JoinBench" "choices" "LJoinBench$Choices;", .fieldLink RX11 237 "JoinBench$Choices" "uses" "[I", .methodLink RX11 73 yX11_isStem, .static yX11_isStem, .initialized RX11, .code yX11_isStem cX11_isStem 1 (some .boolean), .methodLink RX11 63 yX11_within, .static yX11_within, .code yX11_within cX11_within 3 (some .boolean)] ++ wsX110 ++ wsX10)
def wsX11_about : List Cond := .code yX11_about cX11_about 4 (some .int) :: ([.fieldLink RX11 19 "JoinBench" "tongue" "LJoinBench$Tongue;", .fieldLink RX11 241 "JoinBench$Form" "kind" "I", .fieldLink RX11 244 "JoinBench$Form" "stem" "I", .fieldLink RX11 111 "JoinBench$Form" "cost" "I", .fieldLink RX11 247 "JoinBench$Form" "kept" "Z", .fieldLink RX11 250 "JoinBench$Form" "letters" "[B", .methodLink RX11 107 yX9_formAt, .instanceMethod yX9_formAt, .selects RX9 yX9_formAt yX9_formAt, .initialized RX9, .code yX9_formAt cX9_formAt 2 (some (.object "JoinBench$Form")), .fieldLink RX9 23 "JoinBench$Tongue" "formCount" "I", .fieldLink RX9 11 "JoinBench$Tongue" "forms" "[LJoinBench$Form;"] ++ wsX110 ++ wsX20 ++ wsX90)
def wsX11_count : List Cond := .code yX11_count cX11_count 2 (some .int) :: ([.fieldLink RX11 19 "JoinBench" "tongue" "LJoinBench$Tongue;", .fieldLink RX11 67 "JoinBench$Tongue" "formCount" "I", .fieldLink RX11 92 "JoinBench$Tongue" "ruleCount" "I", .fieldLink RX11 12 "JoinBench" "tape" "LJoinBench$Tape;", .fieldLink RX11 60 "JoinBench$Tape" "size" "I", .fieldLink RX11 26 "JoinBench" "row" "LJoinBench$Row;", .fieldLink RX11 164 "JoinBench$Row" "outSize" "I", .fieldLink RX11 135 "JoinBench$Row" "chain" "LJoinBench$Chain;", .fieldLink RX11 139 "JoinBench$Chain" "size" "I", .fieldLink RX11 40 "JoinBench" "choices" "LJoinBench$Choices;", .fieldLink RX11 232 "JoinBench$Choices" "size" "I", .fieldLink RX11 48 "JoinBench" "step" "I", .methodLink RX11 253 yX0_price, .instanceMethod yX0_price, .selects RX0 yX0_price yX0_price, .initialized RX0, .code yX0_price cX0_price 3 (some .int), .fieldLink RX0 23 "JoinBench$Chain" "size" "I", .fieldLink RX0 11 "JoinBench$Chain" "forms" "[LJoinBench$Form;", .fieldLink RX0 45 "JoinBench$Form" "cost" "I", .fieldLink RX0 19 "JoinBench$Chain" "rules" "[LJoinBench$Rule;", .fieldLink RX0 48 "JoinBench$Rule" "cost" "I"] ++ wsX110 ++ wsX90 ++ wsX80 ++ wsX60 ++ wsX00 ++ wsX10 ++ wsX20 ++ wsX70)
def wsX12_init_r1 : List Cond := [Cond.methodLink RX12 1 objectInit, Cond.instanceMethod objectInit, Cond.code objectInit ⟨#[0xb1]⟩ 1 none, Cond.arrayClass .byte, Cond.fieldLink RX12 7 "JoinBenchModel" "tape" "[B", Cond.fieldLink RX12 13 "JoinBenchModel" "letters" "[B", Cond.arrayClass .int, Cond.fieldLink RX12 16 "JoinBenchModel" "size" "[I", Cond.fieldLink RX12 20 "JoinBenchModel" "kind" "[I", Cond.fieldLink RX12 23 "JoinBenchModel" "stem" "[I", Cond.fieldLink RX12 26 "JoinBenchModel" "cost" "[I", Cond.arrayClass .boolean, Cond.fieldLink RX12 29 "JoinBenchModel" "isKept" "[Z", Cond.fieldLink RX12 33 "JoinBenchModel" "ruleText" "[B", Cond.fieldLink RX12 36 "JoinBenchModel" "ends" "[I", Cond.fieldLink RX12 39 "JoinBenchModel" "begins" "[I", Cond.fieldLink RX12 42 "JoinBenchModel" "comes" "[I", Cond.fieldLink RX12 45 "JoinBenchModel" "ruleCost" "[I", Cond.fieldLink RX12 48 "JoinBenchModel" "ruleFirst" "[I", Cond.fieldLink RX12 51 "JoinBenchModel" "ruleLast" "[I", Cond.fieldLink RX12 54 "JoinBenchModel" "mayNot" "[Z", Cond.fieldLink RX12 57 "JoinBenchModel" "tree" "[I", Cond.fieldLink RX12 60 "JoinBenchModel" "uses" "[I", Cond.fieldLink RX12 63 "JoinBenchModel" "step" "I"]
def wsX12_init_r2 : List Cond := [Cond.fieldLink RX12 67 "JoinBenchModel" "rowForm" "[I", Cond.fieldLink RX12 70 "JoinBenchModel" "rowRule" "[I", Cond.fieldLink RX12 73 "JoinBenchModel" "out" "[B", Cond.fieldLink RX12 76 "JoinBenchModel" "line" "[B", Cond.fieldLink RX12 79 "JoinBenchModel" "fit" "[I", Cond.fieldLink RX12 82 "JoinBenchModel" "isCome" "[Z", Cond.arrayClass .long, Cond.fieldLink RX12 85 "JoinBenchModel" "ways" "[J", Cond.constant RX12 89 (52480), Cond.fieldLink RX12 90 "JoinBenchModel" "best" "[I", Cond.fieldLink RX12 93 "JoinBenchModel" "bestMany" "[I", Cond.fieldLink RX12 96 "JoinBenchModel" "toldCost" "[I", Cond.fieldLink RX12 99 "JoinBenchModel" "toldMany" "[I", Cond.fieldLink RX12 102 "JoinBenchModel" "toldForm" "[I", Cond.fieldLink RX12 105 "JoinBenchModel" "toldRule" "[I", Cond.fieldLink RX12 108 "JoinBenchModel" "nextOf" "[I", Cond.fieldLink RX12 111 "JoinBenchModel" "grown" "[J", Cond.fieldLink RX12 114 "JoinBenchModel" "formsThen" "[I", Cond.fieldLink RX12 117 "JoinBenchModel" "were" "[I"]
def wsX12_init : List Cond := .code yX12_init cX12_init 2 none :: ((wsX12_init_r1 ++ wsX12_init_r2) ++ wsX120)
def wsX12_in : List Cond := .code yX12_in cX12_in 3 (some .boolean) :: ([])
def wsX12_four : List Cond := .code yX12_four cX12_four 3 none :: ([.fieldLink RX12 7 "JoinBenchModel" "tape" "[B", .fieldLink RX12 120 "JoinBenchModel" "taped" "I"] ++ wsX120)
def wsX12_feed : List Cond := .code yX12_feed cX12_feed 6 (some .int) :: ([.fieldLink RX12 120 "JoinBenchModel" "taped" "I", .methodLink RX12 123 yX12_four, .instanceMethod yX12_four, .selects RX12 yX12_four yX12_four, .initialized RX12, .code yX12_four cX12_four 3 none, .fieldLink RX12 7 "JoinBenchModel" "tape" "[B"] ++ wsX120)
def wsX12_end : List Cond := .code yX12_end cX12_end 2 (some .int) :: ([.fieldLink RX12 120 "JoinBenchModel" "taped" "I"] ++ wsX120)
def wsX12_isText : List Cond := .code yX12_isText cX12_isText 2 (some .boolean) :: ([.fieldLink RX12 120 "JoinBenchModel" "taped" "I", .fieldLink RX12 7 "JoinBenchModel" "tape" "[B"] ++ wsX120)
def wsX12_form : List Cond := .code yX12_form cX12_form 8 (some .int) :: ([.fieldLink RX12 120 "JoinBenchModel" "taped" "I", .fieldLink RX12 131 "JoinBenchModel" "forms" "I", .fieldLink RX12 13 "JoinBenchModel" "letters" "[B", .fieldLink RX12 7 "JoinBenchModel" "tape" "[B", .fieldLink RX12 16 "JoinBenchModel" "size" "[I", .fieldLink RX12 20 "JoinBenchModel" "kind" "[I", .fieldLink RX12 23 "JoinBenchModel" "stem" "[I", .fieldLink RX12 26 "JoinBenchModel" "cost" "[I", .fieldLink RX12 29 "JoinBenchModel" "isKept" "[Z", .methodLink RX12 127 yX12_isText, .instanceMethod yX12_isText, .selects RX12 yX12_isText yX12_isText, .initialized RX12, .code yX12_isText cX12_isText 2 (some .boolean), .methodLink RX12 134 yX12_in, .static yX12_in, .code yX12_in cX12_in 3 (some .boolean)] ++ wsX120)
def wsX12_rule : List Cond := .code yX12_rule cX12_rule 9 (some .int) :: ([.fieldLink RX12 120 "JoinBenchModel" "taped" "I", .fieldLink RX12 138 "JoinBenchModel" "rules" "I", .fieldLink RX12 33 "JoinBenchModel" "ruleText" "[B", .fieldLink RX12 7 "JoinBenchModel" "tape" "[B", .fieldLink RX12 36 "JoinBenchModel" "ends" "[I", .fieldLink RX12 39 "JoinBenchModel" "begins" "[I", .fieldLink RX12 42 "JoinBenchModel" "comes" "[I", .fieldLink RX12 45 "JoinBenchModel" "ruleCost" "[I", .fieldLink RX12 48 "JoinBenchModel" "ruleFirst" "[I", .fieldLink RX12 51 "JoinBenchModel" "ruleLast" "[I", .methodLink RX12 127 yX12_isText, .instanceMethod yX12_isText, .selects RX12 yX12_isText yX12_isText, .initialized RX12, .code yX12_isText cX12_isText 2 (some .boolean), .methodLink RX12 134 yX12_in, .static yX12_in, .code yX12_in cX12_in 3 (some .boolean)] ++ wsX120)
def wsX12_isForm : List Cond := .code yX12_isForm cX12_isForm 2 (some .boolean) :: ([.fieldLink RX12 131 "JoinBenchModel" "forms" "I", .methodLink RX12 134 yX12_in, .static yX12_in, .initialized RX12, .code yX12_in cX12_in 3 (some .boolean)] ++ wsX120)
def wsX12_cost : List Cond := .code yX12_cost cX12_cost 4 (some .int) :: ([.fieldLink RX12 26 "JoinBenchModel" "cost" "[I", .methodLink RX12 141 yX12_isForm, .instanceMethod yX12_isForm, .selects RX12 yX12_isForm yX12_isForm, .initialized RX12, .code yX12_isForm cX12_isForm 2 (some .boolean), .fieldLink RX12 131 "JoinBenchModel" "forms" "I", .methodLink RX12 134 yX12_in, .static yX12_in, .code yX12_in cX12_in 3 (some .boolean)] ++ wsX120)
def wsX12_isKind : List Cond := .code yX12_isKind cX12_isKind 1 (some .boolean) :: ([.methodLink RX12 134 yX12_in, .static yX12_in, .initialized RX12, .code yX12_in cX12_in 3 (some .boolean)])
def wsX12_meets : List Cond := .code yX12_meets cX12_meets 4 (some .boolean) :: ([.fieldLink RX12 54 "JoinBenchModel" "mayNot" "[Z", .methodLink RX12 145 yX12_isKind, .static yX12_isKind, .initialized RX12, .code yX12_isKind cX12_isKind 1 (some .boolean), .methodLink RX12 134 yX12_in, .static yX12_in, .code yX12_in cX12_in 3 (some .boolean)] ++ wsX120)
def wsX12_becomes : List Cond := .code yX12_becomes cX12_becomes 5 (some .int) :: ([.fieldLink RX12 57 "JoinBenchModel" "tree" "[I", .methodLink RX12 145 yX12_isKind, .static yX12_isKind, .initialized RX12, .code yX12_isKind cX12_isKind 1 (some .boolean), .methodLink RX12 134 yX12_in, .static yX12_in, .code yX12_in cX12_in 3 (some .boolean)] ++ wsX120)
def wsX12_fitsTwo : List Cond := .code yX12_fitsTwo cX12_fitsTwo 6 (some .boolean) :: ([.fieldLink RX12 29 "JoinBenchModel" "isKept" "[Z", .fieldLink RX12 48 "JoinBenchModel" "ruleFirst" "[I", .fieldLink RX12 51 "JoinBenchModel" "ruleLast" "[I", .fieldLink RX12 36 "JoinBenchModel" "ends" "[I", .fieldLink RX12 16 "JoinBenchModel" "size" "[I", .fieldLink RX12 39 "JoinBenchModel" "begins" "[I", .fieldLink RX12 13 "JoinBenchModel" "letters" "[B", .fieldLink RX12 33 "JoinBenchModel" "ruleText" "[B"] ++ wsX120)
def wsX12_isDay : List Cond := .code yX12_isDay cX12_isDay 1 (some .boolean) :: ([.methodLink RX12 134 yX12_in, .static yX12_in, .initialized RX12, .code yX12_in cX12_in 3 (some .boolean)])
def wsX12_fits_r1 : List Cond := [Cond.fieldLink RX12 138 "JoinBenchModel" "rules" "I", Cond.methodLink RX12 141 yX12_isForm, Cond.instanceMethod yX12_isForm, Cond.selects RX12 yX12_isForm yX12_isForm, Cond.initialized RX12, Cond.code yX12_isForm cX12_isForm 2 (some .boolean), Cond.fieldLink RX12 131 "JoinBenchModel" "forms" "I", Cond.methodLink RX12 134 yX12_in, Cond.static yX12_in, Cond.code yX12_in cX12_in 3 (some .boolean), Cond.methodLink RX12 148 yX12_isDay, Cond.static yX12_isDay, Cond.code yX12_isDay cX12_isDay 1 (some .boolean), Cond.methodLink RX12 151 yX12_fitsTwo, Cond.instanceMethod yX12_fitsTwo, Cond.selects RX12 yX12_fitsTwo yX12_fitsTwo, Cond.code yX12_fitsTwo cX12_fitsTwo 6 (some .boolean), Cond.fieldLink RX12 29 "JoinBenchModel" "isKept" "[Z", Cond.fieldLink RX12 48 "JoinBenchModel" "ruleFirst" "[I", Cond.fieldLink RX12 51 "JoinBenchModel" "ruleLast" "[I", Cond.fieldLink RX12 36 "JoinBenchModel" "ends" "[I", Cond.fieldLink RX12 16 "JoinBenchModel" "size" "[I", Cond.fieldLink RX12 39 "JoinBenchModel" "begins" "[I", Cond.fieldLink RX12 13 "JoinBenchModel" "letters" "[B"]
def wsX12_fits_r2 : List Cond := [Cond.fieldLink RX12 33 "JoinBenchModel" "ruleText" "[B"]
def wsX12_fits : List Cond := .code yX12_fits cX12_fits 6 (some .int) :: ((wsX12_fits_r1 ++ wsX12_fits_r2) ++ wsX120)
def wsX12_fitting_r1 : List Cond := [Cond.fieldLink RX12 138 "JoinBenchModel" "rules" "I", Cond.methodLink RX12 141 yX12_isForm, Cond.instanceMethod yX12_isForm, Cond.selects RX12 yX12_isForm yX12_isForm, Cond.initialized RX12, Cond.code yX12_isForm cX12_isForm 2 (some .boolean), Cond.fieldLink RX12 131 "JoinBenchModel" "forms" "I", Cond.methodLink RX12 134 yX12_in, Cond.static yX12_in, Cond.code yX12_in cX12_in 3 (some .boolean), Cond.methodLink RX12 148 yX12_isDay, Cond.static yX12_isDay, Cond.code yX12_isDay cX12_isDay 1 (some .boolean), Cond.methodLink RX12 151 yX12_fitsTwo, Cond.instanceMethod yX12_fitsTwo, Cond.selects RX12 yX12_fitsTwo yX12_fitsTwo, Cond.code yX12_fitsTwo cX12_fitsTwo 6 (some .boolean), Cond.fieldLink RX12 29 "JoinBenchModel" "isKept" "[Z", Cond.fieldLink RX12 48 "JoinBenchModel" "ruleFirst" "[I", Cond.fieldLink RX12 51 "JoinBenchModel" "ruleLast" "[I", Cond.fieldLink RX12 36 "JoinBenchModel" "ends" "[I", Cond.fieldLink RX12 16 "JoinBenchModel" "size" "[I", Cond.fieldLink RX12 39 "JoinBenchModel" "begins" "[I", Cond.fieldLink RX12 13 "JoinBenchModel" "letters" "[B"]
def wsX12_fitting_r2 : List Cond := [Cond.fieldLink RX12 33 "JoinBenchModel" "ruleText" "[B"]
def wsX12_fitting : List Cond := .code yX12_fitting cX12_fitting 7 (some .int) :: ((wsX12_fitting_r1 ++ wsX12_fitting_r2) ++ wsX120)
def wsX12_row : List Cond := .code yX12_row cX12_row 3 (some .int) :: ([.fieldLink RX12 155 "JoinBenchModel" "rowMany" "I", .fieldLink RX12 158 "JoinBenchModel" "rowDay" "I", .methodLink RX12 148 yX12_isDay, .static yX12_isDay, .initialized RX12, .code yX12_isDay cX12_isDay 1 (some .boolean), .methodLink RX12 134 yX12_in, .static yX12_in, .code yX12_in cX12_in 3 (some .boolean)] ++ wsX120)
def wsX12_cutOf : List Cond := .code yX12_cutOf cX12_cutOf 2 (some .int) :: ([.fieldLink RX12 70 "JoinBenchModel" "rowRule" "[I", .fieldLink RX12 39 "JoinBenchModel" "begins" "[I"] ++ wsX120)
def wsX12_joins_r1 : List Cond := [Cond.fieldLink RX12 155 "JoinBenchModel" "rowMany" "I", Cond.fieldLink RX12 67 "JoinBenchModel" "rowForm" "[I", Cond.fieldLink RX12 158 "JoinBenchModel" "rowDay" "I", Cond.fieldLink RX12 138 "JoinBenchModel" "rules" "I", Cond.fieldLink RX12 36 "JoinBenchModel" "ends" "[I", Cond.fieldLink RX12 16 "JoinBenchModel" "size" "[I", Cond.fieldLink RX12 39 "JoinBenchModel" "begins" "[I", Cond.fieldLink RX12 70 "JoinBenchModel" "rowRule" "[I", Cond.methodLink RX12 141 yX12_isForm, Cond.instanceMethod yX12_isForm, Cond.selects RX12 yX12_isForm yX12_isForm, Cond.initialized RX12, Cond.code yX12_isForm cX12_isForm 2 (some .boolean), Cond.fieldLink RX12 131 "JoinBenchModel" "forms" "I", Cond.methodLink RX12 134 yX12_in, Cond.static yX12_in, Cond.code yX12_in cX12_in 3 (some .boolean), Cond.methodLink RX12 161 yX12_fits, Cond.instanceMethod yX12_fits, Cond.selects RX12 yX12_fits yX12_fits, Cond.code yX12_fits cX12_fits 6 (some .int), Cond.methodLink RX12 148 yX12_isDay, Cond.static yX12_isDay, Cond.code yX12_isDay cX12_isDay 1 (some .boolean)]
def wsX12_joins_r2 : List Cond := [Cond.methodLink RX12 151 yX12_fitsTwo, Cond.instanceMethod yX12_fitsTwo, Cond.selects RX12 yX12_fitsTwo yX12_fitsTwo, Cond.code yX12_fitsTwo cX12_fitsTwo 6 (some .boolean), Cond.fieldLink RX12 29 "JoinBenchModel" "isKept" "[Z", Cond.fieldLink RX12 48 "JoinBenchModel" "ruleFirst" "[I", Cond.fieldLink RX12 51 "JoinBenchModel" "ruleLast" "[I", Cond.fieldLink RX12 13 "JoinBenchModel" "letters" "[B", Cond.fieldLink RX12 33 "JoinBenchModel" "ruleText" "[B", Cond.methodLink RX12 165 yX12_cutOf, Cond.instanceMethod yX12_cutOf, Cond.selects RX12 yX12_cutOf yX12_cutOf, Cond.code yX12_cutOf cX12_cutOf 2 (some .int)]
def wsX12_joins : List Cond := .code yX12_joins cX12_joins 4 (some .int) :: ((wsX12_joins_r1 ++ wsX12_joins_r2) ++ wsX120)
def wsX12_puts : List Cond := .code yX12_puts cX12_puts 2 none :: ([.fieldLink RX12 73 "JoinBenchModel" "out" "[B", .fieldLink RX12 169 "JoinBenchModel" "outMany" "I"] ++ wsX120)
def wsX12_joined : List Cond := .code yX12_joined cX12_joined 6 (some .int) :: ([.fieldLink RX12 169 "JoinBenchModel" "outMany" "I", .fieldLink RX12 155 "JoinBenchModel" "rowMany" "I", .fieldLink RX12 67 "JoinBenchModel" "rowForm" "[I", .fieldLink RX12 70 "JoinBenchModel" "rowRule" "[I", .fieldLink RX12 42 "JoinBenchModel" "comes" "[I", .fieldLink RX12 33 "JoinBenchModel" "ruleText" "[B", .fieldLink RX12 36 "JoinBenchModel" "ends" "[I", .fieldLink RX12 39 "JoinBenchModel" "begins" "[I", .fieldLink RX12 16 "JoinBenchModel" "size" "[I", .fieldLink RX12 13 "JoinBenchModel" "letters" "[B", .methodLink RX12 172 yX12_puts, .instanceMethod yX12_puts, .selects RX12 yX12_puts yX12_puts, .initialized RX12, .code yX12_puts cX12_puts 2 none, .fieldLink RX12 73 "JoinBenchModel" "out" "[B", .methodLink RX12 165 yX12_cutOf, .instanceMethod yX12_cutOf, .selects RX12 yX12_cutOf yX12_cutOf, .code yX12_cutOf cX12_cutOf 2 (some .int)] ++ wsX120)
def wsX12_letter : List Cond := .code yX12_letter cX12_letter 2 (some .int) :: ([.fieldLink RX12 169 "JoinBenchModel" "outMany" "I", .fieldLink RX12 73 "JoinBenchModel" "out" "[B", .methodLink RX12 134 yX12_in, .static yX12_in, .initialized RX12, .code yX12_in cX12_in 3 (some .boolean)] ++ wsX120)
def wsX12_back : List Cond := .code yX12_back cX12_back 2 (some .int) :: ([.fieldLink RX12 120 "JoinBenchModel" "taped" "I", .fieldLink RX12 169 "JoinBenchModel" "outMany" "I", .fieldLink RX12 7 "JoinBenchModel" "tape" "[B", .fieldLink RX12 73 "JoinBenchModel" "out" "[B"] ++ wsX120)
def wsX12_placeOf : List Cond := .code yX12_placeOf cX12_placeOf 3 (some .int) :: ([])
def wsX12_behind : List Cond := .code yX12_behind cX12_behind 6 (some .int) :: ([.fieldLink RX12 175 "JoinBenchModel" "lineSize" "I", .fieldLink RX12 13 "JoinBenchModel" "letters" "[B", .fieldLink RX12 76 "JoinBenchModel" "line" "[B"] ++ wsX120)
def wsX12_passes : List Cond := .code yX12_passes cX12_passes 7 (some .int) :: ([.fieldLink RX12 16 "JoinBenchModel" "size" "[I", .fieldLink RX12 36 "JoinBenchModel" "ends" "[I", .fieldLink RX12 42 "JoinBenchModel" "comes" "[I", .fieldLink RX12 175 "JoinBenchModel" "lineSize" "I", .fieldLink RX12 33 "JoinBenchModel" "ruleText" "[B", .fieldLink RX12 39 "JoinBenchModel" "begins" "[I", .fieldLink RX12 76 "JoinBenchModel" "line" "[B", .methodLink RX12 178 yX12_behind, .instanceMethod yX12_behind, .selects RX12 yX12_behind yX12_behind, .initialized RX12, .code yX12_behind cX12_behind 6 (some .int), .fieldLink RX12 13 "JoinBenchModel" "letters" "[B"] ++ wsX120)
def wsX12_isBetween : List Cond := .code yX12_isBetween cX12_isBetween 4 (some .boolean) :: ([.fieldLink RX12 182 "JoinBenchModel" "isCut" "Z", .fieldLink RX12 54 "JoinBenchModel" "mayNot" "[Z", .fieldLink RX12 20 "JoinBenchModel" "kind" "[I", .fieldLink RX12 79 "JoinBenchModel" "fit" "[I", .fieldLink RX12 39 "JoinBenchModel" "begins" "[I", .fieldLink RX12 16 "JoinBenchModel" "size" "[I"] ++ wsX120)
def wsX12_goesOn_r1 : List Cond := [Cond.fieldLink RX12 131 "JoinBenchModel" "forms" "I", Cond.fieldLink RX12 138 "JoinBenchModel" "rules" "I", Cond.fieldLink RX12 82 "JoinBenchModel" "isCome" "[Z", Cond.fieldLink RX12 39 "JoinBenchModel" "begins" "[I", Cond.methodLink RX12 193 yX12_isBetween, Cond.instanceMethod yX12_isBetween, Cond.selects RX12 yX12_isBetween yX12_isBetween, Cond.initialized RX12, Cond.code yX12_isBetween cX12_isBetween 4 (some .boolean), Cond.fieldLink RX12 182 "JoinBenchModel" "isCut" "Z", Cond.fieldLink RX12 54 "JoinBenchModel" "mayNot" "[Z", Cond.fieldLink RX12 20 "JoinBenchModel" "kind" "[I", Cond.fieldLink RX12 79 "JoinBenchModel" "fit" "[I", Cond.fieldLink RX12 16 "JoinBenchModel" "size" "[I", Cond.methodLink RX12 196 yX12_passes, Cond.instanceMethod yX12_passes, Cond.selects RX12 yX12_passes yX12_passes, Cond.code yX12_passes cX12_passes 7 (some .int), Cond.fieldLink RX12 36 "JoinBenchModel" "ends" "[I", Cond.fieldLink RX12 42 "JoinBenchModel" "comes" "[I", Cond.fieldLink RX12 175 "JoinBenchModel" "lineSize" "I", Cond.fieldLink RX12 33 "JoinBenchModel" "ruleText" "[B", Cond.fieldLink RX12 76 "JoinBenchModel" "line" "[B", Cond.methodLink RX12 178 yX12_behind]
def wsX12_goesOn_r2 : List Cond := [Cond.instanceMethod yX12_behind, Cond.selects RX12 yX12_behind yX12_behind, Cond.code yX12_behind cX12_behind 6 (some .int), Cond.fieldLink RX12 13 "JoinBenchModel" "letters" "[B", Cond.methodLink RX12 186 yX12_placeOf, Cond.static yX12_placeOf, Cond.code yX12_placeOf cX12_placeOf 3 (some .int)]
def wsX12_goesOn : List Cond := .code yX12_goesOn cX12_goesOn 7 none :: ((wsX12_goesOn_r1 ++ wsX12_goesOn_r2) ++ wsX120)
def wsX12_reaches_r1 : List Cond := [Cond.fieldLink RX12 82 "JoinBenchModel" "isCome" "[Z", Cond.fieldLink RX12 131 "JoinBenchModel" "forms" "I", Cond.fieldLink RX12 175 "JoinBenchModel" "lineSize" "I", Cond.methodLink RX12 186 yX12_placeOf, Cond.static yX12_placeOf, Cond.initialized RX12, Cond.code yX12_placeOf cX12_placeOf 3 (some .int), Cond.methodLink RX12 189 yX12_goesOn, Cond.instanceMethod yX12_goesOn, Cond.selects RX12 yX12_goesOn yX12_goesOn, Cond.code yX12_goesOn cX12_goesOn 7 none, Cond.fieldLink RX12 138 "JoinBenchModel" "rules" "I", Cond.fieldLink RX12 39 "JoinBenchModel" "begins" "[I", Cond.methodLink RX12 193 yX12_isBetween, Cond.instanceMethod yX12_isBetween, Cond.selects RX12 yX12_isBetween yX12_isBetween, Cond.code yX12_isBetween cX12_isBetween 4 (some .boolean), Cond.fieldLink RX12 182 "JoinBenchModel" "isCut" "Z", Cond.fieldLink RX12 54 "JoinBenchModel" "mayNot" "[Z", Cond.fieldLink RX12 20 "JoinBenchModel" "kind" "[I", Cond.fieldLink RX12 79 "JoinBenchModel" "fit" "[I", Cond.fieldLink RX12 16 "JoinBenchModel" "size" "[I", Cond.methodLink RX12 196 yX12_passes, Cond.instanceMethod yX12_passes]
def wsX12_reaches_r2 : List Cond := [Cond.selects RX12 yX12_passes yX12_passes, Cond.code yX12_passes cX12_passes 7 (some .int), Cond.fieldLink RX12 36 "JoinBenchModel" "ends" "[I", Cond.fieldLink RX12 42 "JoinBenchModel" "comes" "[I", Cond.fieldLink RX12 33 "JoinBenchModel" "ruleText" "[B", Cond.fieldLink RX12 76 "JoinBenchModel" "line" "[B", Cond.methodLink RX12 178 yX12_behind, Cond.instanceMethod yX12_behind, Cond.selects RX12 yX12_behind yX12_behind, Cond.code yX12_behind cX12_behind 6 (some .int), Cond.fieldLink RX12 13 "JoinBenchModel" "letters" "[B"]
def wsX12_reaches : List Cond := .code yX12_reaches cX12_reaches 4 none :: ((wsX12_reaches_r1 ++ wsX12_reaches_r2) ++ wsX120)
def wsX12_plus : List Cond := .code yX12_plus cX12_plus 4 (some .long) :: ([.constantLong RX12 199 (1000000000000000)])
def wsX12_keeps : List Cond := .code yX12_keeps cX12_keeps 5 none :: ([.fieldLink RX12 93 "JoinBenchModel" "bestMany" "[I", .fieldLink RX12 90 "JoinBenchModel" "best" "[I"] ++ wsX120)
def wsX12_costOf : List Cond := .code yX12_costOf cX12_costOf 1 (some .int) :: ([])
def wsX12_counts_r1 : List Cond := [Cond.fieldLink RX12 85 "JoinBenchModel" "ways" "[J", Cond.fieldLink RX12 93 "JoinBenchModel" "bestMany" "[I", Cond.fieldLink RX12 16 "JoinBenchModel" "size" "[I", Cond.fieldLink RX12 175 "JoinBenchModel" "lineSize" "I", Cond.fieldLink RX12 26 "JoinBenchModel" "cost" "[I", Cond.fieldLink RX12 131 "JoinBenchModel" "forms" "I", Cond.fieldLink RX12 138 "JoinBenchModel" "rules" "I", Cond.fieldLink RX12 39 "JoinBenchModel" "begins" "[I", Cond.fieldLink RX12 45 "JoinBenchModel" "ruleCost" "[I", Cond.fieldLink RX12 90 "JoinBenchModel" "best" "[I", Cond.methodLink RX12 186 yX12_placeOf, Cond.static yX12_placeOf, Cond.initialized RX12, Cond.code yX12_placeOf cX12_placeOf 3 (some .int), Cond.methodLink RX12 178 yX12_behind, Cond.instanceMethod yX12_behind, Cond.selects RX12 yX12_behind yX12_behind, Cond.code yX12_behind cX12_behind 6 (some .int), Cond.fieldLink RX12 13 "JoinBenchModel" "letters" "[B", Cond.fieldLink RX12 76 "JoinBenchModel" "line" "[B", Cond.methodLink RX12 201 yX12_keeps, Cond.instanceMethod yX12_keeps, Cond.selects RX12 yX12_keeps yX12_keeps, Cond.code yX12_keeps cX12_keeps 5 none]
def wsX12_counts_r2 : List Cond := [Cond.methodLink RX12 193 yX12_isBetween, Cond.instanceMethod yX12_isBetween, Cond.selects RX12 yX12_isBetween yX12_isBetween, Cond.code yX12_isBetween cX12_isBetween 4 (some .boolean), Cond.fieldLink RX12 182 "JoinBenchModel" "isCut" "Z", Cond.fieldLink RX12 54 "JoinBenchModel" "mayNot" "[Z", Cond.fieldLink RX12 20 "JoinBenchModel" "kind" "[I", Cond.fieldLink RX12 79 "JoinBenchModel" "fit" "[I", Cond.methodLink RX12 196 yX12_passes, Cond.instanceMethod yX12_passes, Cond.selects RX12 yX12_passes yX12_passes, Cond.code yX12_passes cX12_passes 7 (some .int), Cond.fieldLink RX12 36 "JoinBenchModel" "ends" "[I", Cond.fieldLink RX12 42 "JoinBenchModel" "comes" "[I", Cond.fieldLink RX12 33 "JoinBenchModel" "ruleText" "[B", Cond.methodLink RX12 205 yX12_plus, Cond.static yX12_plus, Cond.code yX12_plus cX12_plus 4 (some .long), Cond.constantLong RX12 199 (1000000000000000), Cond.methodLink RX12 209 yX12_costOf, Cond.static yX12_costOf, Cond.code yX12_costOf cX12_costOf 1 (some .int)]
def wsX12_counts : List Cond := .code yX12_counts cX12_counts 11 none :: ((wsX12_counts_r1 ++ wsX12_counts_r2) ++ wsX120)
def wsX12_partings_r1 : List Cond := [Cond.fieldLink RX12 175 "JoinBenchModel" "lineSize" "I", Cond.fieldLink RX12 131 "JoinBenchModel" "forms" "I", Cond.fieldLink RX12 82 "JoinBenchModel" "isCome" "[Z", Cond.fieldLink RX12 85 "JoinBenchModel" "ways" "[J", Cond.methodLink RX12 212 yX12_reaches, Cond.instanceMethod yX12_reaches, Cond.selects RX12 yX12_reaches yX12_reaches, Cond.initialized RX12, Cond.code yX12_reaches cX12_reaches 4 none, Cond.methodLink RX12 186 yX12_placeOf, Cond.static yX12_placeOf, Cond.code yX12_placeOf cX12_placeOf 3 (some .int), Cond.methodLink RX12 189 yX12_goesOn, Cond.instanceMethod yX12_goesOn, Cond.selects RX12 yX12_goesOn yX12_goesOn, Cond.code yX12_goesOn cX12_goesOn 7 none, Cond.fieldLink RX12 138 "JoinBenchModel" "rules" "I", Cond.fieldLink RX12 39 "JoinBenchModel" "begins" "[I", Cond.methodLink RX12 193 yX12_isBetween, Cond.instanceMethod yX12_isBetween, Cond.selects RX12 yX12_isBetween yX12_isBetween, Cond.code yX12_isBetween cX12_isBetween 4 (some .boolean), Cond.fieldLink RX12 182 "JoinBenchModel" "isCut" "Z", Cond.fieldLink RX12 54 "JoinBenchModel" "mayNot" "[Z"]
def wsX12_partings_r2 : List Cond := [Cond.fieldLink RX12 20 "JoinBenchModel" "kind" "[I", Cond.fieldLink RX12 79 "JoinBenchModel" "fit" "[I", Cond.fieldLink RX12 16 "JoinBenchModel" "size" "[I", Cond.methodLink RX12 196 yX12_passes, Cond.instanceMethod yX12_passes, Cond.selects RX12 yX12_passes yX12_passes, Cond.code yX12_passes cX12_passes 7 (some .int), Cond.fieldLink RX12 36 "JoinBenchModel" "ends" "[I", Cond.fieldLink RX12 42 "JoinBenchModel" "comes" "[I", Cond.fieldLink RX12 33 "JoinBenchModel" "ruleText" "[B", Cond.fieldLink RX12 76 "JoinBenchModel" "line" "[B", Cond.methodLink RX12 178 yX12_behind, Cond.instanceMethod yX12_behind, Cond.selects RX12 yX12_behind yX12_behind, Cond.code yX12_behind cX12_behind 6 (some .int), Cond.fieldLink RX12 13 "JoinBenchModel" "letters" "[B", Cond.methodLink RX12 215 yX12_counts, Cond.instanceMethod yX12_counts, Cond.selects RX12 yX12_counts yX12_counts, Cond.code yX12_counts cX12_counts 11 none, Cond.fieldLink RX12 93 "JoinBenchModel" "bestMany" "[I", Cond.fieldLink RX12 26 "JoinBenchModel" "cost" "[I", Cond.fieldLink RX12 45 "JoinBenchModel" "ruleCost" "[I", Cond.fieldLink RX12 90 "JoinBenchModel" "best" "[I"]
def wsX12_partings_r3 : List Cond := [Cond.methodLink RX12 201 yX12_keeps, Cond.instanceMethod yX12_keeps, Cond.selects RX12 yX12_keeps yX12_keeps, Cond.code yX12_keeps cX12_keeps 5 none, Cond.methodLink RX12 205 yX12_plus, Cond.static yX12_plus, Cond.code yX12_plus cX12_plus 4 (some .long), Cond.constantLong RX12 199 (1000000000000000), Cond.methodLink RX12 209 yX12_costOf, Cond.static yX12_costOf, Cond.code yX12_costOf cX12_costOf 1 (some .int)]
def wsX12_partings : List Cond := .code yX12_partings cX12_partings 4 (some .long) :: ((wsX12_partings_r1 ++ (wsX12_partings_r2 ++ wsX12_partings_r3)) ++ wsX120)
def wsX12_tells_r1 : List Cond := [Cond.fieldLink RX12 96 "JoinBenchModel" "toldCost" "[I", Cond.fieldLink RX12 218 "JoinBenchModel" "told" "I", Cond.fieldLink RX12 90 "JoinBenchModel" "best" "[I", Cond.fieldLink RX12 102 "JoinBenchModel" "toldForm" "[I", Cond.fieldLink RX12 105 "JoinBenchModel" "toldRule" "[I", Cond.fieldLink RX12 39 "JoinBenchModel" "begins" "[I", Cond.fieldLink RX12 99 "JoinBenchModel" "toldMany" "[I", Cond.methodLink RX12 186 yX12_placeOf, Cond.static yX12_placeOf, Cond.initialized RX12, Cond.code yX12_placeOf cX12_placeOf 3 (some .int), Cond.methodLink RX12 209 yX12_costOf, Cond.static yX12_costOf, Cond.code yX12_costOf cX12_costOf 1 (some .int), Cond.methodLink RX12 196 yX12_passes, Cond.instanceMethod yX12_passes, Cond.selects RX12 yX12_passes yX12_passes, Cond.code yX12_passes cX12_passes 7 (some .int), Cond.fieldLink RX12 16 "JoinBenchModel" "size" "[I", Cond.fieldLink RX12 36 "JoinBenchModel" "ends" "[I", Cond.fieldLink RX12 42 "JoinBenchModel" "comes" "[I", Cond.fieldLink RX12 175 "JoinBenchModel" "lineSize" "I", Cond.fieldLink RX12 33 "JoinBenchModel" "ruleText" "[B", Cond.fieldLink RX12 76 "JoinBenchModel" "line" "[B"]
def wsX12_tells_r2 : List Cond := [Cond.methodLink RX12 178 yX12_behind, Cond.instanceMethod yX12_behind, Cond.selects RX12 yX12_behind yX12_behind, Cond.code yX12_behind cX12_behind 6 (some .int), Cond.fieldLink RX12 13 "JoinBenchModel" "letters" "[B"]
def wsX12_tells : List Cond := .code yX12_tells cX12_tells 10 none :: ((wsX12_tells_r1 ++ wsX12_tells_r2) ++ wsX120)
def wsX12_part_r1 : List Cond := [Cond.fieldLink RX12 120 "JoinBenchModel" "taped" "I", Cond.constantLong RX12 221 (-1), Cond.fieldLink RX12 175 "JoinBenchModel" "lineSize" "I", Cond.fieldLink RX12 76 "JoinBenchModel" "line" "[B", Cond.fieldLink RX12 7 "JoinBenchModel" "tape" "[B", Cond.fieldLink RX12 131 "JoinBenchModel" "forms" "I", Cond.fieldLink RX12 79 "JoinBenchModel" "fit" "[I", Cond.fieldLink RX12 138 "JoinBenchModel" "rules" "I", Cond.fieldLink RX12 223 "JoinBenchModel" "hasParted" "Z", Cond.fieldLink RX12 182 "JoinBenchModel" "isCut" "Z", Cond.fieldLink RX12 230 "JoinBenchModel" "all" "J", Cond.fieldLink RX12 234 "JoinBenchModel" "counted" "J", Cond.fieldLink RX12 237 "JoinBenchModel" "isLeft" "Z", Cond.fieldLink RX12 218 "JoinBenchModel" "told" "I", Cond.fieldLink RX12 108 "JoinBenchModel" "nextOf" "[I", Cond.constant RX12 240 (1073741823), Cond.fieldLink RX12 93 "JoinBenchModel" "bestMany" "[I", Cond.fieldLink RX12 90 "JoinBenchModel" "best" "[I", Cond.methodLink RX12 127 yX12_isText, Cond.instanceMethod yX12_isText, Cond.selects RX12 yX12_isText yX12_isText, Cond.initialized RX12, Cond.code yX12_isText cX12_isText 2 (some .boolean), Cond.methodLink RX12 134 yX12_in]
def wsX12_part_r2 : List Cond := [Cond.static yX12_in, Cond.code yX12_in cX12_in 3 (some .boolean), Cond.methodLink RX12 148 yX12_isDay, Cond.static yX12_isDay, Cond.code yX12_isDay cX12_isDay 1 (some .boolean), Cond.methodLink RX12 151 yX12_fitsTwo, Cond.instanceMethod yX12_fitsTwo, Cond.selects RX12 yX12_fitsTwo yX12_fitsTwo, Cond.code yX12_fitsTwo cX12_fitsTwo 6 (some .boolean), Cond.fieldLink RX12 29 "JoinBenchModel" "isKept" "[Z", Cond.fieldLink RX12 48 "JoinBenchModel" "ruleFirst" "[I", Cond.fieldLink RX12 51 "JoinBenchModel" "ruleLast" "[I", Cond.fieldLink RX12 36 "JoinBenchModel" "ends" "[I", Cond.fieldLink RX12 16 "JoinBenchModel" "size" "[I", Cond.fieldLink RX12 39 "JoinBenchModel" "begins" "[I", Cond.fieldLink RX12 13 "JoinBenchModel" "letters" "[B", Cond.fieldLink RX12 33 "JoinBenchModel" "ruleText" "[B", Cond.methodLink RX12 226 yX12_partings, Cond.instanceMethod yX12_partings, Cond.selects RX12 yX12_partings yX12_partings, Cond.code yX12_partings cX12_partings 4 (some .long), Cond.fieldLink RX12 82 "JoinBenchModel" "isCome" "[Z", Cond.fieldLink RX12 85 "JoinBenchModel" "ways" "[J", Cond.methodLink RX12 212 yX12_reaches]
def wsX12_part_r3 : List Cond := [Cond.instanceMethod yX12_reaches, Cond.selects RX12 yX12_reaches yX12_reaches, Cond.code yX12_reaches cX12_reaches 4 none, Cond.methodLink RX12 186 yX12_placeOf, Cond.static yX12_placeOf, Cond.code yX12_placeOf cX12_placeOf 3 (some .int), Cond.methodLink RX12 189 yX12_goesOn, Cond.instanceMethod yX12_goesOn, Cond.selects RX12 yX12_goesOn yX12_goesOn, Cond.code yX12_goesOn cX12_goesOn 7 none, Cond.methodLink RX12 193 yX12_isBetween, Cond.instanceMethod yX12_isBetween, Cond.selects RX12 yX12_isBetween yX12_isBetween, Cond.code yX12_isBetween cX12_isBetween 4 (some .boolean), Cond.fieldLink RX12 54 "JoinBenchModel" "mayNot" "[Z", Cond.fieldLink RX12 20 "JoinBenchModel" "kind" "[I", Cond.methodLink RX12 196 yX12_passes, Cond.instanceMethod yX12_passes, Cond.selects RX12 yX12_passes yX12_passes, Cond.code yX12_passes cX12_passes 7 (some .int), Cond.fieldLink RX12 42 "JoinBenchModel" "comes" "[I", Cond.methodLink RX12 178 yX12_behind, Cond.instanceMethod yX12_behind, Cond.selects RX12 yX12_behind yX12_behind]
def wsX12_part_r4 : List Cond := [Cond.code yX12_behind cX12_behind 6 (some .int), Cond.methodLink RX12 215 yX12_counts, Cond.instanceMethod yX12_counts, Cond.selects RX12 yX12_counts yX12_counts, Cond.code yX12_counts cX12_counts 11 none, Cond.fieldLink RX12 26 "JoinBenchModel" "cost" "[I", Cond.fieldLink RX12 45 "JoinBenchModel" "ruleCost" "[I", Cond.methodLink RX12 201 yX12_keeps, Cond.instanceMethod yX12_keeps, Cond.selects RX12 yX12_keeps yX12_keeps, Cond.code yX12_keeps cX12_keeps 5 none, Cond.methodLink RX12 205 yX12_plus, Cond.static yX12_plus, Cond.code yX12_plus cX12_plus 4 (some .long), Cond.constantLong RX12 199 (1000000000000000), Cond.methodLink RX12 209 yX12_costOf, Cond.static yX12_costOf, Cond.code yX12_costOf cX12_costOf 1 (some .int), Cond.methodLink RX12 241 yX12_tells, Cond.instanceMethod yX12_tells, Cond.selects RX12 yX12_tells yX12_tells, Cond.code yX12_tells cX12_tells 10 none, Cond.fieldLink RX12 96 "JoinBenchModel" "toldCost" "[I", Cond.fieldLink RX12 102 "JoinBenchModel" "toldForm" "[I"]
def wsX12_part_r5 : List Cond := [Cond.fieldLink RX12 105 "JoinBenchModel" "toldRule" "[I", Cond.fieldLink RX12 99 "JoinBenchModel" "toldMany" "[I"]
def wsX12_part : List Cond := .code yX12_part cX12_part 9 (some .long) :: ((wsX12_part_r1 ++ (wsX12_part_r2 ++ (wsX12_part_r3 ++ (wsX12_part_r4 ++ wsX12_part_r5)))) ++ wsX120)
def wsX12_parted : List Cond := .code yX12_parted cX12_parted 2 (some .long) :: ([.fieldLink RX12 223 "JoinBenchModel" "hasParted" "Z", .constantLong RX12 221 (-1), .fieldLink RX12 230 "JoinBenchModel" "all" "J", .fieldLink RX12 234 "JoinBenchModel" "counted" "J", .fieldLink RX12 237 "JoinBenchModel" "isLeft" "Z", .fieldLink RX12 218 "JoinBenchModel" "told" "I"] ++ wsX120)
def wsX12_isTold : List Cond := .code yX12_isTold cX12_isTold 2 (some .boolean) :: ([.fieldLink RX12 223 "JoinBenchModel" "hasParted" "Z", .fieldLink RX12 218 "JoinBenchModel" "told" "I", .methodLink RX12 134 yX12_in, .static yX12_in, .initialized RX12, .code yX12_in cX12_in 3 (some .boolean)] ++ wsX120)
def wsX12_parting : List Cond := .code yX12_parting cX12_parting 3 (some .int) :: ([.fieldLink RX12 96 "JoinBenchModel" "toldCost" "[I", .fieldLink RX12 99 "JoinBenchModel" "toldMany" "[I", .methodLink RX12 244 yX12_isTold, .instanceMethod yX12_isTold, .selects RX12 yX12_isTold yX12_isTold, .initialized RX12, .code yX12_isTold cX12_isTold 2 (some .boolean), .fieldLink RX12 223 "JoinBenchModel" "hasParted" "Z", .fieldLink RX12 218 "JoinBenchModel" "told" "I", .methodLink RX12 134 yX12_in, .static yX12_in, .code yX12_in cX12_in 3 (some .boolean)] ++ wsX120)
def wsX12_formOf : List Cond := .code yX12_formOf cX12_formOf 3 (some .int) :: ([.fieldLink RX12 99 "JoinBenchModel" "toldMany" "[I", .fieldLink RX12 102 "JoinBenchModel" "toldForm" "[I", .methodLink RX12 244 yX12_isTold, .instanceMethod yX12_isTold, .selects RX12 yX12_isTold yX12_isTold, .initialized RX12, .code yX12_isTold cX12_isTold 2 (some .boolean), .fieldLink RX12 223 "JoinBenchModel" "hasParted" "Z", .fieldLink RX12 218 "JoinBenchModel" "told" "I", .methodLink RX12 134 yX12_in, .static yX12_in, .code yX12_in cX12_in 3 (some .boolean)] ++ wsX120)
def wsX12_ruleOf : List Cond := .code yX12_ruleOf cX12_ruleOf 3 (some .int) :: ([.fieldLink RX12 99 "JoinBenchModel" "toldMany" "[I", .fieldLink RX12 105 "JoinBenchModel" "toldRule" "[I", .methodLink RX12 244 yX12_isTold, .instanceMethod yX12_isTold, .selects RX12 yX12_isTold yX12_isTold, .initialized RX12, .code yX12_isTold cX12_isTold 2 (some .boolean), .fieldLink RX12 223 "JoinBenchModel" "hasParted" "Z", .fieldLink RX12 218 "JoinBenchModel" "told" "I", .methodLink RX12 134 yX12_in, .static yX12_in, .code yX12_in cX12_in 3 (some .boolean)] ++ wsX120)
def wsX12_times : List Cond := .code yX12_times cX12_times 4 (some .long) :: ([.constantLong RX12 199 (1000000000000000)])
def wsX12_trees_r1 : List Cond := [Cond.constantLong RX12 221 (-1), Cond.fieldLink RX12 99 "JoinBenchModel" "toldMany" "[I", Cond.fieldLink RX12 111 "JoinBenchModel" "grown" "[J", Cond.fieldLink RX12 20 "JoinBenchModel" "kind" "[I", Cond.fieldLink RX12 102 "JoinBenchModel" "toldForm" "[I", Cond.fieldLink RX12 57 "JoinBenchModel" "tree" "[I", Cond.methodLink RX12 244 yX12_isTold, Cond.instanceMethod yX12_isTold, Cond.selects RX12 yX12_isTold yX12_isTold, Cond.initialized RX12, Cond.code yX12_isTold cX12_isTold 2 (some .boolean), Cond.fieldLink RX12 223 "JoinBenchModel" "hasParted" "Z", Cond.fieldLink RX12 218 "JoinBenchModel" "told" "I", Cond.methodLink RX12 134 yX12_in, Cond.static yX12_in, Cond.code yX12_in cX12_in 3 (some .boolean), Cond.methodLink RX12 145 yX12_isKind, Cond.static yX12_isKind, Cond.code yX12_isKind cX12_isKind 1 (some .boolean), Cond.methodLink RX12 247 yX12_times, Cond.static yX12_times, Cond.code yX12_times cX12_times 4 (some .long), Cond.constantLong RX12 199 (1000000000000000), Cond.methodLink RX12 205 yX12_plus]
def wsX12_trees_r2 : List Cond := [Cond.static yX12_plus, Cond.code yX12_plus cX12_plus 4 (some .long)]
def wsX12_trees : List Cond := .code yX12_trees cX12_trees 10 (some .long) :: ((wsX12_trees_r1 ++ wsX12_trees_r2) ++ wsX120)
def wsX12_choose : List Cond := .code yX12_choose cX12_choose 5 (some .int) :: ([.fieldLink RX12 250 "JoinBenchModel" "choices" "I", .fieldLink RX12 117 "JoinBenchModel" "were" "[I", .fieldLink RX12 114 "JoinBenchModel" "formsThen" "[I", .fieldLink RX12 26 "JoinBenchModel" "cost" "[I", .fieldLink RX12 60 "JoinBenchModel" "uses" "[I", .fieldLink RX12 131 "JoinBenchModel" "forms" "I", .fieldLink RX12 99 "JoinBenchModel" "toldMany" "[I", .fieldLink RX12 102 "JoinBenchModel" "toldForm" "[I", .fieldLink RX12 23 "JoinBenchModel" "stem" "[I", .fieldLink RX12 63 "JoinBenchModel" "step" "I", .methodLink RX12 244 yX12_isTold, .instanceMethod yX12_isTold, .selects RX12 yX12_isTold yX12_isTold, .initialized RX12, .code yX12_isTold cX12_isTold 2 (some .boolean), .fieldLink RX12 223 "JoinBenchModel" "hasParted" "Z", .fieldLink RX12 218 "JoinBenchModel" "told" "I", .methodLink RX12 134 yX12_in, .static yX12_in, .code yX12_in cX12_in 3 (some .boolean)] ++ wsX120)
def wsX12_undo : List Cond := .code yX12_undo cX12_undo 2 (some .boolean) :: ([.fieldLink RX12 250 "JoinBenchModel" "choices" "I", .fieldLink RX12 114 "JoinBenchModel" "formsThen" "[I", .fieldLink RX12 26 "JoinBenchModel" "cost" "[I", .fieldLink RX12 117 "JoinBenchModel" "were" "[I", .fieldLink RX12 60 "JoinBenchModel" "uses" "[I"] ++ wsX120)
def wsX12_step : List Cond := .code yX12_step cX12_step 3 (some .int) :: ([.fieldLink RX12 63 "JoinBenchModel" "step" "I", .methodLink RX12 134 yX12_in, .static yX12_in, .initialized RX12, .code yX12_in cX12_in 3 (some .boolean)] ++ wsX120)
def wsX12_uses : List Cond := .code yX12_uses cX12_uses 2 (some .int) :: ([.fieldLink RX12 60 "JoinBenchModel" "uses" "[I", .methodLink RX12 134 yX12_in, .static yX12_in, .initialized RX12, .code yX12_in cX12_in 3 (some .boolean)] ++ wsX120)
def wsX12_about : List Cond := .code yX12_about cX12_about 3 (some .int) :: ([.fieldLink RX12 20 "JoinBenchModel" "kind" "[I", .fieldLink RX12 23 "JoinBenchModel" "stem" "[I", .fieldLink RX12 26 "JoinBenchModel" "cost" "[I", .fieldLink RX12 29 "JoinBenchModel" "isKept" "[Z", .fieldLink RX12 16 "JoinBenchModel" "size" "[I", .methodLink RX12 141 yX12_isForm, .instanceMethod yX12_isForm, .selects RX12 yX12_isForm yX12_isForm, .initialized RX12, .code yX12_isForm cX12_isForm 2 (some .boolean), .fieldLink RX12 131 "JoinBenchModel" "forms" "I", .methodLink RX12 134 yX12_in, .static yX12_in, .code yX12_in cX12_in 3 (some .boolean)] ++ wsX120)
def wsX12_count : List Cond := .code yX12_count cX12_count 4 (some .int) :: ([.fieldLink RX12 131 "JoinBenchModel" "forms" "I", .fieldLink RX12 138 "JoinBenchModel" "rules" "I", .fieldLink RX12 120 "JoinBenchModel" "taped" "I", .fieldLink RX12 169 "JoinBenchModel" "outMany" "I", .fieldLink RX12 155 "JoinBenchModel" "rowMany" "I", .fieldLink RX12 250 "JoinBenchModel" "choices" "I", .fieldLink RX12 63 "JoinBenchModel" "step" "I", .fieldLink RX12 26 "JoinBenchModel" "cost" "[I", .fieldLink RX12 67 "JoinBenchModel" "rowForm" "[I", .fieldLink RX12 70 "JoinBenchModel" "rowRule" "[I", .fieldLink RX12 45 "JoinBenchModel" "ruleCost" "[I"] ++ wsX120)
def wsJ9_max_7cf53 : List Cond := .code yJ9_max_7cf53 cJ9_max_7cf53 2 (some .int) :: ([])
def wsJ9_min_7cf53 : List Cond := .code yJ9_min_7cf53 cJ9_min_7cf53 2 (some .int) :: ([])
def wsJ9_min_f86c9 : List Cond := .code yJ9_min_f86c9 cJ9_min_f86c9 4 (some .long) :: ([])
def wsL_law_r1 : List Cond := [Cond.classLink RL 7 RX11, Cond.instantiable RX11 7, Cond.initialized RX11, Cond.classLink RL 10 RX12, Cond.instantiable RX12 49, Cond.initialized RX12, Cond.methodLink RL 9 yX11_init, Cond.instanceMethod yX11_init, Cond.code yX11_init cX11_init 1 none, Cond.methodLink RX11 3 objectInit, Cond.instanceMethod objectInit, Cond.code objectInit ⟨#[0xb1]⟩ 1 none, Cond.classLink RX11 9 RX8, Cond.instantiable RX8 2, Cond.initialized RX8, Cond.fieldLink RX11 12 "JoinBench" "tape" "LJoinBench$Tape;", Cond.classLink RX11 16 RX9, Cond.instantiable RX9 5, Cond.initialized RX9, Cond.fieldLink RX11 19 "JoinBench" "tongue" "LJoinBench$Tongue;", Cond.classLink RX11 23 RX6, Cond.instantiable RX6 4, Cond.initialized RX6, Cond.fieldLink RX11 26 "JoinBench" "row" "LJoinBench$Row;"]
def wsL_law_r2 : List Cond := [Cond.classLink RX11 30 RX10, Cond.instantiable RX10 2, Cond.initialized RX10, Cond.fieldLink RX11 33 "JoinBench" "trees" "LJoinBench$Trees;", Cond.classLink RX11 37 RX1, Cond.instantiable RX1 6, Cond.initialized RX1, Cond.fieldLink RX11 40 "JoinBench" "choices" "LJoinBench$Choices;", Cond.fieldLink RX11 44 "JoinBench" "parter" "LJoinBench$Parter;", Cond.fieldLink RX11 48 "JoinBench" "step" "I", Cond.instanceMethod yX8_init, Cond.code yX8_init cX8_init 1 none, Cond.methodLink RX8 3 objectInit, Cond.arrayClass .byte, Cond.fieldLink RX8 9 "JoinBench$Tape" "bytes" "[B", Cond.fieldLink RX8 15 "JoinBench$Tape" "size" "I", Cond.instanceMethod yX9_init, Cond.code yX9_init cX9_init 1 none, Cond.methodLink RX9 3 objectInit, Cond.classLink RX9 9 RX2, Cond.fieldLink RX9 11 "JoinBench$Tongue" "forms" "[LJoinBench$Form;", Cond.classLink RX9 17 RX7, Cond.fieldLink RX9 19 "JoinBench$Tongue" "rules" "[LJoinBench$Rule;", Cond.fieldLink RX9 23 "JoinBench$Tongue" "formCount" "I"]
def wsL_law_r3 : List Cond := [Cond.fieldLink RX9 27 "JoinBench$Tongue" "ruleCount" "I", Cond.arrayClass .boolean, Cond.fieldLink RX9 30 "JoinBench$Tongue" "forbidden" "[Z", Cond.instanceMethod yX6_init, Cond.code yX6_init cX6_init 1 none, Cond.methodLink RX6 3 objectInit, Cond.classLink RX6 9 RX0, Cond.instantiable RX0 3, Cond.initialized RX0, Cond.fieldLink RX6 12 "JoinBench$Row" "chain" "LJoinBench$Chain;", Cond.fieldLink RX6 18 "JoinBench$Row" "out" "[B", Cond.fieldLink RX6 22 "JoinBench$Row" "day" "I", Cond.fieldLink RX6 26 "JoinBench$Row" "outSize" "I", Cond.instanceMethod yX0_init, Cond.code yX0_init cX0_init 1 none, Cond.methodLink RX0 3 objectInit, Cond.classLink RX0 9 RX2, Cond.fieldLink RX0 11 "JoinBench$Chain" "forms" "[LJoinBench$Form;", Cond.classLink RX0 17 RX7, Cond.fieldLink RX0 19 "JoinBench$Chain" "rules" "[LJoinBench$Rule;", Cond.fieldLink RX0 23 "JoinBench$Chain" "size" "I", Cond.methodLink RX11 32 yX10_init, Cond.instanceMethod yX10_init, Cond.code yX10_init cX10_init 1 none]
def wsL_law_r4 : List Cond := [Cond.methodLink RX10 3 objectInit, Cond.arrayClass .int, Cond.fieldLink RX10 9 "JoinBench$Trees" "kinds" "[I", Cond.fieldLink RX10 15 "JoinBench$Trees" "ways" "[[J", Cond.methodLink RX10 19 yJ7_fill_53178, Cond.static yJ7_fill_53178, Cond.initialized RJ7, Cond.code yJ7_fill_53178 cJ7_fill_53178 4 none, Cond.instanceMethod yX1_init, Cond.code yX1_init cX1_init 1 none, Cond.methodLink RX1 3 objectInit, Cond.fieldLink RX1 9 "JoinBench$Choices" "uses" "[I", Cond.fieldLink RX1 15 "JoinBench$Choices" "size" "I", Cond.classLink RX1 19 "[[I", Cond.fieldLink RX1 21 "JoinBench$Choices" "costsBefore" "[[I", Cond.fieldLink RX1 24 "JoinBench$Choices" "usesBefore" "[[I", Cond.fieldLink RX1 27 "JoinBench$Choices" "formsBefore" "[I", Cond.fieldLink RX1 30 "JoinBench$Choices" "oldest" "I", Cond.methodLink RL 12 yX12_init, Cond.instanceMethod yX12_init, Cond.code yX12_init cX12_init 2 none, Cond.methodLink RX12 1 objectInit, Cond.fieldLink RX12 7 "JoinBenchModel" "tape" "[B", Cond.fieldLink RX12 13 "JoinBenchModel" "letters" "[B"]
def wsL_law_r5 : List Cond := [Cond.fieldLink RX12 16 "JoinBenchModel" "size" "[I", Cond.fieldLink RX12 20 "JoinBenchModel" "kind" "[I", Cond.fieldLink RX12 23 "JoinBenchModel" "stem" "[I", Cond.fieldLink RX12 26 "JoinBenchModel" "cost" "[I", Cond.fieldLink RX12 29 "JoinBenchModel" "isKept" "[Z", Cond.fieldLink RX12 33 "JoinBenchModel" "ruleText" "[B", Cond.fieldLink RX12 36 "JoinBenchModel" "ends" "[I", Cond.fieldLink RX12 39 "JoinBenchModel" "begins" "[I", Cond.fieldLink RX12 42 "JoinBenchModel" "comes" "[I", Cond.fieldLink RX12 45 "JoinBenchModel" "ruleCost" "[I", Cond.fieldLink RX12 48 "JoinBenchModel" "ruleFirst" "[I", Cond.fieldLink RX12 51 "JoinBenchModel" "ruleLast" "[I", Cond.fieldLink RX12 54 "JoinBenchModel" "mayNot" "[Z", Cond.fieldLink RX12 57 "JoinBenchModel" "tree" "[I", Cond.fieldLink RX12 60 "JoinBenchModel" "uses" "[I", Cond.fieldLink RX12 63 "JoinBenchModel" "step" "I", Cond.fieldLink RX12 67 "JoinBenchModel" "rowForm" "[I", Cond.fieldLink RX12 70 "JoinBenchModel" "rowRule" "[I", Cond.fieldLink RX12 73 "JoinBenchModel" "out" "[B", Cond.fieldLink RX12 76 "JoinBenchModel" "line" "[B", Cond.fieldLink RX12 79 "JoinBenchModel" "fit" "[I", Cond.fieldLink RX12 82 "JoinBenchModel" "isCome" "[Z", Cond.arrayClass .long, Cond.fieldLink RX12 85 "JoinBenchModel" "ways" "[J"]
def wsL_law_r6 : List Cond := [Cond.constant RX12 89 (52480), Cond.fieldLink RX12 90 "JoinBenchModel" "best" "[I", Cond.fieldLink RX12 93 "JoinBenchModel" "bestMany" "[I", Cond.fieldLink RX12 96 "JoinBenchModel" "toldCost" "[I", Cond.fieldLink RX12 99 "JoinBenchModel" "toldMany" "[I", Cond.fieldLink RX12 102 "JoinBenchModel" "toldForm" "[I", Cond.fieldLink RX12 105 "JoinBenchModel" "toldRule" "[I", Cond.fieldLink RX12 108 "JoinBenchModel" "nextOf" "[I", Cond.fieldLink RX12 111 "JoinBenchModel" "grown" "[J", Cond.fieldLink RX12 114 "JoinBenchModel" "formsThen" "[I", Cond.fieldLink RX12 117 "JoinBenchModel" "were" "[I", Cond.methodLink RL 13 yX11_feed, Cond.instanceMethod yX11_feed, Cond.selects RX11 yX11_feed yX11_feed, Cond.code yX11_feed cX11_feed 6 (some .int), Cond.fieldLink RX11 60 "JoinBench$Tape" "size" "I", Cond.methodLink RX11 52 yX8_hasRoomFor, Cond.instanceMethod yX8_hasRoomFor, Cond.selects RX8 yX8_hasRoomFor yX8_hasRoomFor, Cond.code yX8_hasRoomFor cX8_hasRoomFor 2 (some .boolean), Cond.methodLink RX11 56 yX8_addNumber, Cond.instanceMethod yX8_addNumber, Cond.selects RX8 yX8_addNumber yX8_addNumber, Cond.code yX8_addNumber cX8_addNumber 3 none]
def wsL_law_r7 : List Cond := [Cond.methodLink RX8 19 yX8_addByte, Cond.instanceMethod yX8_addByte, Cond.selects RX8 yX8_addByte yX8_addByte, Cond.code yX8_addByte cX8_addByte 2 none, Cond.methodLink RL 17 yX12_feed, Cond.instanceMethod yX12_feed, Cond.selects RX12 yX12_feed yX12_feed, Cond.code yX12_feed cX12_feed 6 (some .int), Cond.fieldLink RX12 120 "JoinBenchModel" "taped" "I", Cond.methodLink RX12 123 yX12_four, Cond.instanceMethod yX12_four, Cond.selects RX12 yX12_four yX12_four, Cond.code yX12_four cX12_four 3 none, Cond.methodLink RL 18 yX11_end, Cond.instanceMethod yX11_end, Cond.selects RX11 yX11_end yX11_end, Cond.code yX11_end cX11_end 2 (some .int), Cond.methodLink RX11 63 yX11_within, Cond.static yX11_within, Cond.code yX11_within cX11_within 3 (some .boolean), Cond.methodLink RL 22 yX12_end, Cond.instanceMethod yX12_end, Cond.selects RX12 yX12_end yX12_end, Cond.code yX12_end cX12_end 2 (some .int)]
def wsL_law_r8 : List Cond := [Cond.methodLink RL 23 yX11_form, Cond.instanceMethod yX11_form, Cond.selects RX11 yX11_form yX11_form, Cond.code yX11_form cX11_form 7 (some .int), Cond.fieldLink RX11 67 "JoinBench$Tongue" "formCount" "I", Cond.classLink RX11 83 RX2, Cond.instantiable RX2 8, Cond.initialized RX2, Cond.methodLink RX11 70 yX11_isKind, Cond.static yX11_isKind, Cond.code yX11_isKind cX11_isKind 1 (some .boolean), Cond.methodLink RX11 73 yX11_isStem, Cond.static yX11_isStem, Cond.code yX11_isStem cX11_isStem 1 (some .boolean), Cond.methodLink RX11 76 yX11_isCost, Cond.static yX11_isCost, Cond.code yX11_isCost cX11_isCost 1 (some .boolean), Cond.methodLink RX11 79 yX8_hasOnlyLetters, Cond.instanceMethod yX8_hasOnlyLetters, Cond.selects RX8 yX8_hasOnlyLetters yX8_hasOnlyLetters, Cond.code yX8_hasOnlyLetters cX8_hasOnlyLetters 2 (some .boolean), Cond.methodLink RX11 85 yX2_init, Cond.instanceMethod yX2_init, Cond.code yX2_init cX2_init 6 none]
def wsL_law_r9 : List Cond := [Cond.methodLink RX2 3 objectInit, Cond.fieldLink RX2 9 "JoinBench$Form" "number" "I", Cond.fieldLink RX2 15 "JoinBench$Form" "ends" "I", Cond.fieldLink RX2 18 "JoinBench$Form" "begins" "I", Cond.fieldLink RX2 21 "JoinBench$Tape" "bytes" "[B", Cond.fieldLink RX2 27 "JoinBench$Tape" "size" "I", Cond.fieldLink RX2 36 "JoinBench$Form" "letters" "[B", Cond.fieldLink RX2 39 "JoinBench$Form" "kind" "I", Cond.fieldLink RX2 42 "JoinBench$Form" "stem" "I", Cond.fieldLink RX2 45 "JoinBench$Form" "cost" "I", Cond.fieldLink RX2 48 "JoinBench$Form" "kept" "Z", Cond.methodLink RX2 30 yJ7_copyOf_9075b, Cond.static yJ7_copyOf_9075b, Cond.code yJ7_copyOf_9075b cJ7_copyOf_9075b 3 (some (.array .byte)), Cond.methodLink RJ7 310 ⟨"[B", "clone", "()Ljava/lang/Object;"⟩, Cond.sameMethod "[B" "java/lang/Object" "clone" "()Ljava/lang/Object;", Cond.native ⟨"java/lang/Object", "clone", "()Ljava/lang/Object;"⟩, Cond.instanceMethod ⟨"java/lang/Object", "clone", "()Ljava/lang/Object;"⟩, Cond.selects "[B" ⟨"[B", "clone", "()Ljava/lang/Object;"⟩ ⟨"java/lang/Object", "clone", "()Ljava/lang/Object;"⟩, Cond.classLink RJ7 311 "[B", Cond.methodLink RJ7 304 Lib.Math.min.name, Cond.static Lib.Math.min.name, Cond.initialized "java/lang/Math", Cond.code Lib.Math.min.name Lib.Math.min.code 2 (some .int)]
def wsL_law_r10 : List Cond := [Cond.methodLink RJ7 150 arraycopyName, Cond.native arraycopyName, Cond.static arraycopyName, Cond.initialized "java/lang/System", Cond.methodLink RX11 88 yX9_addForm, Cond.instanceMethod yX9_addForm, Cond.selects RX9 yX9_addForm yX9_addForm, Cond.code yX9_addForm cX9_addForm 3 (some .int), Cond.fieldLink RX9 34 "JoinBench$Form" "number" "I", Cond.methodLink RX9 37 yX9_markFit, Cond.instanceMethod yX9_markFit, Cond.selects RX9 yX9_markFit yX9_markFit, Cond.code yX9_markFit cX9_markFit 3 none, Cond.fieldLink RX9 42 "JoinBench$Form" "kept" "Z", Cond.fieldLink RX9 50 "JoinBench$Form" "ends" "I", Cond.fieldLink RX9 41 "JoinBench$Rule" "number" "I", Cond.fieldLink RX9 56 "JoinBench$Form" "begins" "I", Cond.methodLink RX9 46 yX7_isEndOf, Cond.instanceMethod yX7_isEndOf, Cond.selects RX7 yX7_isEndOf yX7_isEndOf, Cond.initialized RX7, Cond.code yX7_isEndOf cX7_isEndOf 3 (some .boolean), Cond.fieldLink RX7 54 "JoinBench$Form" "letters" "[B", Cond.fieldLink RX7 33 "JoinBench$Rule" "endSize" "I"]
def wsL_law_r11 : List Cond := [Cond.methodLink RX7 57 yX7_stands, Cond.instanceMethod yX7_stands, Cond.selects RX7 yX7_stands yX7_stands, Cond.code yX7_stands cX7_stands 7 (some .boolean), Cond.fieldLink RX7 30 "JoinBench$Rule" "letters" "[B", Cond.methodLink RX9 53 yX7_isBeginningOf, Cond.instanceMethod yX7_isBeginningOf, Cond.selects RX7 yX7_isBeginningOf yX7_isBeginningOf, Cond.code yX7_isBeginningOf cX7_isBeginningOf 2 (some .boolean), Cond.fieldLink RX7 36 "JoinBench$Rule" "beginningSize" "I", Cond.methodLink RL 27 yX12_form, Cond.instanceMethod yX12_form, Cond.selects RX12 yX12_form yX12_form, Cond.code yX12_form cX12_form 8 (some .int), Cond.fieldLink RX12 131 "JoinBenchModel" "forms" "I", Cond.methodLink RX12 127 yX12_isText, Cond.instanceMethod yX12_isText, Cond.selects RX12 yX12_isText yX12_isText, Cond.code yX12_isText cX12_isText 2 (some .boolean), Cond.methodLink RX12 134 yX12_in, Cond.static yX12_in, Cond.code yX12_in cX12_in 3 (some .boolean), Cond.methodLink RL 28 yX11_rule, Cond.instanceMethod yX11_rule]
def wsL_law_r12 : List Cond := [Cond.selects RX11 yX11_rule yX11_rule, Cond.code yX11_rule cX11_rule 8 (some .int), Cond.fieldLink RX11 92 "JoinBench$Tongue" "ruleCount" "I", Cond.classLink RX11 98 RX7, Cond.instantiable RX7 9, Cond.methodLink RX11 95 yX11_isDay, Cond.static yX11_isDay, Cond.code yX11_isDay cX11_isDay 1 (some .boolean), Cond.methodLink RX11 100 yX7_init, Cond.instanceMethod yX7_init, Cond.code yX7_init cX7_init 7 none, Cond.methodLink RX7 3 objectInit, Cond.fieldLink RX7 9 "JoinBench$Rule" "number" "I", Cond.fieldLink RX7 15 "JoinBench$Tape" "bytes" "[B", Cond.fieldLink RX7 21 "JoinBench$Tape" "size" "I", Cond.fieldLink RX7 39 "JoinBench$Rule" "comesFrom" "I", Cond.fieldLink RX7 42 "JoinBench$Rule" "comesSize" "I", Cond.fieldLink RX7 45 "JoinBench$Rule" "cost" "I", Cond.fieldLink RX7 48 "JoinBench$Rule" "firstDay" "I", Cond.fieldLink RX7 51 "JoinBench$Rule" "lastDay" "I", Cond.methodLink RX7 24 yJ7_copyOf_9075b, Cond.methodLink RX11 103 yX9_addRule, Cond.instanceMethod yX9_addRule, Cond.selects RX9 yX9_addRule yX9_addRule]
def wsL_law_r13 : List Cond := [Cond.code yX9_addRule cX9_addRule 3 (some .int), Cond.methodLink RL 31 yX12_rule, Cond.instanceMethod yX12_rule, Cond.selects RX12 yX12_rule yX12_rule, Cond.code yX12_rule cX12_rule 9 (some .int), Cond.fieldLink RX12 138 "JoinBenchModel" "rules" "I", Cond.methodLink RL 32 yX11_cost, Cond.instanceMethod yX11_cost, Cond.selects RX11 yX11_cost yX11_cost, Cond.code yX11_cost cX11_cost 5 (some .int), Cond.fieldLink RX11 111 "JoinBench$Form" "cost" "I", Cond.methodLink RX11 107 yX9_formAt, Cond.instanceMethod yX9_formAt, Cond.selects RX9 yX9_formAt yX9_formAt, Cond.code yX9_formAt cX9_formAt 2 (some (.object "JoinBench$Form")), Cond.methodLink RL 36 yX12_cost, Cond.instanceMethod yX12_cost, Cond.selects RX12 yX12_cost yX12_cost, Cond.code yX12_cost cX12_cost 4 (some .int), Cond.methodLink RX12 141 yX12_isForm, Cond.instanceMethod yX12_isForm, Cond.selects RX12 yX12_isForm yX12_isForm, Cond.code yX12_isForm cX12_isForm 2 (some .boolean), Cond.methodLink RL 37 yX11_meets]
def wsL_law_r14 : List Cond := [Cond.instanceMethod yX11_meets, Cond.selects RX11 yX11_meets yX11_meets, Cond.code yX11_meets cX11_meets 4 (some .boolean), Cond.methodLink RX11 114 yX9_setMeeting, Cond.instanceMethod yX9_setMeeting, Cond.selects RX9 yX9_setMeeting yX9_setMeeting, Cond.code yX9_setMeeting cX9_setMeeting 5 (some .boolean), Cond.methodLink RL 41 yX12_meets, Cond.instanceMethod yX12_meets, Cond.selects RX12 yX12_meets yX12_meets, Cond.code yX12_meets cX12_meets 4 (some .boolean), Cond.methodLink RX12 145 yX12_isKind, Cond.static yX12_isKind, Cond.code yX12_isKind cX12_isKind 1 (some .boolean), Cond.methodLink RL 42 yX11_becomes, Cond.instanceMethod yX11_becomes, Cond.selects RX11 yX11_becomes yX11_becomes, Cond.code yX11_becomes cX11_becomes 4 (some .int), Cond.methodLink RX11 118 yX10_setKind, Cond.instanceMethod yX10_setKind, Cond.selects RX10 yX10_setKind yX10_setKind, Cond.code yX10_setKind cX10_setKind 5 (some .int), Cond.methodLink RL 46 yX12_becomes, Cond.instanceMethod yX12_becomes]
def wsL_law_r15 : List Cond := [Cond.selects RX12 yX12_becomes yX12_becomes, Cond.code yX12_becomes cX12_becomes 5 (some .int), Cond.methodLink RL 47 yX11_fits, Cond.instanceMethod yX11_fits, Cond.selects RX11 yX11_fits yX11_fits, Cond.code yX11_fits cX11_fits 5 (some .int), Cond.methodLink RX11 122 yX11_rulesBetween, Cond.instanceMethod yX11_rulesBetween, Cond.selects RX11 yX11_rulesBetween yX11_rulesBetween, Cond.code yX11_rulesBetween cX11_rulesBetween 6 (some .int), Cond.fieldLink RX11 265 "JoinBench$Form" "ends" "I", Cond.fieldLink RX11 268 "JoinBench$Form" "begins" "I", Cond.methodLink RX11 271 yX9_rulesInForce, Cond.instanceMethod yX9_rulesInForce, Cond.selects RX9 yX9_rulesInForce yX9_rulesInForce, Cond.code yX9_rulesInForce cX9_rulesInForce 4 (some .int), Cond.fieldLink RX9 59 "JoinBench$Rule" "firstDay" "I", Cond.fieldLink RX9 62 "JoinBench$Rule" "lastDay" "I", Cond.methodLink RX11 125 yJ6_bitCount_0f7a4, Cond.static yJ6_bitCount_0f7a4, Cond.initialized RJ6, Cond.code yJ6_bitCount_0f7a4 cJ6_bitCount_0f7a4 1 (some .int), Cond.constant RJ6 265 (1431655765), Cond.constant RJ6 266 (858993459)]
def wsL_law_r16 : List Cond := [Cond.constant RJ6 267 (252645135), Cond.methodLink RL 50 yX12_fits, Cond.instanceMethod yX12_fits, Cond.selects RX12 yX12_fits yX12_fits, Cond.code yX12_fits cX12_fits 6 (some .int), Cond.methodLink RX12 148 yX12_isDay, Cond.static yX12_isDay, Cond.code yX12_isDay cX12_isDay 1 (some .boolean), Cond.methodLink RX12 151 yX12_fitsTwo, Cond.instanceMethod yX12_fitsTwo, Cond.selects RX12 yX12_fitsTwo yX12_fitsTwo, Cond.code yX12_fitsTwo cX12_fitsTwo 6 (some .boolean), Cond.methodLink RL 51 yX11_fitting, Cond.instanceMethod yX11_fitting, Cond.selects RX11 yX11_fitting yX11_fitting, Cond.code yX11_fitting cX11_fitting 8 (some .int), Cond.methodLink RX11 131 yX11_hasRule, Cond.static yX11_hasRule, Cond.code yX11_hasRule cX11_hasRule 2 (some .boolean), Cond.methodLink RL 55 yX12_fitting, Cond.instanceMethod yX12_fitting, Cond.selects RX12 yX12_fitting yX12_fitting, Cond.code yX12_fitting cX12_fitting 7 (some .int), Cond.methodLink RL 56 yX11_row]
def wsL_law_r17 : List Cond := [Cond.instanceMethod yX11_row, Cond.selects RX11 yX11_row yX11_row, Cond.code yX11_row cX11_row 3 (some .int), Cond.fieldLink RX11 135 "JoinBench$Row" "chain" "LJoinBench$Chain;", Cond.fieldLink RX11 139 "JoinBench$Chain" "size" "I", Cond.fieldLink RX11 142 "JoinBench$Row" "day" "I", Cond.methodLink RL 59 yX12_row, Cond.instanceMethod yX12_row, Cond.selects RX12 yX12_row yX12_row, Cond.code yX12_row cX12_row 3 (some .int), Cond.fieldLink RX12 155 "JoinBenchModel" "rowMany" "I", Cond.fieldLink RX12 158 "JoinBenchModel" "rowDay" "I", Cond.methodLink RL 60 yX11_joins, Cond.instanceMethod yX11_joins, Cond.selects RX11 yX11_joins yX11_joins, Cond.code yX11_joins cX11_joins 5 (some .int), Cond.methodLink RX11 145 yX0_last, Cond.instanceMethod yX0_last, Cond.selects RX0 yX0_last yX0_last, Cond.code yX0_last cX0_last 1 (some (.object "JoinBench$Form")), Cond.methodLink RX0 27 yX0_formAt, Cond.instanceMethod yX0_formAt, Cond.selects RX0 yX0_formAt yX0_formAt, Cond.code yX0_formAt cX0_formAt 2 (some (.object "JoinBench$Form"))]
def wsL_law_r18 : List Cond := [Cond.methodLink RX11 149 yX0_append, Cond.instanceMethod yX0_append, Cond.selects RX0 yX0_append yX0_append, Cond.code yX0_append cX0_append 3 none, Cond.methodLink RX11 153 yX11_canFollow, Cond.instanceMethod yX11_canFollow, Cond.selects RX11 yX11_canFollow yX11_canFollow, Cond.code yX11_canFollow cX11_canFollow 6 (some .boolean), Cond.fieldLink RX11 250 "JoinBench$Form" "letters" "[B", Cond.fieldLink RX11 277 "JoinBench$Rule" "endSize" "I", Cond.fieldLink RX11 280 "JoinBench$Rule" "beginningSize" "I", Cond.methodLink RX11 157 yX9_ruleAt, Cond.instanceMethod yX9_ruleAt, Cond.selects RX9 yX9_ruleAt yX9_ruleAt, Cond.code yX9_ruleAt cX9_ruleAt 2 (some (.object "JoinBench$Rule")), Cond.methodLink RX11 274 yX0_lastCut, Cond.instanceMethod yX0_lastCut, Cond.selects RX0 yX0_lastCut yX0_lastCut, Cond.code yX0_lastCut cX0_lastCut 1 (some .int), Cond.methodLink RX0 31 yX0_cutAtBeginning, Cond.instanceMethod yX0_cutAtBeginning, Cond.selects RX0 yX0_cutAtBeginning yX0_cutAtBeginning, Cond.code yX0_cutAtBeginning cX0_cutAtBeginning 3 (some .int), Cond.fieldLink RX0 39 "JoinBench$Rule" "beginningSize" "I"]
def wsL_law_r19 : List Cond := [Cond.methodLink RX0 35 yX0_ruleAheadOf, Cond.instanceMethod yX0_ruleAheadOf, Cond.selects RX0 yX0_ruleAheadOf yX0_ruleAheadOf, Cond.code yX0_ruleAheadOf cX0_ruleAheadOf 2 (some (.object "JoinBench$Rule")), Cond.methodLink RL 63 yX12_joins, Cond.instanceMethod yX12_joins, Cond.selects RX12 yX12_joins yX12_joins, Cond.code yX12_joins cX12_joins 4 (some .int), Cond.methodLink RX12 161 yX12_fits, Cond.methodLink RX12 165 yX12_cutOf, Cond.instanceMethod yX12_cutOf, Cond.selects RX12 yX12_cutOf yX12_cutOf, Cond.code yX12_cutOf cX12_cutOf 2 (some .int), Cond.methodLink RL 64 yX11_joined, Cond.instanceMethod yX11_joined, Cond.selects RX11 yX11_joined yX11_joined, Cond.code yX11_joined cX11_joined 1 (some .int), Cond.fieldLink RX11 164 "JoinBench$Row" "outSize" "I", Cond.methodLink RX11 161 yX6_join, Cond.instanceMethod yX6_join, Cond.selects RX6 yX6_join yX6_join, Cond.code yX6_join cX6_join 4 none, Cond.fieldLink RX6 29 "JoinBench$Chain" "size" "I", Cond.fieldLink RX6 32 "JoinBench$Chain" "rules" "[LJoinBench$Rule;"]
def wsL_law_r20 : List Cond := [Cond.fieldLink RX6 36 "JoinBench$Rule" "letters" "[B", Cond.fieldLink RX6 41 "JoinBench$Rule" "comesFrom" "I", Cond.fieldLink RX6 48 "JoinBench$Chain" "forms" "[LJoinBench$Form;", Cond.fieldLink RX6 52 "JoinBench$Form" "letters" "[B", Cond.methodLink RX6 44 yX6_write, Cond.instanceMethod yX6_write, Cond.selects RX6 yX6_write yX6_write, Cond.code yX6_write cX6_write 5 none, Cond.methodLink RX6 55 yX0_cutAtBeginning, Cond.methodLink RX6 59 yX0_cutAtEnd, Cond.instanceMethod yX0_cutAtEnd, Cond.selects RX0 yX0_cutAtEnd yX0_cutAtEnd, Cond.code yX0_cutAtEnd cX0_cutAtEnd 3 (some .int), Cond.fieldLink RX0 42 "JoinBench$Rule" "endSize" "I", Cond.methodLink RL 68 yX12_joined, Cond.instanceMethod yX12_joined, Cond.selects RX12 yX12_joined yX12_joined, Cond.code yX12_joined cX12_joined 6 (some .int), Cond.fieldLink RX12 169 "JoinBenchModel" "outMany" "I", Cond.methodLink RX12 172 yX12_puts, Cond.instanceMethod yX12_puts, Cond.selects RX12 yX12_puts yX12_puts, Cond.code yX12_puts cX12_puts 2 none, Cond.methodLink RL 69 yX11_letter]
def wsL_law_r21 : List Cond := [Cond.instanceMethod yX11_letter, Cond.selects RX11 yX11_letter yX11_letter, Cond.code yX11_letter cX11_letter 2 (some .int), Cond.fieldLink RX11 167 "JoinBench$Row" "out" "[B", Cond.methodLink RL 72 yX12_letter, Cond.instanceMethod yX12_letter, Cond.selects RX12 yX12_letter yX12_letter, Cond.code yX12_letter cX12_letter 2 (some .int), Cond.methodLink RL 73 yX11_back, Cond.instanceMethod yX11_back, Cond.selects RX11 yX11_back yX11_back, Cond.code yX11_back cX11_back 2 (some .int), Cond.methodLink RX11 171 yX8_addByte, Cond.methodLink RL 76 yX12_back, Cond.instanceMethod yX12_back, Cond.selects RX12 yX12_back yX12_back, Cond.code yX12_back cX12_back 2 (some .int), Cond.methodLink RL 77 yX11_part, Cond.instanceMethod yX11_part, Cond.selects RX11 yX11_part yX11_part, Cond.code yX11_part cX11_part 4 (some .long), Cond.constantLong RX11 174 (-1), Cond.classLink RX11 176 RX4, Cond.instantiable RX4 10]
def wsL_law_r22 : List Cond := [Cond.initialized RX4, Cond.fieldLink RX11 181 "JoinBench$Tape" "bytes" "[B", Cond.fieldLink RX11 191 "JoinBench$Parter" "counted" "J", Cond.methodLink RX11 178 yX4_init, Cond.instanceMethod yX4_init, Cond.code yX4_init cX4_init 3 none, Cond.methodLink RX4 5 objectInit, Cond.fieldLink RX4 11 "JoinBench$Parter" "countedUncut" "J", Cond.fieldLink RX4 15 "JoinBench$Parter" "counted" "J", Cond.fieldLink RX4 18 "JoinBench$Parter" "left" "Z", Cond.classLink RX4 22 RX5, Cond.fieldLink RX4 24 "JoinBench$Parter" "told" "[LJoinBench$Path;", Cond.fieldLink RX4 28 "JoinBench$Parter" "toldCount" "I", Cond.fieldLink RX4 32 "JoinBench$Parter" "grown" "[LJoinBench$Path;", Cond.fieldLink RX4 35 "JoinBench$Parter" "keys" "[I", Cond.fieldLink RX4 39 "JoinBench$Parter" "keyCount" "I", Cond.fieldLink RX4 42 "JoinBench$Parter" "tongue" "LJoinBench$Tongue;", Cond.classLink RX4 46 RX3, Cond.instantiable RX3 11, Cond.initialized RX3, Cond.fieldLink RX4 51 "JoinBench$Parter" "lattice" "LJoinBench$Lattice;", Cond.instantiable RX5 6, Cond.initialized RX5, Cond.methodLink RX4 48 yX3_init]
def wsL_law_r23 : List Cond := [Cond.instanceMethod yX3_init, Cond.code yX3_init cX3_init 2 none, Cond.methodLink RX3 3 objectInit, Cond.classLink RX3 9 "[[I", Cond.fieldLink RX3 11 "JoinBench$Lattice" "cheapest" "[[I", Cond.fieldLink RX3 16 "JoinBench$Lattice" "size" "I", Cond.fieldLink RX3 20 "JoinBench$Lattice" "line" "[B", Cond.fieldLink RX3 24 "JoinBench$Lattice" "ways" "[J", Cond.classLink RX3 28 "[[J", Cond.fieldLink RX3 30 "JoinBench$Lattice" "plainWays" "[[J", Cond.fieldLink RX3 33 "JoinBench$Lattice" "plainCheapest" "[[I", Cond.fieldLink RX3 36 "JoinBench$Lattice" "ruledWays" "[[J", Cond.fieldLink RX3 39 "JoinBench$Lattice" "ruledCheapest" "[[I", Cond.fieldLink RX3 42 "JoinBench$Lattice" "inForce" "I", Cond.fieldLink RX3 45 "JoinBench$Lattice" "barred" "[Z", Cond.fieldLink RX3 49 "JoinBench$Lattice" "tongue" "LJoinBench$Tongue;", Cond.instanceMethod yX5_init, Cond.code yX5_init cX5_init 1 none, Cond.methodLink RX5 1 objectInit, Cond.classLink RX5 7 RX0, Cond.fieldLink RX5 10 "JoinBench$Path" "chain" "LJoinBench$Chain;", Cond.fieldLink RX5 16 "JoinBench$Path" "cost" "I", Cond.fieldLink RX5 20 "JoinBench$Path" "spent" "I", Cond.fieldLink RX5 23 "JoinBench$Path" "place" "I"]
def wsL_law_r24 : List Cond := [Cond.fieldLink RX5 26 "JoinBench$Path" "ended" "Z", Cond.fieldLink RX5 30 "JoinBench$Path" "rank" "I", Cond.methodLink RX11 184 yX4_countLine, Cond.instanceMethod yX4_countLine, Cond.selects RX4 yX4_countLine yX4_countLine, Cond.code yX4_countLine cX4_countLine 4 none, Cond.methodLink RX4 56 yX3_setLine, Cond.instanceMethod yX3_setLine, Cond.selects RX3 yX3_setLine yX3_setLine, Cond.code yX3_setLine cX3_setLine 5 none, Cond.methodLink RX3 53 Lib.Math.min.name, Cond.methodLink RX3 59 yX9_rulesInForce, Cond.methodLink RX4 60 yX3_fill, Cond.instanceMethod yX3_fill, Cond.selects RX3 yX3_fill yX3_fill, Cond.code yX3_fill cX3_fill 5 (some .long), Cond.fieldLink RX3 65 "JoinBench$Tongue" "forbidden" "[Z", Cond.constant RX3 74 (1048576), Cond.fieldLink RX3 78 "JoinBench$Tongue" "formCount" "I", Cond.fieldLink RX3 81 "JoinBench$Tongue" "forms" "[LJoinBench$Form;", Cond.methodLink RX3 68 yJ7_fill_d0a16, Cond.static yJ7_fill_d0a16, Cond.code yJ7_fill_d0a16 cJ7_fill_d0a16 5 none, Cond.methodLink RX3 75 yJ7_fill_53178]
def wsL_law_r25 : List Cond := [Cond.methodLink RX3 85 yX3_setForm, Cond.instanceMethod yX3_setForm, Cond.selects RX3 yX3_setForm yX3_setForm, Cond.code yX3_setForm cX3_setForm 6 none, Cond.fieldLink RX3 96 "JoinBench$Form" "number" "I", Cond.methodLink RX3 101 yX3_sharedLetters, Cond.instanceMethod yX3_sharedLetters, Cond.selects RX3 yX3_sharedLetters yX3_sharedLetters, Cond.code yX3_sharedLetters cX3_sharedLetters 6 (some .int), Cond.fieldLink RX3 112 "JoinBench$Form" "letters" "[B", Cond.methodLink RX3 105 yX3_addPlainEnd, Cond.instanceMethod yX3_addPlainEnd, Cond.selects RX3 yX3_addPlainEnd yX3_addPlainEnd, Cond.code yX3_addPlainEnd cX3_addPlainEnd 6 none, Cond.methodLink RX3 115 yX3_addToState, Cond.instanceMethod yX3_addToState, Cond.selects RX3 yX3_addToState yX3_addToState, Cond.code yX3_addToState cX3_addToState 8 none, Cond.fieldLink RX3 145 "JoinBench$Form" "cost" "I", Cond.static yX11_capped, Cond.code yX11_capped cX11_capped 2 (some .long), Cond.constantLong RX11 257 (1000000000000000), Cond.methodLink RX11 259 Lib.MathLoose.min_long.x, Cond.static Lib.MathLoose.min_long.x]
def wsL_law_r26 : List Cond := [Cond.code Lib.MathLoose.min_long.x Lib.MathLoose.min_long.code 4 (some .long), Cond.methodLink RX3 109 yX3_addRuledEnds, Cond.instanceMethod yX3_addRuledEnds, Cond.selects RX3 yX3_addRuledEnds yX3_addRuledEnds, Cond.code yX3_addRuledEnds cX3_addRuledEnds 10 none, Cond.fieldLink RX3 119 "JoinBench$Form" "ends" "I", Cond.fieldLink RX3 122 "JoinBench$Tongue" "ruleCount" "I", Cond.fieldLink RX3 129 "JoinBench$Tongue" "rules" "[LJoinBench$Rule;", Cond.fieldLink RX3 137 "JoinBench$Form" "kind" "I", Cond.fieldLink RX3 140 "JoinBench$Rule" "cost" "I", Cond.methodLink RX3 133 yX3_placeBehind, Cond.instanceMethod yX3_placeBehind, Cond.selects RX3 yX3_placeBehind yX3_placeBehind, Cond.code yX3_placeBehind cX3_placeBehind 8 (some .int), Cond.fieldLink RX3 166 "JoinBench$Rule" "endSize" "I", Cond.fieldLink RX3 169 "JoinBench$Rule" "comesFrom" "I", Cond.fieldLink RX3 172 "JoinBench$Rule" "comesSize" "I", Cond.methodLink RX3 175 yX7_stands, Cond.methodLink RX3 89 yX3_gatherForm, Cond.instanceMethod yX3_gatherForm, Cond.selects RX3 yX3_gatherForm yX3_gatherForm, Cond.code yX3_gatherForm cX3_gatherForm 4 none, Cond.methodLink RX3 146 yX3_gatherPlain, Cond.instanceMethod yX3_gatherPlain]
def wsL_law_r27 : List Cond := [Cond.selects RX3 yX3_gatherPlain yX3_gatherPlain, Cond.code yX3_gatherPlain cX3_gatherPlain 5 none, Cond.methodLink RX3 153 yX3_canMeetPlain, Cond.instanceMethod yX3_canMeetPlain, Cond.selects RX3 yX3_canMeetPlain yX3_canMeetPlain, Cond.code yX3_canMeetPlain cX3_canMeetPlain 3 (some .boolean), Cond.fieldLink RX3 157 "JoinBench$Form" "begins" "I", Cond.methodLink RX3 149 yX3_gatherRuled, Cond.instanceMethod yX3_gatherRuled, Cond.selects RX3 yX3_gatherRuled yX3_gatherRuled, Cond.code yX3_gatherRuled cX3_gatherRuled 6 none, Cond.fieldLink RX3 160 "JoinBench$Rule" "beginningSize" "I", Cond.methodLink RX3 163 yX3_gatherBehindRule, Cond.instanceMethod yX3_gatherBehindRule, Cond.selects RX3 yX3_gatherBehindRule yX3_gatherBehindRule, Cond.code yX3_gatherBehindRule cX3_gatherBehindRule 7 none, Cond.methodLink RX4 64 yX9_allMayMeet, Cond.instanceMethod yX9_allMayMeet, Cond.selects RX9 yX9_allMayMeet yX9_allMayMeet, Cond.code yX9_allMayMeet cX9_allMayMeet 2 (some .boolean), Cond.methodLink RX11 188 yX4_tell, Cond.instanceMethod yX4_tell, Cond.selects RX4 yX4_tell yX4_tell, Cond.code yX4_tell cX4_tell 2 none]
def wsL_law_r28 : List Cond := [Cond.fieldLink RX4 73 "JoinBench$Lattice" "size" "I", Cond.methodLink RX4 70 yX4_startPaths, Cond.instanceMethod yX4_startPaths, Cond.selects RX4 yX4_startPaths yX4_startPaths, Cond.code yX4_startPaths cX4_startPaths 3 none, Cond.fieldLink RX4 85 "JoinBench$Tongue" "formCount" "I", Cond.fieldLink RX4 88 "JoinBench$Lattice" "cheapest" "[[I", Cond.fieldLink RX4 96 "JoinBench$Path" "chain" "LJoinBench$Chain;", Cond.fieldLink RX4 100 "JoinBench$Chain" "size" "I", Cond.fieldLink RX4 115 "JoinBench$Path" "cost" "I", Cond.fieldLink RX4 118 "JoinBench$Path" "spent" "I", Cond.fieldLink RX4 121 "JoinBench$Path" "place" "I", Cond.fieldLink RX4 82 "JoinBench$Path" "ended" "Z", Cond.fieldLink RX4 127 "JoinBench$Path" "rank" "I", Cond.methodLink RX4 92 yX4_offer, Cond.instanceMethod yX4_offer, Cond.selects RX4 yX4_offer yX4_offer, Cond.code yX4_offer cX4_offer 7 none, Cond.constant RX4 200 (1048576), Cond.methodLink RX4 103 yX4_keyForm, Cond.static yX4_keyForm, Cond.code yX4_keyForm cX4_keyForm 1 (some .int), Cond.methodLink RX4 107 yX9_formAt, Cond.methodLink RX4 111 yX0_append]
def wsL_law_r29 : List Cond := [Cond.methodLink RX4 124 yX4_rankOf, Cond.instanceMethod yX4_rankOf, Cond.selects RX4 yX4_rankOf yX4_rankOf, Cond.code yX4_rankOf cX4_rankOf 5 (some .int), Cond.methodLink RX4 76 yX4_allEnded, Cond.instanceMethod yX4_allEnded, Cond.selects RX4 yX4_allEnded yX4_allEnded, Cond.code yX4_allEnded cX4_allEnded 2 (some .boolean), Cond.methodLink RX4 79 yX4_growPaths, Cond.instanceMethod yX4_growPaths, Cond.selects RX4 yX4_growPaths yX4_growPaths, Cond.code yX4_growPaths cX4_growPaths 2 none, Cond.methodLink RX4 130 yX4_offerPlainSteps, Cond.instanceMethod yX4_offerPlainSteps, Cond.selects RX4 yX4_offerPlainSteps yX4_offerPlainSteps, Cond.code yX4_offerPlainSteps cX4_offerPlainSteps 8 none, Cond.fieldLink RX4 153 "JoinBench$Form" "cost" "I", Cond.fieldLink RX4 156 "JoinBench$Form" "letters" "[B", Cond.fieldLink RX4 160 "JoinBench$Tongue" "forms" "[LJoinBench$Form;", Cond.methodLink RX4 141 yX0_last, Cond.methodLink RX4 145 yX0_lastCut, Cond.methodLink RX4 149 yX3_sharedLetters, Cond.methodLink RX4 164 yX3_canMeetPlain, Cond.methodLink RX4 134 yX4_offerRuledSteps]
def wsL_law_r30 : List Cond := [Cond.instanceMethod yX4_offerRuledSteps, Cond.selects RX4 yX4_offerRuledSteps yX4_offerRuledSteps, Cond.code yX4_offerRuledSteps cX4_offerRuledSteps 7 none, Cond.fieldLink RX4 168 "JoinBench$Tongue" "ruleCount" "I", Cond.fieldLink RX4 171 "JoinBench$Form" "ends" "I", Cond.fieldLink RX4 178 "JoinBench$Tongue" "rules" "[LJoinBench$Rule;", Cond.methodLink RX4 182 yX3_placeBehind, Cond.methodLink RX4 186 yX4_offerStepsBehind, Cond.instanceMethod yX4_offerStepsBehind, Cond.selects RX4 yX4_offerStepsBehind yX4_offerStepsBehind, Cond.code yX4_offerStepsBehind cX4_offerStepsBehind 9 none, Cond.fieldLink RX4 190 "JoinBench$Rule" "cost" "I", Cond.fieldLink RX4 197 "JoinBench$Rule" "beginningSize" "I", Cond.methodLink RX4 193 yX3_canMeetBy, Cond.instanceMethod yX3_canMeetBy, Cond.selects RX3 yX3_canMeetBy yX3_canMeetBy, Cond.code yX3_canMeetBy cX3_canMeetBy 4 (some .boolean), Cond.methodLink RX4 137 yX4_grow, Cond.instanceMethod yX4_grow, Cond.selects RX4 yX4_grow yX4_grow, Cond.code yX4_grow cX4_grow 8 none, Cond.fieldLink RX4 213 "JoinBench$Rule" "comesSize" "I", Cond.fieldLink RX4 216 "JoinBench$Rule" "endSize" "I", Cond.methodLink RX4 201 yX4_pathOfRank]
def wsL_law_r31 : List Cond := [Cond.instanceMethod yX4_pathOfRank, Cond.selects RX4 yX4_pathOfRank yX4_pathOfRank, Cond.code yX4_pathOfRank cX4_pathOfRank 3 (some (.object "JoinBench$Path")), Cond.methodLink RX4 205 yX0_copyFrom, Cond.instanceMethod yX0_copyFrom, Cond.selects RX0 yX0_copyFrom yX0_copyFrom, Cond.code yX0_copyFrom cX0_copyFrom 3 none, Cond.methodLink RX4 209 yX9_ruleAt, Cond.methodLink RL 81 yX12_part, Cond.instanceMethod yX12_part, Cond.selects RX12 yX12_part yX12_part, Cond.code yX12_part cX12_part 9 (some .long), Cond.constantLong RX12 221 (-1), Cond.fieldLink RX12 175 "JoinBenchModel" "lineSize" "I", Cond.fieldLink RX12 223 "JoinBenchModel" "hasParted" "Z", Cond.fieldLink RX12 182 "JoinBenchModel" "isCut" "Z", Cond.fieldLink RX12 230 "JoinBenchModel" "all" "J", Cond.fieldLink RX12 234 "JoinBenchModel" "counted" "J", Cond.fieldLink RX12 237 "JoinBenchModel" "isLeft" "Z", Cond.fieldLink RX12 218 "JoinBenchModel" "told" "I", Cond.constant RX12 240 (1073741823), Cond.methodLink RX12 226 yX12_partings, Cond.instanceMethod yX12_partings, Cond.selects RX12 yX12_partings yX12_partings]
def wsL_law_r32 : List Cond := [Cond.code yX12_partings cX12_partings 4 (some .long), Cond.methodLink RX12 212 yX12_reaches, Cond.instanceMethod yX12_reaches, Cond.selects RX12 yX12_reaches yX12_reaches, Cond.code yX12_reaches cX12_reaches 4 none, Cond.methodLink RX12 186 yX12_placeOf, Cond.static yX12_placeOf, Cond.code yX12_placeOf cX12_placeOf 3 (some .int), Cond.methodLink RX12 189 yX12_goesOn, Cond.instanceMethod yX12_goesOn, Cond.selects RX12 yX12_goesOn yX12_goesOn, Cond.code yX12_goesOn cX12_goesOn 7 none, Cond.methodLink RX12 193 yX12_isBetween, Cond.instanceMethod yX12_isBetween, Cond.selects RX12 yX12_isBetween yX12_isBetween, Cond.code yX12_isBetween cX12_isBetween 4 (some .boolean), Cond.methodLink RX12 196 yX12_passes, Cond.instanceMethod yX12_passes, Cond.selects RX12 yX12_passes yX12_passes, Cond.code yX12_passes cX12_passes 7 (some .int), Cond.methodLink RX12 178 yX12_behind, Cond.instanceMethod yX12_behind, Cond.selects RX12 yX12_behind yX12_behind, Cond.code yX12_behind cX12_behind 6 (some .int)]
def wsL_law_r33 : List Cond := [Cond.methodLink RX12 215 yX12_counts, Cond.instanceMethod yX12_counts, Cond.selects RX12 yX12_counts yX12_counts, Cond.code yX12_counts cX12_counts 11 none, Cond.methodLink RX12 201 yX12_keeps, Cond.instanceMethod yX12_keeps, Cond.selects RX12 yX12_keeps yX12_keeps, Cond.code yX12_keeps cX12_keeps 5 none, Cond.methodLink RX12 205 yX12_plus, Cond.static yX12_plus, Cond.code yX12_plus cX12_plus 4 (some .long), Cond.constantLong RX12 199 (1000000000000000), Cond.methodLink RX12 209 yX12_costOf, Cond.static yX12_costOf, Cond.code yX12_costOf cX12_costOf 1 (some .int), Cond.methodLink RX12 241 yX12_tells, Cond.instanceMethod yX12_tells, Cond.selects RX12 yX12_tells yX12_tells, Cond.code yX12_tells cX12_tells 10 none, Cond.methodLink RL 82 yX11_parted, Cond.instanceMethod yX11_parted, Cond.selects RX11 yX11_parted yX11_parted, Cond.code yX11_parted cX11_parted 2 (some .long), Cond.fieldLink RX11 195 "JoinBench$Parter" "countedUncut" "J"]
def wsL_law_r34 : List Cond := [Cond.fieldLink RX11 198 "JoinBench$Parter" "left" "Z", Cond.fieldLink RX11 202 "JoinBench$Parter" "toldCount" "I", Cond.methodLink RL 85 yX12_parted, Cond.instanceMethod yX12_parted, Cond.selects RX12 yX12_parted yX12_parted, Cond.code yX12_parted cX12_parted 2 (some .long), Cond.methodLink RL 86 yX11_parting, Cond.instanceMethod yX11_parting, Cond.selects RX11 yX11_parting yX11_parting, Cond.code yX11_parting cX11_parting 5 (some .int), Cond.fieldLink RX11 209 "JoinBench$Path" "cost" "I", Cond.fieldLink RX11 212 "JoinBench$Path" "chain" "LJoinBench$Chain;", Cond.methodLink RX11 205 yX11_toldPath, Cond.instanceMethod yX11_toldPath, Cond.selects RX11 yX11_toldPath yX11_toldPath, Cond.code yX11_toldPath cX11_toldPath 2 (some (.object "JoinBench$Path")), Cond.fieldLink RX11 283 "JoinBench$Parter" "told" "[LJoinBench$Path;", Cond.methodLink RL 89 yX12_parting, Cond.instanceMethod yX12_parting, Cond.selects RX12 yX12_parting yX12_parting, Cond.code yX12_parting cX12_parting 3 (some .int), Cond.methodLink RX12 244 yX12_isTold, Cond.instanceMethod yX12_isTold, Cond.selects RX12 yX12_isTold yX12_isTold]
def wsL_law_r35 : List Cond := [Cond.code yX12_isTold cX12_isTold 2 (some .boolean), Cond.methodLink RL 90 yX11_formOf, Cond.instanceMethod yX11_formOf, Cond.selects RX11 yX11_formOf yX11_formOf, Cond.code yX11_formOf cX11_formOf 5 (some .int), Cond.fieldLink RX11 214 "JoinBench$Form" "number" "I", Cond.methodLink RX11 213 yX0_formAt, Cond.methodLink RL 93 yX12_formOf, Cond.instanceMethod yX12_formOf, Cond.selects RX12 yX12_formOf yX12_formOf, Cond.code yX12_formOf cX12_formOf 3 (some .int), Cond.methodLink RL 94 yX11_ruleOf, Cond.instanceMethod yX11_ruleOf, Cond.selects RX11 yX11_ruleOf yX11_ruleOf, Cond.code yX11_ruleOf cX11_ruleOf 5 (some .int), Cond.fieldLink RX11 220 "JoinBench$Rule" "number" "I", Cond.methodLink RX11 217 yX0_ruleAheadOf, Cond.methodLink RL 97 yX12_ruleOf, Cond.instanceMethod yX12_ruleOf, Cond.selects RX12 yX12_ruleOf yX12_ruleOf, Cond.code yX12_ruleOf cX12_ruleOf 3 (some .int), Cond.methodLink RL 98 yX11_trees, Cond.instanceMethod yX11_trees, Cond.selects RX11 yX11_trees yX11_trees]
def wsL_law_r36 : List Cond := [Cond.code yX11_trees cX11_trees 4 (some .long), Cond.methodLink RX11 221 yX10_waysTo, Cond.instanceMethod yX10_waysTo, Cond.selects RX10 yX10_waysTo yX10_waysTo, Cond.code yX10_waysTo cX10_waysTo 5 (some .long), Cond.classLink RX10 25 "[[J", Cond.fieldLink RX10 26 "JoinBench$Chain" "size" "I", Cond.fieldLink RX10 35 "JoinBench$Chain" "forms" "[LJoinBench$Form;", Cond.fieldLink RX10 39 "JoinBench$Form" "kind" "I", Cond.methodLink RX10 32 yJ7_fill_d0a16, Cond.methodLink RX10 44 yX10_addSplits, Cond.instanceMethod yX10_addSplits, Cond.selects RX10 yX10_addSplits yX10_addSplits, Cond.code yX10_addSplits cX10_addSplits 7 none, Cond.methodLink RX10 48 yX10_addSeconds, Cond.instanceMethod yX10_addSeconds, Cond.selects RX10 yX10_addSeconds yX10_addSeconds, Cond.code yX10_addSeconds cX10_addSeconds 14 none, Cond.methodLink RX10 52 yX10_cappedProduct, Cond.static yX10_cappedProduct, Cond.code yX10_cappedProduct cX10_cappedProduct 4 (some .long), Cond.constantLong RX10 60 (1000000000000000), Cond.methodLink RL 102 yX12_trees, Cond.instanceMethod yX12_trees]
def wsL_law_r37 : List Cond := [Cond.selects RX12 yX12_trees yX12_trees, Cond.code yX12_trees cX12_trees 10 (some .long), Cond.methodLink RX12 247 yX12_times, Cond.static yX12_times, Cond.code yX12_times cX12_times 4 (some .long), Cond.methodLink RL 103 yX11_choose, Cond.instanceMethod yX11_choose, Cond.selects RX11 yX11_choose yX11_choose, Cond.code yX11_choose cX11_choose 3 (some .int), Cond.fieldLink RX11 232 "JoinBench$Choices" "size" "I", Cond.methodLink RX11 225 yX1_remember, Cond.instanceMethod yX1_remember, Cond.selects RX1 yX1_remember yX1_remember, Cond.code yX1_remember cX1_remember 4 none, Cond.fieldLink RX1 33 "JoinBench$Tongue" "formCount" "I", Cond.fieldLink RX1 38 "JoinBench$Tongue" "forms" "[LJoinBench$Form;", Cond.fieldLink RX1 42 "JoinBench$Form" "cost" "I", Cond.methodLink RX1 47 arraycopyName, Cond.methodLink RX11 228 yX1_learn, Cond.instanceMethod yX1_learn, Cond.selects RX1 yX1_learn yX1_learn, Cond.code yX1_learn cX1_learn 7 none, Cond.fieldLink RX1 53 "JoinBench$Chain" "size" "I", Cond.fieldLink RX1 56 "JoinBench$Chain" "forms" "[LJoinBench$Form;"]
def wsL_law_r38 : List Cond := [Cond.fieldLink RX1 57 "JoinBench$Form" "stem" "I", Cond.fieldLink RX1 60 "JoinBench$Form" "number" "I", Cond.methodLink RX1 63 Lib.Math.max.name, Cond.static Lib.Math.max.name, Cond.code Lib.Math.max.name Lib.Math.max.code 2 (some .int), Cond.methodLink RL 106 yX12_choose, Cond.instanceMethod yX12_choose, Cond.selects RX12 yX12_choose yX12_choose, Cond.code yX12_choose cX12_choose 5 (some .int), Cond.fieldLink RX12 250 "JoinBenchModel" "choices" "I", Cond.methodLink RL 107 yX11_undo, Cond.instanceMethod yX11_undo, Cond.selects RX11 yX11_undo yX11_undo, Cond.code yX11_undo cX11_undo 1 (some .boolean), Cond.methodLink RX11 233 yX1_restore, Cond.instanceMethod yX1_restore, Cond.selects RX1 yX1_restore yX1_restore, Cond.code yX1_restore cX1_restore 4 (some .boolean), Cond.methodLink RL 111 yX12_undo, Cond.instanceMethod yX12_undo, Cond.selects RX12 yX12_undo yX12_undo, Cond.code yX12_undo cX12_undo 2 (some .boolean), Cond.methodLink RL 112 yX11_step, Cond.instanceMethod yX11_step]
def wsL_law_r39 : List Cond := [Cond.selects RX11 yX11_step yX11_step, Cond.code yX11_step cX11_step 3 (some .int), Cond.methodLink RL 115 yX12_step, Cond.instanceMethod yX12_step, Cond.selects RX12 yX12_step yX12_step, Cond.code yX12_step cX12_step 3 (some .int), Cond.methodLink RL 116 yX11_uses, Cond.instanceMethod yX11_uses, Cond.selects RX11 yX11_uses yX11_uses, Cond.code yX11_uses cX11_uses 2 (some .int), Cond.fieldLink RX11 237 "JoinBench$Choices" "uses" "[I", Cond.methodLink RL 119 yX12_uses, Cond.instanceMethod yX12_uses, Cond.selects RX12 yX12_uses yX12_uses, Cond.code yX12_uses cX12_uses 2 (some .int), Cond.methodLink RL 120 yX11_about, Cond.instanceMethod yX11_about, Cond.selects RX11 yX11_about yX11_about, Cond.code yX11_about cX11_about 4 (some .int), Cond.fieldLink RX11 241 "JoinBench$Form" "kind" "I", Cond.fieldLink RX11 244 "JoinBench$Form" "stem" "I", Cond.fieldLink RX11 247 "JoinBench$Form" "kept" "Z", Cond.methodLink RL 123 yX12_about, Cond.instanceMethod yX12_about]
def wsL_law_r40 : List Cond := [Cond.selects RX12 yX12_about yX12_about, Cond.code yX12_about cX12_about 3 (some .int), Cond.methodLink RL 124 yX11_count, Cond.instanceMethod yX11_count, Cond.selects RX11 yX11_count yX11_count, Cond.code yX11_count cX11_count 2 (some .int), Cond.methodLink RX11 253 yX0_price, Cond.instanceMethod yX0_price, Cond.selects RX0 yX0_price yX0_price, Cond.code yX0_price cX0_price 3 (some .int), Cond.fieldLink RX0 45 "JoinBench$Form" "cost" "I", Cond.fieldLink RX0 48 "JoinBench$Rule" "cost" "I", Cond.methodLink RL 127 yX12_count, Cond.instanceMethod yX12_count, Cond.selects RX12 yX12_count yX12_count, Cond.code yX12_count cX12_count 4 (some .int)]
def wsL_law : List Cond := (wsL_law_r1 ++ (wsL_law_r2 ++ (wsL_law_r3 ++ (wsL_law_r4 ++ (wsL_law_r5 ++ (wsL_law_r6 ++ (wsL_law_r7 ++ (wsL_law_r8 ++ (wsL_law_r9 ++ (wsL_law_r10 ++ (wsL_law_r11 ++ (wsL_law_r12 ++ (wsL_law_r13 ++ (wsL_law_r14 ++ (wsL_law_r15 ++ (wsL_law_r16 ++ (wsL_law_r17 ++ (wsL_law_r18 ++ (wsL_law_r19 ++ (wsL_law_r20 ++ (wsL_law_r21 ++ (wsL_law_r22 ++ (wsL_law_r23 ++ (wsL_law_r24 ++ (wsL_law_r25 ++ (wsL_law_r26 ++ (wsL_law_r27 ++ (wsL_law_r28 ++ (wsL_law_r29 ++ (wsL_law_r30 ++ (wsL_law_r31 ++ (wsL_law_r32 ++ (wsL_law_r33 ++ (wsL_law_r34 ++ (wsL_law_r35 ++ (wsL_law_r36 ++ (wsL_law_r37 ++ (wsL_law_r38 ++ (wsL_law_r39 ++ wsL_law_r40))))))))))))))))))))))))))))))))))))))) ++ wsX110 ++ wsX120 ++ wsX80 ++ wsX90 ++ wsX60 ++ wsX100 ++ wsX10 ++ wsX00 ++ wsX20 ++ wsX70 ++ wsX40 ++ wsX30 ++ wsX50 ++ ([] : List Cond)
theorem dX0_init_0 : decode cX0_init 0 = .ok (.aload_n 0, 1) := by decide +kernel
theorem dX0_init_1 : decode cX0_init 1 = .ok (.invokespecial 3, 3) := by decide +kernel
theorem dX0_init_4 : decode cX0_init 4 = .ok (.aload_n 0, 1) := by decide +kernel
theorem dX0_init_5 : decode cX0_init 5 = .ok (.bipush 40, 2) := by decide +kernel
theorem dX0_init_7 : decode cX0_init 7 = .ok (.anewarray 9, 3) := by decide +kernel
theorem dX0_init_10 : decode cX0_init 10 = .ok (.putfield 11, 3) := by decide +kernel
theorem dX0_init_13 : decode cX0_init 13 = .ok (.aload_n 0, 1) := by decide +kernel
theorem dX0_init_14 : decode cX0_init 14 = .ok (.bipush 40, 2) := by decide +kernel
theorem dX0_init_16 : decode cX0_init 16 = .ok (.anewarray 17, 3) := by decide +kernel
theorem dX0_init_19 : decode cX0_init 19 = .ok (.putfield 19, 3) := by decide +kernel
theorem dX0_init_22 : decode cX0_init 22 = .ok (.aload_n 0, 1) := by decide +kernel
theorem dX0_init_23 : decode cX0_init 23 = .ok (.iconst 0, 1) := by decide +kernel
theorem dX0_init_24 : decode cX0_init 24 = .ok (.putfield 23, 3) := by decide +kernel
theorem dX0_init_27 : decode cX0_init 27 = .ok (.return_, 1) := by decide +kernel
theorem dX0_price_0 : decode cX0_price 0 = .ok (.iconst 0, 1) := by decide +kernel
theorem dX0_price_1 : decode cX0_price 1 = .ok (.istore_n 1, 1) := by decide +kernel
theorem dX0_price_2 : decode cX0_price 2 = .ok (.iconst 0, 1) := by decide +kernel
theorem dX0_price_3 : decode cX0_price 3 = .ok (.istore_n 2, 1) := by decide +kernel
theorem dX0_price_4 : decode cX0_price 4 = .ok (.iload_n 2, 1) := by decide +kernel
theorem dX0_price_5 : decode cX0_price 5 = .ok (.aload_n 0, 1) := by decide +kernel
theorem dX0_price_6 : decode cX0_price 6 = .ok (.getfield 23, 3) := by decide +kernel
theorem dX0_price_9 : decode cX0_price 9 = .ok (.if_icmp .ge 42, 3) := by decide +kernel
theorem dX0_price_51 : decode cX0_price 51 = .ok (.iload_n 1, 1) := by decide +kernel
theorem dX0_price_52 : decode cX0_price 52 = .ok (.ireturn, 1) := by decide +kernel
theorem dX1_init_0 : decode cX1_init 0 = .ok (.aload_n 0, 1) := by decide +kernel
theorem dX1_init_1 : decode cX1_init 1 = .ok (.invokespecial 3, 3) := by decide +kernel
theorem dX1_init_4 : decode cX1_init 4 = .ok (.aload_n 0, 1) := by decide +kernel
theorem dX1_init_5 : decode cX1_init 5 = .ok (.bipush 20, 2) := by decide +kernel
theorem dX1_init_7 : decode cX1_init 7 = .ok (.newarray .int, 2) := by decide +kernel
theorem dX1_init_9 : decode cX1_init 9 = .ok (.putfield 9, 3) := by decide +kernel
theorem dX1_init_12 : decode cX1_init 12 = .ok (.aload_n 0, 1) := by decide +kernel
theorem dX1_init_13 : decode cX1_init 13 = .ok (.iconst 0, 1) := by decide +kernel
theorem dX1_init_14 : decode cX1_init 14 = .ok (.putfield 15, 3) := by decide +kernel
theorem dX1_init_17 : decode cX1_init 17 = .ok (.aload_n 0, 1) := by decide +kernel
theorem dX1_init_18 : decode cX1_init 18 = .ok (.bipush 30, 2) := by decide +kernel
theorem dX1_init_20 : decode cX1_init 20 = .ok (.bipush 40, 2) := by decide +kernel
theorem dX1_init_22 : decode cX1_init 22 = .ok (.multianewarray 19 2, 4) := by decide +kernel
theorem dX1_init_26 : decode cX1_init 26 = .ok (.putfield 21, 3) := by decide +kernel
theorem dX1_init_29 : decode cX1_init 29 = .ok (.aload_n 0, 1) := by decide +kernel
theorem dX1_init_30 : decode cX1_init 30 = .ok (.bipush 30, 2) := by decide +kernel
theorem dX1_init_32 : decode cX1_init 32 = .ok (.bipush 20, 2) := by decide +kernel
theorem dX1_init_34 : decode cX1_init 34 = .ok (.multianewarray 19 2, 4) := by decide +kernel
theorem dX1_init_38 : decode cX1_init 38 = .ok (.putfield 24, 3) := by decide +kernel
theorem dX1_init_41 : decode cX1_init 41 = .ok (.aload_n 0, 1) := by decide +kernel
theorem dX1_init_42 : decode cX1_init 42 = .ok (.bipush 30, 2) := by decide +kernel
theorem dX1_init_44 : decode cX1_init 44 = .ok (.newarray .int, 2) := by decide +kernel
theorem dX1_init_46 : decode cX1_init 46 = .ok (.putfield 27, 3) := by decide +kernel
theorem dX1_init_49 : decode cX1_init 49 = .ok (.aload_n 0, 1) := by decide +kernel
theorem dX1_init_50 : decode cX1_init 50 = .ok (.iconst 0, 1) := by decide +kernel
theorem dX1_init_51 : decode cX1_init 51 = .ok (.putfield 30, 3) := by decide +kernel
theorem dX1_init_54 : decode cX1_init 54 = .ok (.return_, 1) := by decide +kernel
theorem dX1_restore_0 : decode cX1_restore 0 = .ok (.aload_n 0, 1) := by decide +kernel
theorem dX1_restore_1 : decode cX1_restore 1 = .ok (.getfield 15, 3) := by decide +kernel
theorem dX1_restore_4 : decode cX1_restore 4 = .ok (.ifCond .ne 5, 3) := by decide +kernel
theorem dX1_restore_7 : decode cX1_restore 7 = .ok (.iconst 0, 1) := by decide +kernel
theorem dX1_restore_8 : decode cX1_restore 8 = .ok (.ireturn, 1) := by decide +kernel
set_option maxRecDepth 20000 in
theorem ggX2_init_J7_copyOf_9075b : GoodIn wsX2_init wsJ7_copyOf_9075b := goodIn_r _ [17, 18, 19, 20, 21, 22, 23, 24, 25, 26, 27, 28, 29, 30, 31, 32] (by decide +kernel) (by decide +kernel)
set_option maxRecDepth 20000 in
theorem gX2_init_J7_copyOf_9075b : GoodIn wsX2_init (va_wsS RX2 30 yJ7_copyOf_9075b wsJ7_copyOf_9075b) := goodIn_app (goodIn_of _ (by decide +kernel)) ggX2_init_J7_copyOf_9075b
set_option maxRecDepth 20000 in
theorem ggX4_init_X3_init : GoodIn wsX4_init wsX3_init := goodIn_r _ [23, 24, 2, 3, 25, 11, 26, 27, 28, 29, 30, 31, 32, 33, 34, 35, 36, 37, 38, 39, 40, 71, 72, 73, 74, 75, 76, 77, 78, 79, 80, 81] (by decide +kernel) (by decide +kernel)
set_option maxRecDepth 20000 in
theorem gX4_init_X3_init : GoodIn wsX4_init (wsX3_init) := ggX4_init_X3_init
set_option maxRecDepth 20000 in
theorem ggX4_init_X5_init : GoodIn wsX4_init wsX5_init := goodIn_r _ [42, 43, 2, 3, 44, 45, 46, 47, 48, 49, 50, 51, 52, 53, 54, 55, 56, 57, 58, 59, 60, 88, 89, 90, 82, 83, 84, 85, 86, 87] (by decide +kernel) (by decide +kernel)
set_option maxRecDepth 20000 in
theorem gX4_init_X5_init_n55 : GoodIn wsX4_init (wsX5_init) := ggX4_init_X5_init
set_option maxRecDepth 20000 in
theorem ggX5_init_X0_init : GoodIn wsX5_init wsX0_init := goodIn_r _ [14, 15, 2, 3, 16, 17, 18, 19, 20, 21, 22, 23] (by decide +kernel) (by decide +kernel)
set_option maxRecDepth 20000 in
theorem gX5_init_X0_init_n9 : GoodIn wsX5_init (wsX0_init) := ggX5_init_X0_init
set_option maxRecDepth 20000 in
theorem ggX6_init_X0_init : GoodIn wsX6_init wsX0_init := goodIn_r _ [13, 14, 2, 3, 15, 16, 17, 18, 19, 20, 21, 22] (by decide +kernel) (by decide +kernel)
set_option maxRecDepth 20000 in
theorem gX6_init_X0_init_n11 : GoodIn wsX6_init (wsX0_init) := ggX6_init_X0_init
theorem dX6_init_0 : decode cX6_init 0 = .ok (.aload_n 0, 1) := by decide +kernel
theorem dX6_init_1 : decode cX6_init 1 = .ok (.invokespecial 3, 3) := by decide +kernel
theorem dX6_init_4 : decode cX6_init 4 = .ok (.aload_n 0, 1) := by decide +kernel
theorem dX6_init_5 : decode cX6_init 5 = .ok (.new 9, 3) := by decide +kernel
theorem dX6_init_8 : decode cX6_init 8 = .ok (.dup, 1) := by decide +kernel
theorem dX6_init_9 : decode cX6_init 9 = .ok (.invokespecial 11, 3) := by decide +kernel
theorem dX6_init_12 : decode cX6_init 12 = .ok (.putfield 12, 3) := by decide +kernel
theorem dX6_init_15 : decode cX6_init 15 = .ok (.aload_n 0, 1) := by decide +kernel
theorem dX6_init_16 : decode cX6_init 16 = .ok (.sipush 480, 3) := by decide +kernel
theorem dX6_init_19 : decode cX6_init 19 = .ok (.newarray .byte, 2) := by decide +kernel
theorem dX6_init_21 : decode cX6_init 21 = .ok (.putfield 18, 3) := by decide +kernel
theorem dX6_init_24 : decode cX6_init 24 = .ok (.aload_n 0, 1) := by decide +kernel
theorem dX6_init_25 : decode cX6_init 25 = .ok (.iconst 0, 1) := by decide +kernel
theorem dX6_init_26 : decode cX6_init 26 = .ok (.putfield 22, 3) := by decide +kernel
theorem dX6_init_29 : decode cX6_init 29 = .ok (.aload_n 0, 1) := by decide +kernel
theorem dX6_init_30 : decode cX6_init 30 = .ok (.iconst 0, 1) := by decide +kernel
theorem dX6_init_31 : decode cX6_init 31 = .ok (.putfield 26, 3) := by decide +kernel
theorem dX6_init_34 : decode cX6_init 34 = .ok (.return_, 1) := by decide +kernel
theorem dX6_join_0 : decode cX6_join 0 = .ok (.aload_n 0, 1) := by decide +kernel
theorem dX6_join_1 : decode cX6_join 1 = .ok (.iconst 0, 1) := by decide +kernel
theorem dX6_join_2 : decode cX6_join 2 = .ok (.putfield 26, 3) := by decide +kernel
theorem dX6_join_5 : decode cX6_join 5 = .ok (.iconst 0, 1) := by decide +kernel
theorem dX6_join_6 : decode cX6_join 6 = .ok (.istore_n 1, 1) := by decide +kernel
theorem dX6_join_7 : decode cX6_join 7 = .ok (.iload_n 1, 1) := by decide +kernel
theorem dX6_join_8 : decode cX6_join 8 = .ok (.aload_n 0, 1) := by decide +kernel
theorem dX6_join_9 : decode cX6_join 9 = .ok (.getfield 12, 3) := by decide +kernel
theorem dX6_join_12 : decode cX6_join 12 = .ok (.getfield 29, 3) := by decide +kernel
theorem dX6_join_15 : decode cX6_join 15 = .ok (.if_icmp .ge 77, 3) := by decide +kernel
theorem dX6_join_92 : decode cX6_join 92 = .ok (.return_, 1) := by decide +kernel
set_option maxRecDepth 20000 in
theorem ggX7_init_J7_copyOf_9075b : GoodIn wsX7_init wsJ7_copyOf_9075b := goodIn_r _ [18, 19, 20, 21, 22, 23, 24, 25, 26, 27, 28, 29, 30, 31, 32, 33] (by decide +kernel) (by decide +kernel)
set_option maxRecDepth 20000 in
theorem gX7_init_J7_copyOf_9075b : GoodIn wsX7_init (va_wsS RX7 24 yJ7_copyOf_9075b wsJ7_copyOf_9075b) := goodIn_app (goodIn_of _ (by decide +kernel)) ggX7_init_J7_copyOf_9075b
theorem dX8_init_0 : decode cX8_init 0 = .ok (.aload_n 0, 1) := by decide +kernel
theorem dX8_init_1 : decode cX8_init 1 = .ok (.invokespecial 3, 3) := by decide +kernel
theorem dX8_init_4 : decode cX8_init 4 = .ok (.aload_n 0, 1) := by decide +kernel
theorem dX8_init_5 : decode cX8_init 5 = .ok (.bipush 60, 2) := by decide +kernel
theorem dX8_init_7 : decode cX8_init 7 = .ok (.newarray .byte, 2) := by decide +kernel
theorem dX8_init_9 : decode cX8_init 9 = .ok (.putfield 9, 3) := by decide +kernel
theorem dX8_init_12 : decode cX8_init 12 = .ok (.aload_n 0, 1) := by decide +kernel
theorem dX8_init_13 : decode cX8_init 13 = .ok (.iconst 0, 1) := by decide +kernel
theorem dX8_init_14 : decode cX8_init 14 = .ok (.putfield 15, 3) := by decide +kernel
theorem dX8_init_17 : decode cX8_init 17 = .ok (.return_, 1) := by decide +kernel
theorem dX8_hasRoomFor_0 : decode cX8_hasRoomFor 0 = .ok (.iload_n 1, 1) := by decide +kernel
theorem dX8_hasRoomFor_1 : decode cX8_hasRoomFor 1 = .ok (.bipush 60, 2) := by decide +kernel
theorem dX8_hasRoomFor_3 : decode cX8_hasRoomFor 3 = .ok (.aload_n 0, 1) := by decide +kernel
theorem dX8_hasRoomFor_4 : decode cX8_hasRoomFor 4 = .ok (.getfield 15, 3) := by decide +kernel
theorem dX8_hasRoomFor_7 : decode cX8_hasRoomFor 7 = .ok (.isub, 1) := by decide +kernel
theorem dX8_hasRoomFor_8 : decode cX8_hasRoomFor 8 = .ok (.if_icmp .gt 7, 3) := by decide +kernel
theorem dX8_hasRoomFor_11 : decode cX8_hasRoomFor 11 = .ok (.iconst 1, 1) := by decide +kernel
theorem dX8_hasRoomFor_12 : decode cX8_hasRoomFor 12 = .ok (.goto 4, 3) := by decide +kernel
theorem dX8_hasRoomFor_15 : decode cX8_hasRoomFor 15 = .ok (.iconst 0, 1) := by decide +kernel
theorem dX8_hasRoomFor_16 : decode cX8_hasRoomFor 16 = .ok (.ireturn, 1) := by decide +kernel
theorem dX8_addByte_0 : decode cX8_addByte 0 = .ok (.aload_n 0, 1) := by decide +kernel
theorem dX8_addByte_1 : decode cX8_addByte 1 = .ok (.getfield 15, 3) := by decide +kernel
theorem dX8_addByte_4 : decode cX8_addByte 4 = .ok (.bipush 60, 2) := by decide +kernel
theorem dX8_addByte_6 : decode cX8_addByte 6 = .ok (.if_icmp .ge 24, 3) := by decide +kernel
theorem dX8_addByte_9 : decode cX8_addByte 9 = .ok (.aload_n 0, 1) := by decide +kernel
theorem dX8_addByte_10 : decode cX8_addByte 10 = .ok (.getfield 9, 3) := by decide +kernel
theorem dX8_addByte_13 : decode cX8_addByte 13 = .ok (.aload_n 0, 1) := by decide +kernel
theorem dX8_addByte_14 : decode cX8_addByte 14 = .ok (.getfield 15, 3) := by decide +kernel
theorem dX8_addByte_17 : decode cX8_addByte 17 = .ok (.iload_n 1, 1) := by decide +kernel
theorem dX8_addByte_18 : decode cX8_addByte 18 = .ok (.i2b, 1) := by decide +kernel
theorem dX8_addByte_19 : decode cX8_addByte 19 = .ok (.bastore, 1) := by decide +kernel
theorem dX8_addByte_20 : decode cX8_addByte 20 = .ok (.aload_n 0, 1) := by decide +kernel
theorem dX8_addByte_21 : decode cX8_addByte 21 = .ok (.dup, 1) := by decide +kernel
theorem dX8_addByte_22 : decode cX8_addByte 22 = .ok (.getfield 15, 3) := by decide +kernel
theorem dX8_addByte_25 : decode cX8_addByte 25 = .ok (.iconst 1, 1) := by decide +kernel
theorem dX8_addByte_26 : decode cX8_addByte 26 = .ok (.iadd, 1) := by decide +kernel
theorem dX8_addByte_27 : decode cX8_addByte 27 = .ok (.putfield 15, 3) := by decide +kernel
theorem dX8_addByte_30 : decode cX8_addByte 30 = .ok (.return_, 1) := by decide +kernel
set_option maxRecDepth 20000 in
theorem ggX8_addNumber_X8_addByte : GoodIn wsX8_addNumber wsX8_addByte := goodIn_r _ [5, 6, 7, 8, 9] (by decide +kernel) (by decide +kernel)
set_option maxRecDepth 20000 in
theorem gX8_addNumber_X8_addByte : GoodIn wsX8_addNumber (wsV RX8 19 RX8 yX8_addByte wsX8_addByte) := goodIn_app (goodIn_of _ (by decide +kernel)) ggX8_addNumber_X8_addByte
theorem dX8_addNumber_0 : decode cX8_addNumber 0 = .ok (.bipush 24, 2) := by decide +kernel
theorem dX8_addNumber_2 : decode cX8_addNumber 2 = .ok (.istore_n 2, 1) := by decide +kernel
theorem dX8_addNumber_3 : decode cX8_addNumber 3 = .ok (.iload_n 2, 1) := by decide +kernel
theorem dX8_addNumber_4 : decode cX8_addNumber 4 = .ok (.ifCond .lt 16, 3) := by decide +kernel
theorem dX8_addNumber_7 : decode cX8_addNumber 7 = .ok (.aload_n 0, 1) := by decide +kernel
theorem dX8_addNumber_8 : decode cX8_addNumber 8 = .ok (.iload_n 1, 1) := by decide +kernel
theorem dX8_addNumber_9 : decode cX8_addNumber 9 = .ok (.iload_n 2, 1) := by decide +kernel
theorem dX8_addNumber_10 : decode cX8_addNumber 10 = .ok (.ishr, 1) := by decide +kernel
theorem dX8_addNumber_11 : decode cX8_addNumber 11 = .ok (.invokevirtual 19, 3) := by decide +kernel
theorem dX8_addNumber_14 : decode cX8_addNumber 14 = .ok (.iinc 2 (-8), 3) := by decide +kernel
theorem dX8_addNumber_17 : decode cX8_addNumber 17 = .ok (.goto (-14), 3) := by decide +kernel
theorem dX8_addNumber_20 : decode cX8_addNumber 20 = .ok (.return_, 1) := by decide +kernel
theorem dX9_init_0 : decode cX9_init 0 = .ok (.aload_n 0, 1) := by decide +kernel
theorem dX9_init_1 : decode cX9_init 1 = .ok (.invokespecial 3, 3) := by decide +kernel
theorem dX9_init_4 : decode cX9_init 4 = .ok (.aload_n 0, 1) := by decide +kernel
theorem dX9_init_5 : decode cX9_init 5 = .ok (.bipush 40, 2) := by decide +kernel
theorem dX9_init_7 : decode cX9_init 7 = .ok (.anewarray 9, 3) := by decide +kernel
theorem dX9_init_10 : decode cX9_init 10 = .ok (.putfield 11, 3) := by decide +kernel
theorem dX9_init_13 : decode cX9_init 13 = .ok (.aload_n 0, 1) := by decide +kernel
theorem dX9_init_14 : decode cX9_init 14 = .ok (.bipush 24, 2) := by decide +kernel
theorem dX9_init_16 : decode cX9_init 16 = .ok (.anewarray 17, 3) := by decide +kernel
theorem dX9_init_19 : decode cX9_init 19 = .ok (.putfield 19, 3) := by decide +kernel
theorem dX9_init_22 : decode cX9_init 22 = .ok (.aload_n 0, 1) := by decide +kernel
theorem dX9_init_23 : decode cX9_init 23 = .ok (.iconst 0, 1) := by decide +kernel
theorem dX9_init_24 : decode cX9_init 24 = .ok (.putfield 23, 3) := by decide +kernel
theorem dX9_init_27 : decode cX9_init 27 = .ok (.aload_n 0, 1) := by decide +kernel
theorem dX9_init_28 : decode cX9_init 28 = .ok (.iconst 0, 1) := by decide +kernel
theorem dX9_init_29 : decode cX9_init 29 = .ok (.putfield 27, 3) := by decide +kernel
theorem dX9_init_32 : decode cX9_init 32 = .ok (.aload_n 0, 1) := by decide +kernel
theorem dX9_init_33 : decode cX9_init 33 = .ok (.bipush 36, 2) := by decide +kernel
theorem dX9_init_35 : decode cX9_init 35 = .ok (.newarray .boolean, 2) := by decide +kernel
theorem dX9_init_37 : decode cX9_init 37 = .ok (.putfield 30, 3) := by decide +kernel
theorem dX9_init_40 : decode cX9_init 40 = .ok (.return_, 1) := by decide +kernel
theorem dX9_formAt_0 : decode cX9_formAt 0 = .ok (.iload_n 1, 1) := by decide +kernel
theorem dX9_formAt_1 : decode cX9_formAt 1 = .ok (.ifCond .lt 20, 3) := by decide +kernel
theorem dX9_formAt_4 : decode cX9_formAt 4 = .ok (.iload_n 1, 1) := by decide +kernel
theorem dX9_formAt_5 : decode cX9_formAt 5 = .ok (.aload_n 0, 1) := by decide +kernel
theorem dX9_formAt_6 : decode cX9_formAt 6 = .ok (.getfield 23, 3) := by decide +kernel
theorem dX9_formAt_9 : decode cX9_formAt 9 = .ok (.if_icmp .ge 12, 3) := by decide +kernel
theorem dX9_formAt_21 : decode cX9_formAt 21 = .ok (.aconst_null, 1) := by decide +kernel
theorem dX9_formAt_22 : decode cX9_formAt 22 = .ok (.areturn, 1) := by decide +kernel
theorem dX9_setMeeting_0 : decode cX9_setMeeting 0 = .ok (.aload_n 0, 1) := by decide +kernel
theorem dX9_setMeeting_1 : decode cX9_setMeeting 1 = .ok (.getfield 30, 3) := by decide +kernel
theorem dX9_setMeeting_4 : decode cX9_setMeeting 4 = .ok (.iload_n 1, 1) := by decide +kernel
theorem dX9_setMeeting_5 : decode cX9_setMeeting 5 = .ok (.bipush 6, 2) := by decide +kernel
theorem dX9_setMeeting_7 : decode cX9_setMeeting 7 = .ok (.imul, 1) := by decide +kernel
theorem dX9_setMeeting_8 : decode cX9_setMeeting 8 = .ok (.iload_n 2, 1) := by decide +kernel
theorem dX9_setMeeting_9 : decode cX9_setMeeting 9 = .ok (.iadd, 1) := by decide +kernel
theorem dX9_setMeeting_10 : decode cX9_setMeeting 10 = .ok (.baload, 1) := by decide +kernel
theorem dX9_setMeeting_11 : decode cX9_setMeeting 11 = .ok (.iload_n 3, 1) := by decide +kernel
theorem dX9_setMeeting_12 : decode cX9_setMeeting 12 = .ok (.if_icmp .ne 7, 3) := by decide +kernel
theorem dX9_setMeeting_15 : decode cX9_setMeeting 15 = .ok (.iconst 1, 1) := by decide +kernel
theorem dX9_setMeeting_16 : decode cX9_setMeeting 16 = .ok (.goto 4, 3) := by decide +kernel
theorem dX9_setMeeting_19 : decode cX9_setMeeting 19 = .ok (.iconst 0, 1) := by decide +kernel
theorem dX9_setMeeting_20 : decode cX9_setMeeting 20 = .ok (.istore 4, 2) := by decide +kernel
theorem dX9_setMeeting_22 : decode cX9_setMeeting 22 = .ok (.aload_n 0, 1) := by decide +kernel
theorem dX9_setMeeting_23 : decode cX9_setMeeting 23 = .ok (.getfield 30, 3) := by decide +kernel
theorem dX9_setMeeting_26 : decode cX9_setMeeting 26 = .ok (.iload_n 1, 1) := by decide +kernel
theorem dX9_setMeeting_27 : decode cX9_setMeeting 27 = .ok (.bipush 6, 2) := by decide +kernel
theorem dX9_setMeeting_29 : decode cX9_setMeeting 29 = .ok (.imul, 1) := by decide +kernel
theorem dX9_setMeeting_30 : decode cX9_setMeeting 30 = .ok (.iload_n 2, 1) := by decide +kernel
theorem dX9_setMeeting_31 : decode cX9_setMeeting 31 = .ok (.iadd, 1) := by decide +kernel
theorem dX9_setMeeting_32 : decode cX9_setMeeting 32 = .ok (.iload_n 3, 1) := by decide +kernel
theorem dX9_setMeeting_33 : decode cX9_setMeeting 33 = .ok (.ifCond .ne 7, 3) := by decide +kernel
theorem dX9_setMeeting_36 : decode cX9_setMeeting 36 = .ok (.iconst 1, 1) := by decide +kernel
theorem dX9_setMeeting_37 : decode cX9_setMeeting 37 = .ok (.goto 4, 3) := by decide +kernel
theorem dX9_setMeeting_40 : decode cX9_setMeeting 40 = .ok (.iconst 0, 1) := by decide +kernel
theorem dX9_setMeeting_41 : decode cX9_setMeeting 41 = .ok (.bastore, 1) := by decide +kernel
theorem dX9_setMeeting_42 : decode cX9_setMeeting 42 = .ok (.iload 4, 2) := by decide +kernel
theorem dX9_setMeeting_44 : decode cX9_setMeeting 44 = .ok (.ireturn, 1) := by decide +kernel
set_option maxRecDepth 20000 in
theorem ggX10_init_J7_fill_53178 : GoodIn wsX10_init wsJ7_fill_53178 := goodIn_r _ [10] (by decide +kernel) (by decide +kernel)
set_option maxRecDepth 20000 in
theorem gX10_init_J7_fill_53178 : GoodIn wsX10_init (va_wsS RX10 19 yJ7_fill_53178 wsJ7_fill_53178) := goodIn_app (goodIn_of _ (by decide +kernel)) ggX10_init_J7_fill_53178
theorem dX10_init_0 : decode cX10_init 0 = .ok (.aload_n 0, 1) := by decide +kernel
theorem dX10_init_1 : decode cX10_init 1 = .ok (.invokespecial 3, 3) := by decide +kernel
theorem dX10_init_4 : decode cX10_init 4 = .ok (.aload_n 0, 1) := by decide +kernel
theorem dX10_init_5 : decode cX10_init 5 = .ok (.bipush 36, 2) := by decide +kernel
theorem dX10_init_7 : decode cX10_init 7 = .ok (.newarray .int, 2) := by decide +kernel
theorem dX10_init_9 : decode cX10_init 9 = .ok (.putfield 9, 3) := by decide +kernel
theorem dX10_init_12 : decode cX10_init 12 = .ok (.aload_n 0, 1) := by decide +kernel
theorem dX10_init_13 : decode cX10_init 13 = .ok (.aconst_null, 1) := by decide +kernel
theorem dX10_init_14 : decode cX10_init 14 = .ok (.putfield 15, 3) := by decide +kernel
theorem dX10_init_17 : decode cX10_init 17 = .ok (.aload_n 0, 1) := by decide +kernel
theorem dX10_init_18 : decode cX10_init 18 = .ok (.getfield 9, 3) := by decide +kernel
theorem dX10_init_21 : decode cX10_init 21 = .ok (.iconst (-1), 1) := by decide +kernel
theorem dX10_init_22 : decode cX10_init 22 = .ok (.invokestatic 19, 3) := by decide +kernel
theorem dX10_init_25 : decode cX10_init 25 = .ok (.return_, 1) := by decide +kernel
theorem dX10_setKind_0 : decode cX10_setKind 0 = .ok (.aload_n 0, 1) := by decide +kernel
theorem dX10_setKind_1 : decode cX10_setKind 1 = .ok (.getfield 9, 3) := by decide +kernel
theorem dX10_setKind_4 : decode cX10_setKind 4 = .ok (.iload_n 1, 1) := by decide +kernel
theorem dX10_setKind_5 : decode cX10_setKind 5 = .ok (.bipush 6, 2) := by decide +kernel
theorem dX10_setKind_7 : decode cX10_setKind 7 = .ok (.imul, 1) := by decide +kernel
theorem dX10_setKind_8 : decode cX10_setKind 8 = .ok (.iload_n 2, 1) := by decide +kernel
theorem dX10_setKind_9 : decode cX10_setKind 9 = .ok (.iadd, 1) := by decide +kernel
theorem dX10_setKind_10 : decode cX10_setKind 10 = .ok (.iaload, 1) := by decide +kernel
theorem dX10_setKind_11 : decode cX10_setKind 11 = .ok (.istore 4, 2) := by decide +kernel
theorem dX10_setKind_13 : decode cX10_setKind 13 = .ok (.aload_n 0, 1) := by decide +kernel
theorem dX10_setKind_14 : decode cX10_setKind 14 = .ok (.getfield 9, 3) := by decide +kernel
theorem dX10_setKind_17 : decode cX10_setKind 17 = .ok (.iload_n 1, 1) := by decide +kernel
theorem dX10_setKind_18 : decode cX10_setKind 18 = .ok (.bipush 6, 2) := by decide +kernel
theorem dX10_setKind_20 : decode cX10_setKind 20 = .ok (.imul, 1) := by decide +kernel
theorem dX10_setKind_21 : decode cX10_setKind 21 = .ok (.iload_n 2, 1) := by decide +kernel
theorem dX10_setKind_22 : decode cX10_setKind 22 = .ok (.iadd, 1) := by decide +kernel
theorem dX10_setKind_23 : decode cX10_setKind 23 = .ok (.iload_n 3, 1) := by decide +kernel
theorem dX10_setKind_24 : decode cX10_setKind 24 = .ok (.iastore, 1) := by decide +kernel
theorem dX10_setKind_25 : decode cX10_setKind 25 = .ok (.iload 4, 2) := by decide +kernel
theorem dX10_setKind_27 : decode cX10_setKind 27 = .ok (.ireturn, 1) := by decide +kernel
set_option maxRecDepth 20000 in
theorem ggX11_init_X8_init : GoodIn wsX11_init wsX8_init := goodIn_r _ [27, 28, 2, 3, 29, 30, 31, 82, 83] (by decide +kernel) (by decide +kernel)
set_option maxRecDepth 20000 in
theorem gX11_init_X8_init_n11 : GoodIn wsX11_init (wsX8_init) := ggX11_init_X8_init
set_option maxRecDepth 20000 in
theorem ggX11_init_X9_init : GoodIn wsX11_init wsX9_init := goodIn_r _ [33, 34, 2, 3, 35, 36, 37, 38, 39, 40, 41, 42, 91, 92, 93, 94, 95] (by decide +kernel) (by decide +kernel)
set_option maxRecDepth 20000 in
theorem gX11_init_X9_init_n18 : GoodIn wsX11_init (wsX9_init) := ggX11_init_X9_init
set_option maxRecDepth 20000 in
theorem ggX11_init_X6_init : GoodIn wsX11_init wsX6_init := goodIn_r _ [44, 45, 2, 3, 46, 47, 48, 49, 29, 50, 51, 52, 53, 54, 55, 56, 57, 58, 59, 60, 108, 109, 110, 96, 97, 98, 99] (by decide +kernel) (by decide +kernel)
set_option maxRecDepth 20000 in
theorem gX11_init_X6_init_n25 : GoodIn wsX11_init (wsX6_init) := ggX11_init_X6_init
set_option maxRecDepth 20000 in
theorem ggX11_init_X10_init : GoodIn wsX11_init wsX10_init := goodIn_r _ [63, 64, 2, 3, 65, 66, 67, 68, 69, 70, 71, 100, 101] (by decide +kernel) (by decide +kernel)
set_option maxRecDepth 20000 in
theorem gX11_init_X10_init : GoodIn wsX11_init (wsX10_init) := ggX11_init_X10_init
set_option maxRecDepth 20000 in
theorem ggX11_init_X1_init : GoodIn wsX11_init wsX1_init := goodIn_r _ [73, 74, 2, 3, 65, 75, 76, 77, 78, 79, 80, 81, 102, 103, 104, 105, 106, 107] (by decide +kernel) (by decide +kernel)
set_option maxRecDepth 20000 in
theorem gX11_init_X1_init_n39 : GoodIn wsX11_init (wsX1_init) := ggX11_init_X1_init
theorem dX11_init_0 : decode cX11_init 0 = .ok (.aload_n 0, 1) := by decide +kernel
theorem dX11_init_1 : decode cX11_init 1 = .ok (.invokespecial 3, 3) := by decide +kernel
theorem dX11_init_4 : decode cX11_init 4 = .ok (.aload_n 0, 1) := by decide +kernel
theorem dX11_init_5 : decode cX11_init 5 = .ok (.new 9, 3) := by decide +kernel
theorem dX11_init_8 : decode cX11_init 8 = .ok (.dup, 1) := by decide +kernel
theorem dX11_init_9 : decode cX11_init 9 = .ok (.invokespecial 11, 3) := by decide +kernel
theorem dX11_init_12 : decode cX11_init 12 = .ok (.putfield 12, 3) := by decide +kernel
theorem dX11_init_15 : decode cX11_init 15 = .ok (.aload_n 0, 1) := by decide +kernel
theorem dX11_init_16 : decode cX11_init 16 = .ok (.new 16, 3) := by decide +kernel
theorem dX11_init_19 : decode cX11_init 19 = .ok (.dup, 1) := by decide +kernel
theorem dX11_init_20 : decode cX11_init 20 = .ok (.invokespecial 18, 3) := by decide +kernel
theorem dX11_init_23 : decode cX11_init 23 = .ok (.putfield 19, 3) := by decide +kernel
theorem dX11_init_26 : decode cX11_init 26 = .ok (.aload_n 0, 1) := by decide +kernel
theorem dX11_init_27 : decode cX11_init 27 = .ok (.new 23, 3) := by decide +kernel
theorem dX11_init_30 : decode cX11_init 30 = .ok (.dup, 1) := by decide +kernel
theorem dX11_init_31 : decode cX11_init 31 = .ok (.invokespecial 25, 3) := by decide +kernel
theorem dX11_init_34 : decode cX11_init 34 = .ok (.putfield 26, 3) := by decide +kernel
theorem dX11_init_37 : decode cX11_init 37 = .ok (.aload_n 0, 1) := by decide +kernel
theorem dX11_init_38 : decode cX11_init 38 = .ok (.new 30, 3) := by decide +kernel
theorem dX11_init_41 : decode cX11_init 41 = .ok (.dup, 1) := by decide +kernel
theorem dX11_init_42 : decode cX11_init 42 = .ok (.invokespecial 32, 3) := by decide +kernel
theorem dX11_init_45 : decode cX11_init 45 = .ok (.putfield 33, 3) := by decide +kernel
theorem dX11_init_48 : decode cX11_init 48 = .ok (.aload_n 0, 1) := by decide +kernel
theorem dX11_init_49 : decode cX11_init 49 = .ok (.new 37, 3) := by decide +kernel
theorem dX11_init_52 : decode cX11_init 52 = .ok (.dup, 1) := by decide +kernel
theorem dX11_init_53 : decode cX11_init 53 = .ok (.invokespecial 39, 3) := by decide +kernel
theorem dX11_init_56 : decode cX11_init 56 = .ok (.putfield 40, 3) := by decide +kernel
theorem dX11_init_59 : decode cX11_init 59 = .ok (.aload_n 0, 1) := by decide +kernel
theorem dX11_init_60 : decode cX11_init 60 = .ok (.aconst_null, 1) := by decide +kernel
theorem dX11_init_61 : decode cX11_init 61 = .ok (.putfield 44, 3) := by decide +kernel
theorem dX11_init_64 : decode cX11_init 64 = .ok (.aload_n 0, 1) := by decide +kernel
theorem dX11_init_65 : decode cX11_init 65 = .ok (.iconst 1, 1) := by decide +kernel
theorem dX11_init_66 : decode cX11_init 66 = .ok (.putfield 48, 3) := by decide +kernel
theorem dX11_init_69 : decode cX11_init 69 = .ok (.return_, 1) := by decide +kernel
set_option maxRecDepth 20000 in
theorem ggX11_feed_X8_hasRoomFor : GoodIn wsX11_feed wsX8_hasRoomFor := goodIn_r _ [7, 8, 25, 26] (by decide +kernel) (by decide +kernel)
set_option maxRecDepth 20000 in
theorem gX11_feed_X8_hasRoomFor : GoodIn wsX11_feed (wsV RX11 52 RX8 yX8_hasRoomFor wsX8_hasRoomFor) := goodIn_app (goodIn_of _ (by decide +kernel)) ggX11_feed_X8_hasRoomFor
set_option maxRecDepth 20000 in
theorem ggX11_feed_X8_addNumber : GoodIn wsX11_feed wsX8_addNumber := goodIn_r _ [12, 13, 14, 15, 6, 16, 8, 17, 25, 26] (by decide +kernel) (by decide +kernel)
set_option maxRecDepth 20000 in
theorem gX11_feed_X8_addNumber : GoodIn wsX11_feed (wsV RX11 56 RX8 yX8_addNumber wsX8_addNumber) := goodIn_app (goodIn_of _ (by decide +kernel)) ggX11_feed_X8_addNumber
theorem dX11_feed_0 : decode cX11_feed 0 = .ok (.aload_n 0, 1) := by decide +kernel
theorem dX11_feed_1 : decode cX11_feed 1 = .ok (.getfield 12, 3) := by decide +kernel
theorem dX11_feed_4 : decode cX11_feed 4 = .ok (.bipush 20, 2) := by decide +kernel
theorem dX11_feed_6 : decode cX11_feed 6 = .ok (.invokevirtual 52, 3) := by decide +kernel
theorem dX11_feed_9 : decode cX11_feed 9 = .ok (.ifCond .ne 5, 3) := by decide +kernel
theorem dX11_feed_14 : decode cX11_feed 14 = .ok (.aload_n 0, 1) := by decide +kernel
theorem dX11_feed_15 : decode cX11_feed 15 = .ok (.getfield 12, 3) := by decide +kernel
theorem dX11_feed_18 : decode cX11_feed 18 = .ok (.iload_n 1, 1) := by decide +kernel
theorem dX11_feed_19 : decode cX11_feed 19 = .ok (.invokevirtual 56, 3) := by decide +kernel
theorem dX11_feed_22 : decode cX11_feed 22 = .ok (.aload_n 0, 1) := by decide +kernel
theorem dX11_feed_23 : decode cX11_feed 23 = .ok (.getfield 12, 3) := by decide +kernel
theorem dX11_feed_26 : decode cX11_feed 26 = .ok (.iload_n 2, 1) := by decide +kernel
theorem dX11_feed_27 : decode cX11_feed 27 = .ok (.invokevirtual 56, 3) := by decide +kernel
theorem dX11_feed_30 : decode cX11_feed 30 = .ok (.aload_n 0, 1) := by decide +kernel
theorem dX11_feed_31 : decode cX11_feed 31 = .ok (.getfield 12, 3) := by decide +kernel
theorem dX11_feed_34 : decode cX11_feed 34 = .ok (.iload_n 3, 1) := by decide +kernel
theorem dX11_feed_35 : decode cX11_feed 35 = .ok (.invokevirtual 56, 3) := by decide +kernel
theorem dX11_feed_38 : decode cX11_feed 38 = .ok (.aload_n 0, 1) := by decide +kernel
theorem dX11_feed_39 : decode cX11_feed 39 = .ok (.getfield 12, 3) := by decide +kernel
theorem dX11_feed_42 : decode cX11_feed 42 = .ok (.iload 4, 2) := by decide +kernel
theorem dX11_feed_44 : decode cX11_feed 44 = .ok (.invokevirtual 56, 3) := by decide +kernel
theorem dX11_feed_47 : decode cX11_feed 47 = .ok (.aload_n 0, 1) := by decide +kernel
theorem dX11_feed_48 : decode cX11_feed 48 = .ok (.getfield 12, 3) := by decide +kernel
theorem dX11_feed_51 : decode cX11_feed 51 = .ok (.iload 5, 2) := by decide +kernel
theorem dX11_feed_53 : decode cX11_feed 53 = .ok (.invokevirtual 56, 3) := by decide +kernel
theorem dX11_feed_56 : decode cX11_feed 56 = .ok (.aload_n 0, 1) := by decide +kernel
theorem dX11_feed_57 : decode cX11_feed 57 = .ok (.getfield 12, 3) := by decide +kernel
theorem dX11_feed_60 : decode cX11_feed 60 = .ok (.getfield 60, 3) := by decide +kernel
theorem dX11_feed_63 : decode cX11_feed 63 = .ok (.ireturn, 1) := by decide +kernel
set_option maxRecDepth 20000 in
theorem ggX11_end_X11_within : GoodIn wsX11_end wsX11_within := goodIn_r _ [6] (by decide +kernel) (by decide +kernel)
set_option maxRecDepth 20000 in
theorem gX11_end_X11_within : GoodIn wsX11_end (va_wsS RX11 63 yX11_within wsX11_within) := goodIn_app (goodIn_of _ (by decide +kernel)) ggX11_end_X11_within
theorem dX11_end_0 : decode cX11_end 0 = .ok (.iload_n 1, 1) := by decide +kernel
theorem dX11_end_1 : decode cX11_end 1 = .ok (.iconst 0, 1) := by decide +kernel
theorem dX11_end_2 : decode cX11_end 2 = .ok (.aload_n 0, 1) := by decide +kernel
theorem dX11_end_3 : decode cX11_end 3 = .ok (.getfield 12, 3) := by decide +kernel
theorem dX11_end_6 : decode cX11_end 6 = .ok (.getfield 60, 3) := by decide +kernel
theorem dX11_end_9 : decode cX11_end 9 = .ok (.invokestatic 63, 3) := by decide +kernel
theorem dX11_end_12 : decode cX11_end 12 = .ok (.ifCond .ne 5, 3) := by decide +kernel
theorem dX11_end_15 : decode cX11_end 15 = .ok (.iconst (-1), 1) := by decide +kernel
theorem dX11_end_16 : decode cX11_end 16 = .ok (.ireturn, 1) := by decide +kernel
theorem dX11_end_17 : decode cX11_end 17 = .ok (.aload_n 0, 1) := by decide +kernel
theorem dX11_end_18 : decode cX11_end 18 = .ok (.getfield 12, 3) := by decide +kernel
theorem dX11_end_21 : decode cX11_end 21 = .ok (.iload_n 1, 1) := by decide +kernel
theorem dX11_end_22 : decode cX11_end 22 = .ok (.putfield 60, 3) := by decide +kernel
theorem dX11_end_25 : decode cX11_end 25 = .ok (.iload_n 1, 1) := by decide +kernel
theorem dX11_end_26 : decode cX11_end 26 = .ok (.ireturn, 1) := by decide +kernel
set_option maxRecDepth 20000 in
theorem ggX11_form_X11_isKind : GoodIn wsX11_form wsX11_isKind := goodIn_r _ [11, 12, 13, 10, 14] (by decide +kernel) (by decide +kernel)
set_option maxRecDepth 20000 in
theorem gX11_form_X11_isKind : GoodIn wsX11_form (va_wsS RX11 70 yX11_isKind wsX11_isKind) := goodIn_app (goodIn_of _ (by decide +kernel)) ggX11_form_X11_isKind
set_option maxRecDepth 20000 in
theorem ggX11_form_X11_isStem : GoodIn wsX11_form wsX11_isStem := goodIn_r _ [17, 12, 13, 10, 14] (by decide +kernel) (by decide +kernel)
set_option maxRecDepth 20000 in
theorem gX11_form_X11_isStem : GoodIn wsX11_form (va_wsS RX11 73 yX11_isStem wsX11_isStem) := goodIn_app (goodIn_of _ (by decide +kernel)) ggX11_form_X11_isStem
set_option maxRecDepth 20000 in
theorem ggX11_form_X11_isCost : GoodIn wsX11_form wsX11_isCost := goodIn_r _ [20, 12, 13, 10, 14] (by decide +kernel) (by decide +kernel)
set_option maxRecDepth 20000 in
theorem gX11_form_X11_isCost : GoodIn wsX11_form (va_wsS RX11 76 yX11_isCost wsX11_isCost) := goodIn_app (goodIn_of _ (by decide +kernel)) ggX11_form_X11_isCost
set_option maxRecDepth 20000 in
theorem ggX11_form_X11_within : GoodIn wsX11_form wsX11_within := goodIn_r _ [14] (by decide +kernel) (by decide +kernel)
set_option maxRecDepth 20000 in
theorem gX11_form_X11_within : GoodIn wsX11_form (va_wsS RX11 63 yX11_within wsX11_within) := goodIn_app (goodIn_of _ (by decide +kernel)) ggX11_form_X11_within
theorem dX11_form_0 : decode cX11_form 0 = .ok (.aload_n 0, 1) := by decide +kernel
theorem dX11_form_1 : decode cX11_form 1 = .ok (.getfield 19, 3) := by decide +kernel
theorem dX11_form_4 : decode cX11_form 4 = .ok (.getfield 67, 3) := by decide +kernel
theorem dX11_form_7 : decode cX11_form 7 = .ok (.bipush 40, 2) := by decide +kernel
theorem dX11_form_9 : decode cX11_form 9 = .ok (.if_icmp .ge 54, 3) := by decide +kernel
theorem dX11_form_12 : decode cX11_form 12 = .ok (.iload_n 1, 1) := by decide +kernel
theorem dX11_form_13 : decode cX11_form 13 = .ok (.invokestatic 70, 3) := by decide +kernel
theorem dX11_form_16 : decode cX11_form 16 = .ok (.ifCond .eq 47, 3) := by decide +kernel
theorem dX11_form_19 : decode cX11_form 19 = .ok (.iload_n 2, 1) := by decide +kernel
theorem dX11_form_20 : decode cX11_form 20 = .ok (.invokestatic 73, 3) := by decide +kernel
theorem dX11_form_23 : decode cX11_form 23 = .ok (.ifCond .eq 40, 3) := by decide +kernel
theorem dX11_form_26 : decode cX11_form 26 = .ok (.iload_n 3, 1) := by decide +kernel
theorem dX11_form_27 : decode cX11_form 27 = .ok (.invokestatic 76, 3) := by decide +kernel
theorem dX11_form_30 : decode cX11_form 30 = .ok (.ifCond .eq 33, 3) := by decide +kernel
theorem dX11_form_33 : decode cX11_form 33 = .ok (.aload_n 0, 1) := by decide +kernel
theorem dX11_form_34 : decode cX11_form 34 = .ok (.getfield 12, 3) := by decide +kernel
theorem dX11_form_37 : decode cX11_form 37 = .ok (.getfield 60, 3) := by decide +kernel
theorem dX11_form_40 : decode cX11_form 40 = .ok (.iconst 1, 1) := by decide +kernel
theorem dX11_form_41 : decode cX11_form 41 = .ok (.bipush 8, 2) := by decide +kernel
theorem dX11_form_43 : decode cX11_form 43 = .ok (.invokestatic 63, 3) := by decide +kernel
theorem dX11_form_46 : decode cX11_form 46 = .ok (.ifCond .eq 17, 3) := by decide +kernel
theorem dX11_form_63 : decode cX11_form 63 = .ok (.iconst 0, 1) := by decide +kernel
theorem dX11_form_64 : decode cX11_form 64 = .ok (.istore 5, 2) := by decide +kernel
theorem dX11_form_66 : decode cX11_form 66 = .ok (.iconst (-1), 1) := by decide +kernel
theorem dX11_form_67 : decode cX11_form 67 = .ok (.istore 6, 2) := by decide +kernel
theorem dX11_form_69 : decode cX11_form 69 = .ok (.iload 5, 2) := by decide +kernel
theorem dX11_form_71 : decode cX11_form 71 = .ok (.ifCond .eq 28, 3) := by decide +kernel
theorem dX11_form_99 : decode cX11_form 99 = .ok (.aload_n 0, 1) := by decide +kernel
theorem dX11_form_100 : decode cX11_form 100 = .ok (.getfield 12, 3) := by decide +kernel
theorem dX11_form_103 : decode cX11_form 103 = .ok (.iconst 0, 1) := by decide +kernel
theorem dX11_form_104 : decode cX11_form 104 = .ok (.putfield 60, 3) := by decide +kernel
theorem dX11_form_107 : decode cX11_form 107 = .ok (.iload 6, 2) := by decide +kernel
theorem dX11_form_109 : decode cX11_form 109 = .ok (.ireturn, 1) := by decide +kernel
set_option maxRecDepth 20000 in
theorem ggX11_rule_X11_within : GoodIn wsX11_rule wsX11_within := goodIn_r _ [11] (by decide +kernel) (by decide +kernel)
set_option maxRecDepth 20000 in
theorem gX11_rule_X11_within : GoodIn wsX11_rule (va_wsS RX11 63 yX11_within wsX11_within) := goodIn_app (goodIn_of _ (by decide +kernel)) ggX11_rule_X11_within
theorem dX11_rule_0 : decode cX11_rule 0 = .ok (.aload_n 0, 1) := by decide +kernel
theorem dX11_rule_1 : decode cX11_rule 1 = .ok (.getfield 19, 3) := by decide +kernel
theorem dX11_rule_4 : decode cX11_rule 4 = .ok (.getfield 92, 3) := by decide +kernel
theorem dX11_rule_7 : decode cX11_rule 7 = .ok (.bipush 24, 2) := by decide +kernel
theorem dX11_rule_9 : decode cX11_rule 9 = .ok (.if_icmp .ge 90, 3) := by decide +kernel
theorem dX11_rule_12 : decode cX11_rule 12 = .ok (.iload_n 1, 1) := by decide +kernel
theorem dX11_rule_13 : decode cX11_rule 13 = .ok (.iconst 0, 1) := by decide +kernel
theorem dX11_rule_14 : decode cX11_rule 14 = .ok (.iconst 3, 1) := by decide +kernel
theorem dX11_rule_15 : decode cX11_rule 15 = .ok (.invokestatic 63, 3) := by decide +kernel
theorem dX11_rule_18 : decode cX11_rule 18 = .ok (.ifCond .eq 81, 3) := by decide +kernel
theorem dX11_rule_21 : decode cX11_rule 21 = .ok (.iload_n 2, 1) := by decide +kernel
theorem dX11_rule_22 : decode cX11_rule 22 = .ok (.iconst 0, 1) := by decide +kernel
theorem dX11_rule_23 : decode cX11_rule 23 = .ok (.iconst 3, 1) := by decide +kernel
theorem dX11_rule_24 : decode cX11_rule 24 = .ok (.invokestatic 63, 3) := by decide +kernel
theorem dX11_rule_27 : decode cX11_rule 27 = .ok (.ifCond .eq 72, 3) := by decide +kernel
theorem dX11_rule_30 : decode cX11_rule 30 = .ok (.iload_n 1, 1) := by decide +kernel
theorem dX11_rule_31 : decode cX11_rule 31 = .ok (.iload_n 2, 1) := by decide +kernel
theorem dX11_rule_32 : decode cX11_rule 32 = .ok (.iadd, 1) := by decide +kernel
theorem dX11_rule_33 : decode cX11_rule 33 = .ok (.ifCond .le 66, 3) := by decide +kernel
theorem dX11_rule_36 : decode cX11_rule 36 = .ok (.aload_n 0, 1) := by decide +kernel
theorem dX11_rule_37 : decode cX11_rule 37 = .ok (.getfield 12, 3) := by decide +kernel
theorem dX11_rule_40 : decode cX11_rule 40 = .ok (.getfield 60, 3) := by decide +kernel
theorem dX11_rule_43 : decode cX11_rule 43 = .ok (.iload_n 1, 1) := by decide +kernel
theorem dX11_rule_44 : decode cX11_rule 44 = .ok (.isub, 1) := by decide +kernel
theorem dX11_rule_45 : decode cX11_rule 45 = .ok (.iload_n 2, 1) := by decide +kernel
theorem dX11_rule_46 : decode cX11_rule 46 = .ok (.isub, 1) := by decide +kernel
theorem dX11_rule_47 : decode cX11_rule 47 = .ok (.iconst 0, 1) := by decide +kernel
theorem dX11_rule_48 : decode cX11_rule 48 = .ok (.iconst 4, 1) := by decide +kernel
theorem dX11_rule_49 : decode cX11_rule 49 = .ok (.invokestatic 63, 3) := by decide +kernel
theorem dX11_rule_52 : decode cX11_rule 52 = .ok (.ifCond .eq 47, 3) := by decide +kernel
theorem dX11_rule_99 : decode cX11_rule 99 = .ok (.iconst 0, 1) := by decide +kernel
theorem dX11_rule_100 : decode cX11_rule 100 = .ok (.istore 6, 2) := by decide +kernel
theorem dX11_rule_102 : decode cX11_rule 102 = .ok (.iconst (-1), 1) := by decide +kernel
theorem dX11_rule_103 : decode cX11_rule 103 = .ok (.istore 7, 2) := by decide +kernel
theorem dX11_rule_105 : decode cX11_rule 105 = .ok (.iload 6, 2) := by decide +kernel
theorem dX11_rule_107 : decode cX11_rule 107 = .ok (.ifCond .eq 30, 3) := by decide +kernel
theorem dX11_rule_137 : decode cX11_rule 137 = .ok (.aload_n 0, 1) := by decide +kernel
theorem dX11_rule_138 : decode cX11_rule 138 = .ok (.getfield 12, 3) := by decide +kernel
theorem dX11_rule_141 : decode cX11_rule 141 = .ok (.iconst 0, 1) := by decide +kernel
theorem dX11_rule_142 : decode cX11_rule 142 = .ok (.putfield 60, 3) := by decide +kernel
theorem dX11_rule_145 : decode cX11_rule 145 = .ok (.iload 7, 2) := by decide +kernel
theorem dX11_rule_147 : decode cX11_rule 147 = .ok (.ireturn, 1) := by decide +kernel
set_option maxRecDepth 20000 in
theorem ggX11_cost_X9_formAt : GoodIn wsX11_cost wsX9_formAt := goodIn_r _ [7, 8, 9, 32, 33, 34, 35, 36] (by decide +kernel) (by decide +kernel)
set_option maxRecDepth 20000 in
theorem gX11_cost_X9_formAt : GoodIn wsX11_cost (wsV RX11 107 RX9 yX9_formAt wsX9_formAt) := goodIn_app (goodIn_of _ (by decide +kernel)) ggX11_cost_X9_formAt
theorem dX11_cost_0 : decode cX11_cost 0 = .ok (.aload_n 0, 1) := by decide +kernel
theorem dX11_cost_1 : decode cX11_cost 1 = .ok (.getfield 19, 3) := by decide +kernel
theorem dX11_cost_4 : decode cX11_cost 4 = .ok (.iload_n 1, 1) := by decide +kernel
theorem dX11_cost_5 : decode cX11_cost 5 = .ok (.invokevirtual 107, 3) := by decide +kernel
theorem dX11_cost_8 : decode cX11_cost 8 = .ok (.astore_n 3, 1) := by decide +kernel
theorem dX11_cost_9 : decode cX11_cost 9 = .ok (.aload_n 3, 1) := by decide +kernel
theorem dX11_cost_10 : decode cX11_cost 10 = .ok (.ifnull 10, 3) := by decide +kernel
theorem dX11_cost_20 : decode cX11_cost 20 = .ok (.iconst (-1), 1) := by decide +kernel
theorem dX11_cost_21 : decode cX11_cost 21 = .ok (.ireturn, 1) := by decide +kernel
set_option maxRecDepth 20000 in
theorem ggX11_meets_X11_isKind : GoodIn wsX11_meets wsX11_isKind := goodIn_r _ [5, 6, 7, 4, 8] (by decide +kernel) (by decide +kernel)
set_option maxRecDepth 20000 in
theorem gX11_meets_X11_isKind : GoodIn wsX11_meets (va_wsS RX11 70 yX11_isKind wsX11_isKind) := goodIn_app (goodIn_of _ (by decide +kernel)) ggX11_meets_X11_isKind
set_option maxRecDepth 20000 in
theorem ggX11_meets_X9_setMeeting : GoodIn wsX11_meets wsX9_setMeeting := goodIn_r _ [13, 14, 22, 23, 24, 25, 26] (by decide +kernel) (by decide +kernel)
set_option maxRecDepth 20000 in
theorem gX11_meets_X9_setMeeting : GoodIn wsX11_meets (wsV RX11 114 RX9 yX9_setMeeting wsX9_setMeeting) := goodIn_app (goodIn_of _ (by decide +kernel)) ggX11_meets_X9_setMeeting
theorem dX11_meets_0 : decode cX11_meets 0 = .ok (.iload_n 1, 1) := by decide +kernel
theorem dX11_meets_1 : decode cX11_meets 1 = .ok (.invokestatic 70, 3) := by decide +kernel
theorem dX11_meets_4 : decode cX11_meets 4 = .ok (.ifCond .eq 10, 3) := by decide +kernel
theorem dX11_meets_7 : decode cX11_meets 7 = .ok (.iload_n 2, 1) := by decide +kernel
theorem dX11_meets_8 : decode cX11_meets 8 = .ok (.invokestatic 70, 3) := by decide +kernel
theorem dX11_meets_11 : decode cX11_meets 11 = .ok (.ifCond .ne 5, 3) := by decide +kernel
theorem dX11_meets_14 : decode cX11_meets 14 = .ok (.iconst 0, 1) := by decide +kernel
theorem dX11_meets_15 : decode cX11_meets 15 = .ok (.ireturn, 1) := by decide +kernel
theorem dX11_meets_16 : decode cX11_meets 16 = .ok (.aload_n 0, 1) := by decide +kernel
theorem dX11_meets_17 : decode cX11_meets 17 = .ok (.getfield 19, 3) := by decide +kernel
theorem dX11_meets_20 : decode cX11_meets 20 = .ok (.iload_n 1, 1) := by decide +kernel
theorem dX11_meets_21 : decode cX11_meets 21 = .ok (.iload_n 2, 1) := by decide +kernel
theorem dX11_meets_22 : decode cX11_meets 22 = .ok (.iload_n 3, 1) := by decide +kernel
theorem dX11_meets_23 : decode cX11_meets 23 = .ok (.invokevirtual 114, 3) := by decide +kernel
theorem dX11_meets_26 : decode cX11_meets 26 = .ok (.ireturn, 1) := by decide +kernel
set_option maxRecDepth 20000 in
theorem ggX11_becomes_X11_isKind : GoodIn wsX11_becomes wsX11_isKind := goodIn_r _ [5, 6, 7, 4, 8] (by decide +kernel) (by decide +kernel)
set_option maxRecDepth 20000 in
theorem gX11_becomes_X11_isKind : GoodIn wsX11_becomes (va_wsS RX11 70 yX11_isKind wsX11_isKind) := goodIn_app (goodIn_of _ (by decide +kernel)) ggX11_becomes_X11_isKind
set_option maxRecDepth 20000 in
theorem ggX11_becomes_X10_setKind : GoodIn wsX11_becomes wsX10_setKind := goodIn_r _ [13, 14, 22, 23] (by decide +kernel) (by decide +kernel)
set_option maxRecDepth 20000 in
theorem gX11_becomes_X10_setKind : GoodIn wsX11_becomes (wsV RX11 118 RX10 yX10_setKind wsX10_setKind) := goodIn_app (goodIn_of _ (by decide +kernel)) ggX11_becomes_X10_setKind
theorem dX11_becomes_0 : decode cX11_becomes 0 = .ok (.iload_n 1, 1) := by decide +kernel
theorem dX11_becomes_1 : decode cX11_becomes 1 = .ok (.invokestatic 70, 3) := by decide +kernel
theorem dX11_becomes_4 : decode cX11_becomes 4 = .ok (.ifCond .eq 22, 3) := by decide +kernel
theorem dX11_becomes_7 : decode cX11_becomes 7 = .ok (.iload_n 2, 1) := by decide +kernel
theorem dX11_becomes_8 : decode cX11_becomes 8 = .ok (.invokestatic 70, 3) := by decide +kernel
theorem dX11_becomes_11 : decode cX11_becomes 11 = .ok (.ifCond .eq 15, 3) := by decide +kernel
theorem dX11_becomes_14 : decode cX11_becomes 14 = .ok (.iload_n 3, 1) := by decide +kernel
theorem dX11_becomes_15 : decode cX11_becomes 15 = .ok (.iconst (-1), 1) := by decide +kernel
theorem dX11_becomes_16 : decode cX11_becomes 16 = .ok (.if_icmp .eq 13, 3) := by decide +kernel
theorem dX11_becomes_19 : decode cX11_becomes 19 = .ok (.iload_n 3, 1) := by decide +kernel
theorem dX11_becomes_20 : decode cX11_becomes 20 = .ok (.invokestatic 70, 3) := by decide +kernel
theorem dX11_becomes_23 : decode cX11_becomes 23 = .ok (.ifCond .ne 6, 3) := by decide +kernel
theorem dX11_becomes_26 : decode cX11_becomes 26 = .ok (.bipush (-2), 2) := by decide +kernel
theorem dX11_becomes_28 : decode cX11_becomes 28 = .ok (.ireturn, 1) := by decide +kernel
theorem dX11_becomes_29 : decode cX11_becomes 29 = .ok (.aload_n 0, 1) := by decide +kernel
theorem dX11_becomes_30 : decode cX11_becomes 30 = .ok (.getfield 33, 3) := by decide +kernel
theorem dX11_becomes_33 : decode cX11_becomes 33 = .ok (.iload_n 1, 1) := by decide +kernel
theorem dX11_becomes_34 : decode cX11_becomes 34 = .ok (.iload_n 2, 1) := by decide +kernel
theorem dX11_becomes_35 : decode cX11_becomes 35 = .ok (.iload_n 3, 1) := by decide +kernel
theorem dX11_becomes_36 : decode cX11_becomes 36 = .ok (.invokevirtual 118, 3) := by decide +kernel
theorem dX11_becomes_39 : decode cX11_becomes 39 = .ok (.ireturn, 1) := by decide +kernel
set_option maxRecDepth 20000 in
theorem ggX11_fits_X11_rulesBetween : GoodIn wsX11_fits wsX11_rulesBetween := goodIn_r _ [5, 6, 7, 8, 9, 10, 11, 12, 13, 14, 15, 16, 17, 4, 18, 19, 20, 21, 22, 23, 24, 25, 26, 27, 28, 29, 37, 38, 39, 40, 41, 42, 43, 44, 45, 46, 47, 48, 49, 50, 51, 52, 53, 54, 55, 56, 57, 58, 59, 60, 61, 62, 63, 64, 65] (by decide +kernel) (by decide +kernel)
set_option maxRecDepth 20000 in
theorem gX11_fits_X11_rulesBetween : GoodIn wsX11_fits (wsV RX11 122 RX11 yX11_rulesBetween wsX11_rulesBetween) := goodIn_app (goodIn_of _ (by decide +kernel)) ggX11_fits_X11_rulesBetween
theorem dX11_fits_0 : decode cX11_fits 0 = .ok (.aload_n 0, 1) := by decide +kernel
theorem dX11_fits_1 : decode cX11_fits 1 = .ok (.iload_n 1, 1) := by decide +kernel
theorem dX11_fits_2 : decode cX11_fits 2 = .ok (.iload_n 2, 1) := by decide +kernel
theorem dX11_fits_3 : decode cX11_fits 3 = .ok (.iload_n 3, 1) := by decide +kernel
theorem dX11_fits_4 : decode cX11_fits 4 = .ok (.invokevirtual 122, 3) := by decide +kernel
theorem dX11_fits_7 : decode cX11_fits 7 = .ok (.istore 4, 2) := by decide +kernel
theorem dX11_fits_9 : decode cX11_fits 9 = .ok (.iload 4, 2) := by decide +kernel
theorem dX11_fits_11 : decode cX11_fits 11 = .ok (.iconst (-1), 1) := by decide +kernel
theorem dX11_fits_12 : decode cX11_fits 12 = .ok (.if_icmp .ne 7, 3) := by decide +kernel
theorem dX11_fits_15 : decode cX11_fits 15 = .ok (.iconst (-1), 1) := by decide +kernel
theorem dX11_fits_16 : decode cX11_fits 16 = .ok (.goto 8, 3) := by decide +kernel
theorem dX11_fits_24 : decode cX11_fits 24 = .ok (.ireturn, 1) := by decide +kernel
set_option maxRecDepth 20000 in
theorem ggX11_fitting_X11_rulesBetween : GoodIn wsX11_fitting wsX11_rulesBetween := goodIn_r _ [5, 6, 7, 8, 9, 10, 11, 12, 13, 14, 15, 16, 17, 4, 18, 19, 20, 21, 22, 23, 24, 25, 26, 27, 28, 29, 33, 34, 35, 36, 37, 38, 39, 40, 41, 42, 43, 44, 45, 46, 47, 48, 49, 50, 51, 52, 53, 54, 55, 56, 57, 58, 59, 60, 61] (by decide +kernel) (by decide +kernel)
set_option maxRecDepth 20000 in
theorem gX11_fitting_X11_rulesBetween : GoodIn wsX11_fitting (wsV RX11 122 RX11 yX11_rulesBetween wsX11_rulesBetween) := goodIn_app (goodIn_of _ (by decide +kernel)) ggX11_fitting_X11_rulesBetween
theorem dX11_fitting_0 : decode cX11_fitting 0 = .ok (.aload_n 0, 1) := by decide +kernel
theorem dX11_fitting_1 : decode cX11_fitting 1 = .ok (.iload_n 1, 1) := by decide +kernel
theorem dX11_fitting_2 : decode cX11_fitting 2 = .ok (.iload_n 2, 1) := by decide +kernel
theorem dX11_fitting_3 : decode cX11_fitting 3 = .ok (.iload_n 3, 1) := by decide +kernel
theorem dX11_fitting_4 : decode cX11_fitting 4 = .ok (.invokevirtual 122, 3) := by decide +kernel
theorem dX11_fitting_7 : decode cX11_fitting 7 = .ok (.istore 5, 2) := by decide +kernel
theorem dX11_fitting_9 : decode cX11_fitting 9 = .ok (.iload 5, 2) := by decide +kernel
theorem dX11_fitting_11 : decode cX11_fitting 11 = .ok (.iconst (-1), 1) := by decide +kernel
theorem dX11_fitting_12 : decode cX11_fitting 12 = .ok (.if_icmp .ne 5, 3) := by decide +kernel
theorem dX11_fitting_15 : decode cX11_fitting 15 = .ok (.iconst (-1), 1) := by decide +kernel
theorem dX11_fitting_16 : decode cX11_fitting 16 = .ok (.ireturn, 1) := by decide +kernel
set_option maxRecDepth 20000 in
theorem ggX11_row_X11_isDay : GoodIn wsX11_row wsX11_isDay := goodIn_r _ [8, 9, 10, 7, 11] (by decide +kernel) (by decide +kernel)
set_option maxRecDepth 20000 in
theorem gX11_row_X11_isDay : GoodIn wsX11_row (va_wsS RX11 95 yX11_isDay wsX11_isDay) := goodIn_app (goodIn_of _ (by decide +kernel)) ggX11_row_X11_isDay
theorem dX11_row_0 : decode cX11_row 0 = .ok (.iload_n 1, 1) := by decide +kernel
theorem dX11_row_1 : decode cX11_row 1 = .ok (.invokestatic 95, 3) := by decide +kernel
theorem dX11_row_4 : decode cX11_row 4 = .ok (.ifCond .ne 5, 3) := by decide +kernel
theorem dX11_row_7 : decode cX11_row 7 = .ok (.iconst (-1), 1) := by decide +kernel
theorem dX11_row_8 : decode cX11_row 8 = .ok (.ireturn, 1) := by decide +kernel
theorem dX11_row_9 : decode cX11_row 9 = .ok (.aload_n 0, 1) := by decide +kernel
theorem dX11_row_10 : decode cX11_row 10 = .ok (.getfield 26, 3) := by decide +kernel
theorem dX11_row_13 : decode cX11_row 13 = .ok (.getfield 135, 3) := by decide +kernel
theorem dX11_row_16 : decode cX11_row 16 = .ok (.getfield 139, 3) := by decide +kernel
theorem dX11_row_19 : decode cX11_row 19 = .ok (.istore_n 2, 1) := by decide +kernel
theorem dX11_row_20 : decode cX11_row 20 = .ok (.aload_n 0, 1) := by decide +kernel
theorem dX11_row_21 : decode cX11_row 21 = .ok (.getfield 26, 3) := by decide +kernel
theorem dX11_row_24 : decode cX11_row 24 = .ok (.getfield 135, 3) := by decide +kernel
theorem dX11_row_27 : decode cX11_row 27 = .ok (.iconst 0, 1) := by decide +kernel
theorem dX11_row_28 : decode cX11_row 28 = .ok (.putfield 139, 3) := by decide +kernel
theorem dX11_row_31 : decode cX11_row 31 = .ok (.aload_n 0, 1) := by decide +kernel
theorem dX11_row_32 : decode cX11_row 32 = .ok (.getfield 26, 3) := by decide +kernel
theorem dX11_row_35 : decode cX11_row 35 = .ok (.iload_n 1, 1) := by decide +kernel
theorem dX11_row_36 : decode cX11_row 36 = .ok (.putfield 142, 3) := by decide +kernel
theorem dX11_row_39 : decode cX11_row 39 = .ok (.iload_n 2, 1) := by decide +kernel
theorem dX11_row_40 : decode cX11_row 40 = .ok (.ireturn, 1) := by decide +kernel
set_option maxRecDepth 20000 in
theorem ggX11_joins_X9_formAt : GoodIn wsX11_joins wsX9_formAt := goodIn_r _ [9, 10, 11, 81, 82, 83, 84, 85] (by decide +kernel) (by decide +kernel)
set_option maxRecDepth 20000 in
theorem gX11_joins_X9_formAt : GoodIn wsX11_joins (wsV RX11 107 RX9 yX9_formAt wsX9_formAt) := goodIn_app (goodIn_of _ (by decide +kernel)) ggX11_joins_X9_formAt
theorem dX11_joins_0 : decode cX11_joins 0 = .ok (.aload_n 0, 1) := by decide +kernel
theorem dX11_joins_1 : decode cX11_joins 1 = .ok (.getfield 19, 3) := by decide +kernel
theorem dX11_joins_4 : decode cX11_joins 4 = .ok (.iload_n 1, 1) := by decide +kernel
theorem dX11_joins_5 : decode cX11_joins 5 = .ok (.invokevirtual 107, 3) := by decide +kernel
theorem dX11_joins_8 : decode cX11_joins 8 = .ok (.astore_n 3, 1) := by decide +kernel
theorem dX11_joins_9 : decode cX11_joins 9 = .ok (.aload_n 3, 1) := by decide +kernel
theorem dX11_joins_10 : decode cX11_joins 10 = .ok (.ifnull 18, 3) := by decide +kernel
theorem dX11_joins_28 : decode cX11_joins 28 = .ok (.iconst (-1), 1) := by decide +kernel
theorem dX11_joins_29 : decode cX11_joins 29 = .ok (.ireturn, 1) := by decide +kernel
set_option maxRecDepth 20000 in
theorem ggX11_joined_X6_join : GoodIn wsX11_joined wsX6_join := goodIn_r _ [7, 8, 9, 10, 11, 12, 13, 14, 15, 16, 17, 18, 6, 19, 20, 21, 22, 23, 24, 25, 26, 27, 28, 29, 30, 31, 32, 33, 34, 35, 36, 37, 45, 46, 47, 48, 49, 50, 51, 52, 53, 54, 55, 56, 57, 58, 59, 60, 61, 62, 63, 64, 65, 66, 67, 68] (by decide +kernel) (by decide +kernel)
set_option maxRecDepth 20000 in
theorem gX11_joined_X6_join : GoodIn wsX11_joined (wsV RX11 161 RX6 yX6_join wsX6_join) := goodIn_app (goodIn_of _ (by decide +kernel)) ggX11_joined_X6_join
theorem dX11_joined_0 : decode cX11_joined 0 = .ok (.aload_n 0, 1) := by decide +kernel
theorem dX11_joined_1 : decode cX11_joined 1 = .ok (.getfield 26, 3) := by decide +kernel
theorem dX11_joined_4 : decode cX11_joined 4 = .ok (.invokevirtual 161, 3) := by decide +kernel
theorem dX11_joined_7 : decode cX11_joined 7 = .ok (.aload_n 0, 1) := by decide +kernel
theorem dX11_joined_8 : decode cX11_joined 8 = .ok (.getfield 26, 3) := by decide +kernel
theorem dX11_joined_11 : decode cX11_joined 11 = .ok (.getfield 164, 3) := by decide +kernel
theorem dX11_joined_14 : decode cX11_joined 14 = .ok (.ireturn, 1) := by decide +kernel
theorem dX11_letter_0 : decode cX11_letter 0 = .ok (.iload_n 1, 1) := by decide +kernel
theorem dX11_letter_1 : decode cX11_letter 1 = .ok (.ifCond .lt 26, 3) := by decide +kernel
theorem dX11_letter_4 : decode cX11_letter 4 = .ok (.iload_n 1, 1) := by decide +kernel
theorem dX11_letter_5 : decode cX11_letter 5 = .ok (.aload_n 0, 1) := by decide +kernel
theorem dX11_letter_6 : decode cX11_letter 6 = .ok (.getfield 26, 3) := by decide +kernel
theorem dX11_letter_9 : decode cX11_letter 9 = .ok (.getfield 164, 3) := by decide +kernel
theorem dX11_letter_12 : decode cX11_letter 12 = .ok (.if_icmp .ge 15, 3) := by decide +kernel
theorem dX11_letter_27 : decode cX11_letter 27 = .ok (.iconst (-1), 1) := by decide +kernel
theorem dX11_letter_28 : decode cX11_letter 28 = .ok (.ireturn, 1) := by decide +kernel
set_option maxRecDepth 20000 in
theorem ggX11_back_X8_hasRoomFor : GoodIn wsX11_back wsX8_hasRoomFor := goodIn_r _ [10, 11, 28, 29] (by decide +kernel) (by decide +kernel)
set_option maxRecDepth 20000 in
theorem gX11_back_X8_hasRoomFor : GoodIn wsX11_back (wsV RX11 52 RX8 yX8_hasRoomFor wsX8_hasRoomFor) := goodIn_app (goodIn_of _ (by decide +kernel)) ggX11_back_X8_hasRoomFor
theorem dX11_back_0 : decode cX11_back 0 = .ok (.aload_n 0, 1) := by decide +kernel
theorem dX11_back_1 : decode cX11_back 1 = .ok (.getfield 12, 3) := by decide +kernel
theorem dX11_back_4 : decode cX11_back 4 = .ok (.aload_n 0, 1) := by decide +kernel
theorem dX11_back_5 : decode cX11_back 5 = .ok (.getfield 26, 3) := by decide +kernel
theorem dX11_back_8 : decode cX11_back 8 = .ok (.getfield 164, 3) := by decide +kernel
theorem dX11_back_11 : decode cX11_back 11 = .ok (.invokevirtual 52, 3) := by decide +kernel
theorem dX11_back_14 : decode cX11_back 14 = .ok (.ifCond .ne 5, 3) := by decide +kernel
theorem dX11_back_19 : decode cX11_back 19 = .ok (.iconst 0, 1) := by decide +kernel
theorem dX11_back_20 : decode cX11_back 20 = .ok (.istore_n 1, 1) := by decide +kernel
theorem dX11_back_21 : decode cX11_back 21 = .ok (.iload_n 1, 1) := by decide +kernel
theorem dX11_back_22 : decode cX11_back 22 = .ok (.aload_n 0, 1) := by decide +kernel
theorem dX11_back_23 : decode cX11_back 23 = .ok (.getfield 26, 3) := by decide +kernel
theorem dX11_back_26 : decode cX11_back 26 = .ok (.getfield 164, 3) := by decide +kernel
theorem dX11_back_29 : decode cX11_back 29 = .ok (.if_icmp .ge 25, 3) := by decide +kernel
theorem dX11_back_54 : decode cX11_back 54 = .ok (.aload_n 0, 1) := by decide +kernel
theorem dX11_back_55 : decode cX11_back 55 = .ok (.getfield 12, 3) := by decide +kernel
theorem dX11_back_58 : decode cX11_back 58 = .ok (.getfield 60, 3) := by decide +kernel
theorem dX11_back_61 : decode cX11_back 61 = .ok (.ireturn, 1) := by decide +kernel
set_option maxRecDepth 20000 in
theorem ggX11_part_X11_within : GoodIn wsX11_part wsX11_within := goodIn_r _ [14] (by decide +kernel) (by decide +kernel)
set_option maxRecDepth 20000 in
theorem gX11_part_X11_within : GoodIn wsX11_part (va_wsS RX11 63 yX11_within wsX11_within) := goodIn_app (goodIn_of _ (by decide +kernel)) ggX11_part_X11_within
theorem dX11_part_0 : decode cX11_part 0 = .ok (.aload_n 0, 1) := by decide +kernel
theorem dX11_part_1 : decode cX11_part 1 = .ok (.getfield 12, 3) := by decide +kernel
theorem dX11_part_4 : decode cX11_part 4 = .ok (.getfield 60, 3) := by decide +kernel
theorem dX11_part_7 : decode cX11_part 7 = .ok (.iconst 1, 1) := by decide +kernel
theorem dX11_part_8 : decode cX11_part 8 = .ok (.bipush 40, 2) := by decide +kernel
theorem dX11_part_10 : decode cX11_part 10 = .ok (.invokestatic 63, 3) := by decide +kernel
theorem dX11_part_13 : decode cX11_part 13 = .ok (.ifCond .eq 24, 3) := by decide +kernel
theorem dX11_part_37 : decode cX11_part 37 = .ok (.iconst 0, 1) := by decide +kernel
theorem dX11_part_38 : decode cX11_part 38 = .ok (.istore_n 2, 1) := by decide +kernel
theorem dX11_part_39 : decode cX11_part 39 = .ok (.aload_n 0, 1) := by decide +kernel
theorem dX11_part_40 : decode cX11_part 40 = .ok (.getfield 12, 3) := by decide +kernel
theorem dX11_part_43 : decode cX11_part 43 = .ok (.getfield 60, 3) := by decide +kernel
theorem dX11_part_46 : decode cX11_part 46 = .ok (.istore_n 3, 1) := by decide +kernel
theorem dX11_part_47 : decode cX11_part 47 = .ok (.aload_n 0, 1) := by decide +kernel
theorem dX11_part_48 : decode cX11_part 48 = .ok (.getfield 12, 3) := by decide +kernel
theorem dX11_part_51 : decode cX11_part 51 = .ok (.iconst 0, 1) := by decide +kernel
theorem dX11_part_52 : decode cX11_part 52 = .ok (.putfield 60, 3) := by decide +kernel
theorem dX11_part_55 : decode cX11_part 55 = .ok (.iload_n 2, 1) := by decide +kernel
theorem dX11_part_56 : decode cX11_part 56 = .ok (.ifCond .ne 7, 3) := by decide +kernel
theorem dX11_part_59 : decode cX11_part 59 = .ok (.ldc2_w 174, 3) := by decide +kernel
theorem dX11_part_62 : decode cX11_part 62 = .ok (.lreturn, 1) := by decide +kernel
theorem dX11_parted_0 : decode cX11_parted 0 = .ok (.aload_n 0, 1) := by decide +kernel
theorem dX11_parted_1 : decode cX11_parted 1 = .ok (.getfield 44, 3) := by decide +kernel
theorem dX11_parted_4 : decode cX11_parted 4 = .ok (.ifnonnull 7, 3) := by decide +kernel
theorem dX11_parted_7 : decode cX11_parted 7 = .ok (.ldc2_w 174, 3) := by decide +kernel
theorem dX11_parted_10 : decode cX11_parted 10 = .ok (.lreturn, 1) := by decide +kernel
set_option maxRecDepth 20000 in
theorem ggX11_parting_X11_toldPath : GoodIn wsX11_parting wsX11_toldPath := goodIn_r _ [8, 9, 10, 11, 21, 22, 23, 24, 25, 26, 27, 28, 29, 30, 31, 32, 33, 34, 35, 36, 37] (by decide +kernel) (by decide +kernel)
set_option maxRecDepth 20000 in
theorem gX11_parting_X11_toldPath : GoodIn wsX11_parting (wsV RX11 205 RX11 yX11_toldPath wsX11_toldPath) := goodIn_app (goodIn_of _ (by decide +kernel)) ggX11_parting_X11_toldPath
theorem dX11_parting_0 : decode cX11_parting 0 = .ok (.aload_n 0, 1) := by decide +kernel
theorem dX11_parting_1 : decode cX11_parting 1 = .ok (.iload_n 1, 1) := by decide +kernel
theorem dX11_parting_2 : decode cX11_parting 2 = .ok (.invokevirtual 205, 3) := by decide +kernel
theorem dX11_parting_5 : decode cX11_parting 5 = .ok (.astore_n 3, 1) := by decide +kernel
theorem dX11_parting_6 : decode cX11_parting 6 = .ok (.aload_n 0, 1) := by decide +kernel
theorem dX11_parting_7 : decode cX11_parting 7 = .ok (.iconst 0, 1) := by decide +kernel
theorem dX11_parting_8 : decode cX11_parting 8 = .ok (.invokevirtual 205, 3) := by decide +kernel
theorem dX11_parting_11 : decode cX11_parting 11 = .ok (.astore 4, 2) := by decide +kernel
theorem dX11_parting_13 : decode cX11_parting 13 = .ok (.aload_n 3, 1) := by decide +kernel
theorem dX11_parting_14 : decode cX11_parting 14 = .ok (.ifnull 8, 3) := by decide +kernel
theorem dX11_parting_22 : decode cX11_parting 22 = .ok (.iconst (-1), 1) := by decide +kernel
theorem dX11_parting_23 : decode cX11_parting 23 = .ok (.ireturn, 1) := by decide +kernel
set_option maxRecDepth 20000 in
theorem ggX11_formOf_X11_toldPath : GoodIn wsX11_formOf wsX11_toldPath := goodIn_r _ [7, 8, 9, 10, 32, 33, 34, 35, 36, 37, 38, 39, 40, 41, 42, 43, 44, 45, 46, 47, 48] (by decide +kernel) (by decide +kernel)
set_option maxRecDepth 20000 in
theorem gX11_formOf_X11_toldPath : GoodIn wsX11_formOf (wsV RX11 205 RX11 yX11_toldPath wsX11_toldPath) := goodIn_app (goodIn_of _ (by decide +kernel)) ggX11_formOf_X11_toldPath
theorem dX11_formOf_0 : decode cX11_formOf 0 = .ok (.aload_n 0, 1) := by decide +kernel
theorem dX11_formOf_1 : decode cX11_formOf 1 = .ok (.iload_n 1, 1) := by decide +kernel
theorem dX11_formOf_2 : decode cX11_formOf 2 = .ok (.invokevirtual 205, 3) := by decide +kernel
theorem dX11_formOf_5 : decode cX11_formOf 5 = .ok (.astore_n 3, 1) := by decide +kernel
theorem dX11_formOf_6 : decode cX11_formOf 6 = .ok (.aload_n 3, 1) := by decide +kernel
theorem dX11_formOf_7 : decode cX11_formOf 7 = .ok (.ifnonnull 7, 3) := by decide +kernel
theorem dX11_formOf_10 : decode cX11_formOf 10 = .ok (.aconst_null, 1) := by decide +kernel
theorem dX11_formOf_11 : decode cX11_formOf 11 = .ok (.goto 11, 3) := by decide +kernel
theorem dX11_formOf_22 : decode cX11_formOf 22 = .ok (.astore 4, 2) := by decide +kernel
theorem dX11_formOf_24 : decode cX11_formOf 24 = .ok (.aload 4, 2) := by decide +kernel
theorem dX11_formOf_26 : decode cX11_formOf 26 = .ok (.ifnonnull 7, 3) := by decide +kernel
theorem dX11_formOf_29 : decode cX11_formOf 29 = .ok (.iconst (-1), 1) := by decide +kernel
theorem dX11_formOf_30 : decode cX11_formOf 30 = .ok (.goto 8, 3) := by decide +kernel
theorem dX11_formOf_38 : decode cX11_formOf 38 = .ok (.ireturn, 1) := by decide +kernel
set_option maxRecDepth 20000 in
theorem ggX11_ruleOf_X11_toldPath : GoodIn wsX11_ruleOf wsX11_toldPath := goodIn_r _ [7, 8, 9, 10, 33, 34, 35, 36, 37, 38, 39, 40, 41, 42, 43, 44, 45, 46, 47, 48, 49] (by decide +kernel) (by decide +kernel)
set_option maxRecDepth 20000 in
theorem gX11_ruleOf_X11_toldPath : GoodIn wsX11_ruleOf (wsV RX11 205 RX11 yX11_toldPath wsX11_toldPath) := goodIn_app (goodIn_of _ (by decide +kernel)) ggX11_ruleOf_X11_toldPath
theorem dX11_ruleOf_0 : decode cX11_ruleOf 0 = .ok (.aload_n 0, 1) := by decide +kernel
theorem dX11_ruleOf_1 : decode cX11_ruleOf 1 = .ok (.iload_n 1, 1) := by decide +kernel
theorem dX11_ruleOf_2 : decode cX11_ruleOf 2 = .ok (.invokevirtual 205, 3) := by decide +kernel
theorem dX11_ruleOf_5 : decode cX11_ruleOf 5 = .ok (.astore_n 3, 1) := by decide +kernel
theorem dX11_ruleOf_6 : decode cX11_ruleOf 6 = .ok (.aload_n 3, 1) := by decide +kernel
theorem dX11_ruleOf_7 : decode cX11_ruleOf 7 = .ok (.ifnonnull 7, 3) := by decide +kernel
theorem dX11_ruleOf_10 : decode cX11_ruleOf 10 = .ok (.aconst_null, 1) := by decide +kernel
theorem dX11_ruleOf_11 : decode cX11_ruleOf 11 = .ok (.goto 11, 3) := by decide +kernel
theorem dX11_ruleOf_22 : decode cX11_ruleOf 22 = .ok (.astore 4, 2) := by decide +kernel
theorem dX11_ruleOf_24 : decode cX11_ruleOf 24 = .ok (.aload 4, 2) := by decide +kernel
theorem dX11_ruleOf_26 : decode cX11_ruleOf 26 = .ok (.ifnonnull 7, 3) := by decide +kernel
theorem dX11_ruleOf_29 : decode cX11_ruleOf 29 = .ok (.iconst (-1), 1) := by decide +kernel
theorem dX11_ruleOf_30 : decode cX11_ruleOf 30 = .ok (.goto 8, 3) := by decide +kernel
theorem dX11_ruleOf_38 : decode cX11_ruleOf 38 = .ok (.ireturn, 1) := by decide +kernel
set_option maxRecDepth 20000 in
theorem ggX11_trees_X11_toldPath : GoodIn wsX11_trees wsX11_toldPath := goodIn_r _ [8, 9, 10, 11, 53, 54, 55, 56, 57, 58, 59, 66, 67, 68, 69, 70, 71, 72, 73, 74, 75] (by decide +kernel) (by decide +kernel)
set_option maxRecDepth 20000 in
theorem gX11_trees_X11_toldPath : GoodIn wsX11_trees (wsV RX11 205 RX11 yX11_toldPath wsX11_toldPath) := goodIn_app (goodIn_of _ (by decide +kernel)) ggX11_trees_X11_toldPath
theorem dX11_trees_0 : decode cX11_trees 0 = .ok (.aload_n 0, 1) := by decide +kernel
theorem dX11_trees_1 : decode cX11_trees 1 = .ok (.iload_n 1, 1) := by decide +kernel
theorem dX11_trees_2 : decode cX11_trees 2 = .ok (.invokevirtual 205, 3) := by decide +kernel
theorem dX11_trees_5 : decode cX11_trees 5 = .ok (.astore_n 3, 1) := by decide +kernel
theorem dX11_trees_6 : decode cX11_trees 6 = .ok (.aload_n 3, 1) := by decide +kernel
theorem dX11_trees_7 : decode cX11_trees 7 = .ok (.ifnull 10, 3) := by decide +kernel
theorem dX11_trees_17 : decode cX11_trees 17 = .ok (.ldc2_w 174, 3) := by decide +kernel
theorem dX11_trees_20 : decode cX11_trees 20 = .ok (.lreturn, 1) := by decide +kernel
set_option maxRecDepth 20000 in
theorem ggX11_choose_X11_toldPath : GoodIn wsX11_choose wsX11_toldPath := goodIn_r _ [10, 11, 12, 13, 44, 45, 46, 47, 48, 49, 50, 63, 64, 65, 66, 67, 68, 69, 70, 71, 72] (by decide +kernel) (by decide +kernel)
set_option maxRecDepth 20000 in
theorem gX11_choose_X11_toldPath : GoodIn wsX11_choose (wsV RX11 205 RX11 yX11_toldPath wsX11_toldPath) := goodIn_app (goodIn_of _ (by decide +kernel)) ggX11_choose_X11_toldPath
theorem dX11_choose_0 : decode cX11_choose 0 = .ok (.aload_n 0, 1) := by decide +kernel
theorem dX11_choose_1 : decode cX11_choose 1 = .ok (.iload_n 1, 1) := by decide +kernel
theorem dX11_choose_2 : decode cX11_choose 2 = .ok (.invokevirtual 205, 3) := by decide +kernel
theorem dX11_choose_5 : decode cX11_choose 5 = .ok (.astore_n 2, 1) := by decide +kernel
theorem dX11_choose_6 : decode cX11_choose 6 = .ok (.aload_n 2, 1) := by decide +kernel
theorem dX11_choose_7 : decode cX11_choose 7 = .ok (.ifnonnull 5, 3) := by decide +kernel
theorem dX11_choose_10 : decode cX11_choose 10 = .ok (.iconst (-1), 1) := by decide +kernel
theorem dX11_choose_11 : decode cX11_choose 11 = .ok (.ireturn, 1) := by decide +kernel
set_option maxRecDepth 20000 in
theorem ggX11_undo_X1_restore : GoodIn wsX11_undo wsX1_restore := goodIn_r _ [7, 8, 9, 10, 11, 12, 13, 14, 15, 16, 17, 18, 19, 20, 28, 29, 30, 31, 32, 33, 34, 35, 36, 37, 38, 39, 40, 41, 42, 43, 44, 45, 46] (by decide +kernel) (by decide +kernel)
set_option maxRecDepth 20000 in
theorem gX11_undo_X1_restore : GoodIn wsX11_undo (wsV RX11 233 RX1 yX1_restore wsX1_restore) := goodIn_app (goodIn_of _ (by decide +kernel)) ggX11_undo_X1_restore
theorem dX11_undo_0 : decode cX11_undo 0 = .ok (.aload_n 0, 1) := by decide +kernel
theorem dX11_undo_1 : decode cX11_undo 1 = .ok (.getfield 40, 3) := by decide +kernel
theorem dX11_undo_4 : decode cX11_undo 4 = .ok (.aload_n 0, 1) := by decide +kernel
theorem dX11_undo_5 : decode cX11_undo 5 = .ok (.getfield 19, 3) := by decide +kernel
theorem dX11_undo_8 : decode cX11_undo 8 = .ok (.invokevirtual 233, 3) := by decide +kernel
theorem dX11_undo_11 : decode cX11_undo 11 = .ok (.ireturn, 1) := by decide +kernel
set_option maxRecDepth 20000 in
theorem ggX11_step_X11_within : GoodIn wsX11_step wsX11_within := goodIn_r _ [5] (by decide +kernel) (by decide +kernel)
set_option maxRecDepth 20000 in
theorem gX11_step_X11_within : GoodIn wsX11_step (va_wsS RX11 63 yX11_within wsX11_within) := goodIn_app (goodIn_of _ (by decide +kernel)) ggX11_step_X11_within
theorem dX11_step_0 : decode cX11_step 0 = .ok (.iload_n 1, 1) := by decide +kernel
theorem dX11_step_1 : decode cX11_step 1 = .ok (.iconst 0, 1) := by decide +kernel
theorem dX11_step_2 : decode cX11_step 2 = .ok (.bipush 20, 2) := by decide +kernel
theorem dX11_step_4 : decode cX11_step 4 = .ok (.invokestatic 63, 3) := by decide +kernel
theorem dX11_step_7 : decode cX11_step 7 = .ok (.ifCond .ne 5, 3) := by decide +kernel
theorem dX11_step_10 : decode cX11_step 10 = .ok (.iconst (-1), 1) := by decide +kernel
theorem dX11_step_11 : decode cX11_step 11 = .ok (.ireturn, 1) := by decide +kernel
theorem dX11_step_12 : decode cX11_step 12 = .ok (.aload_n 0, 1) := by decide +kernel
theorem dX11_step_13 : decode cX11_step 13 = .ok (.getfield 48, 3) := by decide +kernel
theorem dX11_step_16 : decode cX11_step 16 = .ok (.istore_n 2, 1) := by decide +kernel
theorem dX11_step_17 : decode cX11_step 17 = .ok (.aload_n 0, 1) := by decide +kernel
theorem dX11_step_18 : decode cX11_step 18 = .ok (.iload_n 1, 1) := by decide +kernel
theorem dX11_step_19 : decode cX11_step 19 = .ok (.putfield 48, 3) := by decide +kernel
theorem dX11_step_22 : decode cX11_step 22 = .ok (.iload_n 2, 1) := by decide +kernel
theorem dX11_step_23 : decode cX11_step 23 = .ok (.ireturn, 1) := by decide +kernel
set_option maxRecDepth 20000 in
theorem ggX11_uses_X11_isStem : GoodIn wsX11_uses wsX11_isStem := goodIn_r _ [6, 7, 8, 5, 9] (by decide +kernel) (by decide +kernel)
set_option maxRecDepth 20000 in
theorem gX11_uses_X11_isStem : GoodIn wsX11_uses (va_wsS RX11 73 yX11_isStem wsX11_isStem) := goodIn_app (goodIn_of _ (by decide +kernel)) ggX11_uses_X11_isStem
theorem dX11_uses_0 : decode cX11_uses 0 = .ok (.iload_n 1, 1) := by decide +kernel
theorem dX11_uses_1 : decode cX11_uses 1 = .ok (.invokestatic 73, 3) := by decide +kernel
theorem dX11_uses_4 : decode cX11_uses 4 = .ok (.ifCond .eq 15, 3) := by decide +kernel
theorem dX11_uses_7 : decode cX11_uses 7 = .ok (.aload_n 0, 1) := by decide +kernel
theorem dX11_uses_8 : decode cX11_uses 8 = .ok (.getfield 40, 3) := by decide +kernel
theorem dX11_uses_11 : decode cX11_uses 11 = .ok (.getfield 237, 3) := by decide +kernel
theorem dX11_uses_14 : decode cX11_uses 14 = .ok (.iload_n 1, 1) := by decide +kernel
theorem dX11_uses_15 : decode cX11_uses 15 = .ok (.iaload, 1) := by decide +kernel
theorem dX11_uses_16 : decode cX11_uses 16 = .ok (.goto 4, 3) := by decide +kernel
theorem dX11_uses_19 : decode cX11_uses 19 = .ok (.iconst (-1), 1) := by decide +kernel
theorem dX11_uses_20 : decode cX11_uses 20 = .ok (.ireturn, 1) := by decide +kernel
set_option maxRecDepth 20000 in
theorem ggX11_about_X9_formAt : GoodIn wsX11_about wsX9_formAt := goodIn_r _ [11, 12, 13, 29, 30, 31, 32, 33] (by decide +kernel) (by decide +kernel)
set_option maxRecDepth 20000 in
theorem gX11_about_X9_formAt : GoodIn wsX11_about (wsV RX11 107 RX9 yX9_formAt wsX9_formAt) := goodIn_app (goodIn_of _ (by decide +kernel)) ggX11_about_X9_formAt
theorem dX11_about_0 : decode cX11_about 0 = .ok (.aload_n 0, 1) := by decide +kernel
theorem dX11_about_1 : decode cX11_about 1 = .ok (.getfield 19, 3) := by decide +kernel
theorem dX11_about_4 : decode cX11_about 4 = .ok (.iload_n 1, 1) := by decide +kernel
theorem dX11_about_5 : decode cX11_about 5 = .ok (.invokevirtual 107, 3) := by decide +kernel
theorem dX11_about_8 : decode cX11_about 8 = .ok (.astore_n 3, 1) := by decide +kernel
theorem dX11_about_9 : decode cX11_about 9 = .ok (.aload_n 3, 1) := by decide +kernel
theorem dX11_about_10 : decode cX11_about 10 = .ok (.ifnonnull 5, 3) := by decide +kernel
theorem dX11_about_13 : decode cX11_about 13 = .ok (.iconst (-1), 1) := by decide +kernel
theorem dX11_about_14 : decode cX11_about 14 = .ok (.ireturn, 1) := by decide +kernel
set_option maxRecDepth 20000 in
theorem ggX11_count_X0_price : GoodIn wsX11_count wsX0_price := goodIn_r _ [17, 18, 19, 20, 21, 22, 41, 42, 43, 50, 51, 52, 53, 54, 55, 56, 57, 58, 59, 60, 61, 62, 63, 64, 65, 66] (by decide +kernel) (by decide +kernel)
set_option maxRecDepth 20000 in
theorem gX11_count_X0_price : GoodIn wsX11_count (wsV RX11 253 RX0 yX0_price wsX0_price) := goodIn_app (goodIn_of _ (by decide +kernel)) ggX11_count_X0_price
theorem dX11_count_0 : decode cX11_count 0 = .ok (.iload_n 1, 1) := by decide +kernel
theorem dX11_count_1 : decode cX11_count 1 = .ok (.tableswitch 114 0 7 #[47, 55, 63, 71, 79, 90, 98, 103], 47) := by decide +kernel
theorem dX11_count_48 : decode cX11_count 48 = .ok (.aload_n 0, 1) := by decide +kernel
theorem dX11_count_49 : decode cX11_count 49 = .ok (.getfield 19, 3) := by decide +kernel
theorem dX11_count_52 : decode cX11_count 52 = .ok (.getfield 67, 3) := by decide +kernel
theorem dX11_count_55 : decode cX11_count 55 = .ok (.ireturn, 1) := by decide +kernel
theorem dX11_count_56 : decode cX11_count 56 = .ok (.aload_n 0, 1) := by decide +kernel
theorem dX11_count_57 : decode cX11_count 57 = .ok (.getfield 19, 3) := by decide +kernel
theorem dX11_count_60 : decode cX11_count 60 = .ok (.getfield 92, 3) := by decide +kernel
theorem dX11_count_63 : decode cX11_count 63 = .ok (.ireturn, 1) := by decide +kernel
theorem dX11_count_64 : decode cX11_count 64 = .ok (.aload_n 0, 1) := by decide +kernel
theorem dX11_count_65 : decode cX11_count 65 = .ok (.getfield 12, 3) := by decide +kernel
theorem dX11_count_68 : decode cX11_count 68 = .ok (.getfield 60, 3) := by decide +kernel
theorem dX11_count_71 : decode cX11_count 71 = .ok (.ireturn, 1) := by decide +kernel
theorem dX11_count_72 : decode cX11_count 72 = .ok (.aload_n 0, 1) := by decide +kernel
theorem dX11_count_73 : decode cX11_count 73 = .ok (.getfield 26, 3) := by decide +kernel
theorem dX11_count_76 : decode cX11_count 76 = .ok (.getfield 164, 3) := by decide +kernel
theorem dX11_count_79 : decode cX11_count 79 = .ok (.ireturn, 1) := by decide +kernel
theorem dX11_count_80 : decode cX11_count 80 = .ok (.aload_n 0, 1) := by decide +kernel
theorem dX11_count_81 : decode cX11_count 81 = .ok (.getfield 26, 3) := by decide +kernel
theorem dX11_count_84 : decode cX11_count 84 = .ok (.getfield 135, 3) := by decide +kernel
theorem dX11_count_87 : decode cX11_count 87 = .ok (.getfield 139, 3) := by decide +kernel
theorem dX11_count_90 : decode cX11_count 90 = .ok (.ireturn, 1) := by decide +kernel
theorem dX11_count_91 : decode cX11_count 91 = .ok (.aload_n 0, 1) := by decide +kernel
theorem dX11_count_92 : decode cX11_count 92 = .ok (.getfield 40, 3) := by decide +kernel
theorem dX11_count_95 : decode cX11_count 95 = .ok (.getfield 232, 3) := by decide +kernel
theorem dX11_count_98 : decode cX11_count 98 = .ok (.ireturn, 1) := by decide +kernel
theorem dX11_count_99 : decode cX11_count 99 = .ok (.aload_n 0, 1) := by decide +kernel
theorem dX11_count_100 : decode cX11_count 100 = .ok (.getfield 48, 3) := by decide +kernel
theorem dX11_count_103 : decode cX11_count 103 = .ok (.ireturn, 1) := by decide +kernel
theorem dX11_count_104 : decode cX11_count 104 = .ok (.aload_n 0, 1) := by decide +kernel
theorem dX11_count_105 : decode cX11_count 105 = .ok (.getfield 26, 3) := by decide +kernel
theorem dX11_count_108 : decode cX11_count 108 = .ok (.getfield 135, 3) := by decide +kernel
theorem dX11_count_111 : decode cX11_count 111 = .ok (.invokevirtual 253, 3) := by decide +kernel
theorem dX11_count_114 : decode cX11_count 114 = .ok (.ireturn, 1) := by decide +kernel
theorem dX11_count_115 : decode cX11_count 115 = .ok (.iconst (-1), 1) := by decide +kernel
theorem dX11_count_116 : decode cX11_count 116 = .ok (.ireturn, 1) := by decide +kernel
theorem dX11_within_0 : decode cX11_within 0 = .ok (.iload_n 0, 1) := by decide +kernel
theorem dX11_within_1 : decode cX11_within 1 = .ok (.iload_n 1, 1) := by decide +kernel
theorem dX11_within_2 : decode cX11_within 2 = .ok (.if_icmp .lt 12, 3) := by decide +kernel
theorem dX11_within_5 : decode cX11_within 5 = .ok (.iload_n 0, 1) := by decide +kernel
theorem dX11_within_6 : decode cX11_within 6 = .ok (.iload_n 2, 1) := by decide +kernel
theorem dX11_within_7 : decode cX11_within 7 = .ok (.if_icmp .gt 7, 3) := by decide +kernel
theorem dX11_within_10 : decode cX11_within 10 = .ok (.iconst 1, 1) := by decide +kernel
theorem dX11_within_11 : decode cX11_within 11 = .ok (.goto 4, 3) := by decide +kernel
theorem dX11_within_14 : decode cX11_within 14 = .ok (.iconst 0, 1) := by decide +kernel
theorem dX11_within_15 : decode cX11_within 15 = .ok (.ireturn, 1) := by decide +kernel
set_option maxRecDepth 20000 in
theorem ggX11_isKind_X11_within : GoodIn wsX11_isKind wsX11_within := goodIn_r _ [4] (by decide +kernel) (by decide +kernel)
set_option maxRecDepth 20000 in
theorem gX11_isKind_X11_within : GoodIn wsX11_isKind (va_wsS RX11 63 yX11_within wsX11_within) := goodIn_app (goodIn_of _ (by decide +kernel)) ggX11_isKind_X11_within
theorem dX11_isKind_0 : decode cX11_isKind 0 = .ok (.iload_n 0, 1) := by decide +kernel
theorem dX11_isKind_1 : decode cX11_isKind 1 = .ok (.iconst 0, 1) := by decide +kernel
theorem dX11_isKind_2 : decode cX11_isKind 2 = .ok (.iconst 5, 1) := by decide +kernel
theorem dX11_isKind_3 : decode cX11_isKind 3 = .ok (.invokestatic 63, 3) := by decide +kernel
theorem dX11_isKind_6 : decode cX11_isKind 6 = .ok (.ireturn, 1) := by decide +kernel
set_option maxRecDepth 20000 in
theorem ggX11_isStem_X11_within : GoodIn wsX11_isStem wsX11_within := goodIn_r _ [4] (by decide +kernel) (by decide +kernel)
set_option maxRecDepth 20000 in
theorem gX11_isStem_X11_within : GoodIn wsX11_isStem (va_wsS RX11 63 yX11_within wsX11_within) := goodIn_app (goodIn_of _ (by decide +kernel)) ggX11_isStem_X11_within
theorem dX11_isStem_0 : decode cX11_isStem 0 = .ok (.iload_n 0, 1) := by decide +kernel
theorem dX11_isStem_1 : decode cX11_isStem 1 = .ok (.iconst 0, 1) := by decide +kernel
theorem dX11_isStem_2 : decode cX11_isStem 2 = .ok (.bipush 19, 2) := by decide +kernel
theorem dX11_isStem_4 : decode cX11_isStem 4 = .ok (.invokestatic 63, 3) := by decide +kernel
theorem dX11_isStem_7 : decode cX11_isStem 7 = .ok (.ireturn, 1) := by decide +kernel
set_option maxRecDepth 20000 in
theorem ggX11_isCost_X11_within : GoodIn wsX11_isCost wsX11_within := goodIn_r _ [4] (by decide +kernel) (by decide +kernel)
set_option maxRecDepth 20000 in
theorem gX11_isCost_X11_within : GoodIn wsX11_isCost (va_wsS RX11 63 yX11_within wsX11_within) := goodIn_app (goodIn_of _ (by decide +kernel)) ggX11_isCost_X11_within
theorem dX11_isCost_0 : decode cX11_isCost 0 = .ok (.iload_n 0, 1) := by decide +kernel
theorem dX11_isCost_1 : decode cX11_isCost 1 = .ok (.iconst 0, 1) := by decide +kernel
theorem dX11_isCost_2 : decode cX11_isCost 2 = .ok (.bipush 99, 2) := by decide +kernel
theorem dX11_isCost_4 : decode cX11_isCost 4 = .ok (.invokestatic 63, 3) := by decide +kernel
theorem dX11_isCost_7 : decode cX11_isCost 7 = .ok (.ireturn, 1) := by decide +kernel
set_option maxRecDepth 20000 in
theorem ggX11_isDay_X11_within : GoodIn wsX11_isDay wsX11_within := goodIn_r _ [4] (by decide +kernel) (by decide +kernel)
set_option maxRecDepth 20000 in
theorem gX11_isDay_X11_within : GoodIn wsX11_isDay (va_wsS RX11 63 yX11_within wsX11_within) := goodIn_app (goodIn_of _ (by decide +kernel)) ggX11_isDay_X11_within
theorem dX11_isDay_0 : decode cX11_isDay 0 = .ok (.iload_n 0, 1) := by decide +kernel
theorem dX11_isDay_1 : decode cX11_isDay 1 = .ok (.iconst 0, 1) := by decide +kernel
theorem dX11_isDay_2 : decode cX11_isDay 2 = .ok (.sipush 999, 3) := by decide +kernel
theorem dX11_isDay_5 : decode cX11_isDay 5 = .ok (.invokestatic 63, 3) := by decide +kernel
theorem dX11_isDay_8 : decode cX11_isDay 8 = .ok (.ireturn, 1) := by decide +kernel
set_option maxRecDepth 20000 in
theorem ggX11_rulesBetween_X9_formAt : GoodIn wsX11_rulesBetween wsX9_formAt := goodIn_r _ [8, 9, 10, 41, 42, 43, 44, 45] (by decide +kernel) (by decide +kernel)
set_option maxRecDepth 20000 in
theorem gX11_rulesBetween_X9_formAt : GoodIn wsX11_rulesBetween (wsV RX11 107 RX9 yX9_formAt wsX9_formAt) := goodIn_app (goodIn_of _ (by decide +kernel)) ggX11_rulesBetween_X9_formAt
theorem dX11_rulesBetween_0 : decode cX11_rulesBetween 0 = .ok (.aload_n 0, 1) := by decide +kernel
theorem dX11_rulesBetween_1 : decode cX11_rulesBetween 1 = .ok (.getfield 19, 3) := by decide +kernel
theorem dX11_rulesBetween_4 : decode cX11_rulesBetween 4 = .ok (.iload_n 1, 1) := by decide +kernel
theorem dX11_rulesBetween_5 : decode cX11_rulesBetween 5 = .ok (.invokevirtual 107, 3) := by decide +kernel
theorem dX11_rulesBetween_8 : decode cX11_rulesBetween 8 = .ok (.astore 4, 2) := by decide +kernel
theorem dX11_rulesBetween_10 : decode cX11_rulesBetween 10 = .ok (.aload_n 0, 1) := by decide +kernel
theorem dX11_rulesBetween_11 : decode cX11_rulesBetween 11 = .ok (.getfield 19, 3) := by decide +kernel
theorem dX11_rulesBetween_14 : decode cX11_rulesBetween 14 = .ok (.iload_n 2, 1) := by decide +kernel
theorem dX11_rulesBetween_15 : decode cX11_rulesBetween 15 = .ok (.invokevirtual 107, 3) := by decide +kernel
theorem dX11_rulesBetween_18 : decode cX11_rulesBetween 18 = .ok (.astore 5, 2) := by decide +kernel
theorem dX11_rulesBetween_20 : decode cX11_rulesBetween 20 = .ok (.aload 4, 2) := by decide +kernel
theorem dX11_rulesBetween_22 : decode cX11_rulesBetween 22 = .ok (.ifnull 15, 3) := by decide +kernel
theorem dX11_rulesBetween_37 : decode cX11_rulesBetween 37 = .ok (.iconst (-1), 1) := by decide +kernel
theorem dX11_rulesBetween_38 : decode cX11_rulesBetween 38 = .ok (.ireturn, 1) := by decide +kernel
theorem dX11_toldPath_0 : decode cX11_toldPath 0 = .ok (.aload_n 0, 1) := by decide +kernel
theorem dX11_toldPath_1 : decode cX11_toldPath 1 = .ok (.getfield 44, 3) := by decide +kernel
theorem dX11_toldPath_4 : decode cX11_toldPath 4 = .ok (.ifnull 30, 3) := by decide +kernel
theorem dX11_toldPath_34 : decode cX11_toldPath 34 = .ok (.aconst_null, 1) := by decide +kernel
theorem dX11_toldPath_35 : decode cX11_toldPath 35 = .ok (.areturn, 1) := by decide +kernel
theorem dX12_init_0 : decode cX12_init 0 = .ok (.aload_n 0, 1) := by decide +kernel
theorem dX12_init_1 : decode cX12_init 1 = .ok (.invokespecial 1, 3) := by decide +kernel
theorem dX12_init_4 : decode cX12_init 4 = .ok (.aload_n 0, 1) := by decide +kernel
theorem dX12_init_5 : decode cX12_init 5 = .ok (.bipush 60, 2) := by decide +kernel
theorem dX12_init_7 : decode cX12_init 7 = .ok (.newarray .byte, 2) := by decide +kernel
theorem dX12_init_9 : decode cX12_init 9 = .ok (.putfield 7, 3) := by decide +kernel
theorem dX12_init_12 : decode cX12_init 12 = .ok (.aload_n 0, 1) := by decide +kernel
theorem dX12_init_13 : decode cX12_init 13 = .ok (.sipush 320, 3) := by decide +kernel
theorem dX12_init_16 : decode cX12_init 16 = .ok (.newarray .byte, 2) := by decide +kernel
theorem dX12_init_18 : decode cX12_init 18 = .ok (.putfield 13, 3) := by decide +kernel
theorem dX12_init_21 : decode cX12_init 21 = .ok (.aload_n 0, 1) := by decide +kernel
theorem dX12_init_22 : decode cX12_init 22 = .ok (.bipush 40, 2) := by decide +kernel
theorem dX12_init_24 : decode cX12_init 24 = .ok (.newarray .int, 2) := by decide +kernel
theorem dX12_init_26 : decode cX12_init 26 = .ok (.putfield 16, 3) := by decide +kernel
theorem dX12_init_29 : decode cX12_init 29 = .ok (.aload_n 0, 1) := by decide +kernel
theorem dX12_init_30 : decode cX12_init 30 = .ok (.bipush 40, 2) := by decide +kernel
theorem dX12_init_32 : decode cX12_init 32 = .ok (.newarray .int, 2) := by decide +kernel
theorem dX12_init_34 : decode cX12_init 34 = .ok (.putfield 20, 3) := by decide +kernel
theorem dX12_init_37 : decode cX12_init 37 = .ok (.aload_n 0, 1) := by decide +kernel
theorem dX12_init_38 : decode cX12_init 38 = .ok (.bipush 40, 2) := by decide +kernel
theorem dX12_init_40 : decode cX12_init 40 = .ok (.newarray .int, 2) := by decide +kernel
theorem dX12_init_42 : decode cX12_init 42 = .ok (.putfield 23, 3) := by decide +kernel
theorem dX12_init_45 : decode cX12_init 45 = .ok (.aload_n 0, 1) := by decide +kernel
theorem dX12_init_46 : decode cX12_init 46 = .ok (.bipush 40, 2) := by decide +kernel
theorem dX12_init_48 : decode cX12_init 48 = .ok (.newarray .int, 2) := by decide +kernel
theorem dX12_init_50 : decode cX12_init 50 = .ok (.putfield 26, 3) := by decide +kernel
theorem dX12_init_53 : decode cX12_init 53 = .ok (.aload_n 0, 1) := by decide +kernel
theorem dX12_init_54 : decode cX12_init 54 = .ok (.bipush 40, 2) := by decide +kernel
theorem dX12_init_56 : decode cX12_init 56 = .ok (.newarray .boolean, 2) := by decide +kernel
theorem dX12_init_58 : decode cX12_init 58 = .ok (.putfield 29, 3) := by decide +kernel
theorem dX12_init_61 : decode cX12_init 61 = .ok (.aload_n 0, 1) := by decide +kernel
theorem dX12_init_62 : decode cX12_init 62 = .ok (.sipush 240, 3) := by decide +kernel
theorem dX12_init_65 : decode cX12_init 65 = .ok (.newarray .byte, 2) := by decide +kernel
theorem dX12_init_67 : decode cX12_init 67 = .ok (.putfield 33, 3) := by decide +kernel
theorem dX12_init_70 : decode cX12_init 70 = .ok (.aload_n 0, 1) := by decide +kernel
theorem dX12_init_71 : decode cX12_init 71 = .ok (.bipush 24, 2) := by decide +kernel
theorem dX12_init_73 : decode cX12_init 73 = .ok (.newarray .int, 2) := by decide +kernel
theorem dX12_init_75 : decode cX12_init 75 = .ok (.putfield 36, 3) := by decide +kernel
theorem dX12_init_78 : decode cX12_init 78 = .ok (.aload_n 0, 1) := by decide +kernel
theorem dX12_init_79 : decode cX12_init 79 = .ok (.bipush 24, 2) := by decide +kernel
theorem dX12_init_81 : decode cX12_init 81 = .ok (.newarray .int, 2) := by decide +kernel
theorem dX12_init_83 : decode cX12_init 83 = .ok (.putfield 39, 3) := by decide +kernel
theorem dX12_init_86 : decode cX12_init 86 = .ok (.aload_n 0, 1) := by decide +kernel
theorem dX12_init_87 : decode cX12_init 87 = .ok (.bipush 24, 2) := by decide +kernel
theorem dX12_init_89 : decode cX12_init 89 = .ok (.newarray .int, 2) := by decide +kernel
theorem dX12_init_91 : decode cX12_init 91 = .ok (.putfield 42, 3) := by decide +kernel
theorem dX12_init_94 : decode cX12_init 94 = .ok (.aload_n 0, 1) := by decide +kernel
theorem dX12_init_95 : decode cX12_init 95 = .ok (.bipush 24, 2) := by decide +kernel
theorem dX12_init_97 : decode cX12_init 97 = .ok (.newarray .int, 2) := by decide +kernel
theorem dX12_init_99 : decode cX12_init 99 = .ok (.putfield 45, 3) := by decide +kernel
theorem dX12_init_102 : decode cX12_init 102 = .ok (.aload_n 0, 1) := by decide +kernel
theorem dX12_init_103 : decode cX12_init 103 = .ok (.bipush 24, 2) := by decide +kernel
theorem dX12_init_105 : decode cX12_init 105 = .ok (.newarray .int, 2) := by decide +kernel
theorem dX12_init_107 : decode cX12_init 107 = .ok (.putfield 48, 3) := by decide +kernel
theorem dX12_init_110 : decode cX12_init 110 = .ok (.aload_n 0, 1) := by decide +kernel
theorem dX12_init_111 : decode cX12_init 111 = .ok (.bipush 24, 2) := by decide +kernel
theorem dX12_init_113 : decode cX12_init 113 = .ok (.newarray .int, 2) := by decide +kernel
theorem dX12_init_115 : decode cX12_init 115 = .ok (.putfield 51, 3) := by decide +kernel
theorem dX12_init_118 : decode cX12_init 118 = .ok (.aload_n 0, 1) := by decide +kernel
theorem dX12_init_119 : decode cX12_init 119 = .ok (.bipush 36, 2) := by decide +kernel
theorem dX12_init_121 : decode cX12_init 121 = .ok (.newarray .boolean, 2) := by decide +kernel
theorem dX12_init_123 : decode cX12_init 123 = .ok (.putfield 54, 3) := by decide +kernel
theorem dX12_init_126 : decode cX12_init 126 = .ok (.aload_n 0, 1) := by decide +kernel
theorem dX12_init_127 : decode cX12_init 127 = .ok (.bipush 36, 2) := by decide +kernel
theorem dX12_init_129 : decode cX12_init 129 = .ok (.newarray .int, 2) := by decide +kernel
theorem dX12_init_131 : decode cX12_init 131 = .ok (.putfield 57, 3) := by decide +kernel
theorem dX12_init_134 : decode cX12_init 134 = .ok (.aload_n 0, 1) := by decide +kernel
theorem dX12_init_135 : decode cX12_init 135 = .ok (.bipush 20, 2) := by decide +kernel
theorem dX12_init_137 : decode cX12_init 137 = .ok (.newarray .int, 2) := by decide +kernel
theorem dX12_init_139 : decode cX12_init 139 = .ok (.putfield 60, 3) := by decide +kernel
theorem dX12_init_142 : decode cX12_init 142 = .ok (.aload_n 0, 1) := by decide +kernel
theorem dX12_init_143 : decode cX12_init 143 = .ok (.iconst 1, 1) := by decide +kernel
theorem dX12_init_144 : decode cX12_init 144 = .ok (.putfield 63, 3) := by decide +kernel
theorem dX12_init_147 : decode cX12_init 147 = .ok (.aload_n 0, 1) := by decide +kernel
theorem dX12_init_148 : decode cX12_init 148 = .ok (.bipush 40, 2) := by decide +kernel
theorem dX12_init_150 : decode cX12_init 150 = .ok (.newarray .int, 2) := by decide +kernel
theorem dX12_init_152 : decode cX12_init 152 = .ok (.putfield 67, 3) := by decide +kernel
theorem dX12_init_155 : decode cX12_init 155 = .ok (.aload_n 0, 1) := by decide +kernel
theorem dX12_init_156 : decode cX12_init 156 = .ok (.bipush 40, 2) := by decide +kernel
theorem dX12_init_158 : decode cX12_init 158 = .ok (.newarray .int, 2) := by decide +kernel
theorem dX12_init_160 : decode cX12_init 160 = .ok (.putfield 70, 3) := by decide +kernel
theorem dX12_init_163 : decode cX12_init 163 = .ok (.aload_n 0, 1) := by decide +kernel
theorem dX12_init_164 : decode cX12_init 164 = .ok (.sipush 480, 3) := by decide +kernel
theorem dX12_init_167 : decode cX12_init 167 = .ok (.newarray .byte, 2) := by decide +kernel
theorem dX12_init_169 : decode cX12_init 169 = .ok (.putfield 73, 3) := by decide +kernel
theorem dX12_init_172 : decode cX12_init 172 = .ok (.aload_n 0, 1) := by decide +kernel
theorem dX12_init_173 : decode cX12_init 173 = .ok (.bipush 40, 2) := by decide +kernel
theorem dX12_init_175 : decode cX12_init 175 = .ok (.newarray .byte, 2) := by decide +kernel
theorem dX12_init_177 : decode cX12_init 177 = .ok (.putfield 76, 3) := by decide +kernel
theorem dX12_init_180 : decode cX12_init 180 = .ok (.aload_n 0, 1) := by decide +kernel
theorem dX12_init_181 : decode cX12_init 181 = .ok (.sipush 1600, 3) := by decide +kernel
theorem dX12_init_184 : decode cX12_init 184 = .ok (.newarray .int, 2) := by decide +kernel
theorem dX12_init_186 : decode cX12_init 186 = .ok (.putfield 79, 3) := by decide +kernel
theorem dX12_init_189 : decode cX12_init 189 = .ok (.aload_n 0, 1) := by decide +kernel
theorem dX12_init_190 : decode cX12_init 190 = .ok (.sipush 6560, 3) := by decide +kernel
theorem dX12_init_193 : decode cX12_init 193 = .ok (.newarray .boolean, 2) := by decide +kernel
theorem dX12_init_195 : decode cX12_init 195 = .ok (.putfield 82, 3) := by decide +kernel
theorem dX12_init_198 : decode cX12_init 198 = .ok (.aload_n 0, 1) := by decide +kernel
theorem dX12_init_199 : decode cX12_init 199 = .ok (.sipush 6560, 3) := by decide +kernel
theorem dX12_init_202 : decode cX12_init 202 = .ok (.newarray .long, 2) := by decide +kernel
theorem dX12_init_204 : decode cX12_init 204 = .ok (.putfield 85, 3) := by decide +kernel
theorem dX12_init_207 : decode cX12_init 207 = .ok (.aload_n 0, 1) := by decide +kernel
theorem dX12_init_208 : decode cX12_init 208 = .ok (.ldc 89, 2) := by decide +kernel
theorem dX12_init_210 : decode cX12_init 210 = .ok (.newarray .int, 2) := by decide +kernel
theorem dX12_init_212 : decode cX12_init 212 = .ok (.putfield 90, 3) := by decide +kernel
theorem dX12_init_215 : decode cX12_init 215 = .ok (.aload_n 0, 1) := by decide +kernel
theorem dX12_init_216 : decode cX12_init 216 = .ok (.sipush 6560, 3) := by decide +kernel
theorem dX12_init_219 : decode cX12_init 219 = .ok (.newarray .int, 2) := by decide +kernel
theorem dX12_init_221 : decode cX12_init 221 = .ok (.putfield 93, 3) := by decide +kernel
theorem dX12_init_224 : decode cX12_init 224 = .ok (.aload_n 0, 1) := by decide +kernel
theorem dX12_init_225 : decode cX12_init 225 = .ok (.bipush 8, 2) := by decide +kernel
theorem dX12_init_227 : decode cX12_init 227 = .ok (.newarray .int, 2) := by decide +kernel
theorem dX12_init_229 : decode cX12_init 229 = .ok (.putfield 96, 3) := by decide +kernel
theorem dX12_init_232 : decode cX12_init 232 = .ok (.aload_n 0, 1) := by decide +kernel
theorem dX12_init_233 : decode cX12_init 233 = .ok (.bipush 8, 2) := by decide +kernel
theorem dX12_init_235 : decode cX12_init 235 = .ok (.newarray .int, 2) := by decide +kernel
theorem dX12_init_237 : decode cX12_init 237 = .ok (.putfield 99, 3) := by decide +kernel
theorem dX12_init_240 : decode cX12_init 240 = .ok (.aload_n 0, 1) := by decide +kernel
theorem dX12_init_241 : decode cX12_init 241 = .ok (.sipush 320, 3) := by decide +kernel
theorem dX12_init_244 : decode cX12_init 244 = .ok (.newarray .int, 2) := by decide +kernel
theorem dX12_init_246 : decode cX12_init 246 = .ok (.putfield 102, 3) := by decide +kernel
theorem dX12_init_249 : decode cX12_init 249 = .ok (.aload_n 0, 1) := by decide +kernel
theorem dX12_init_250 : decode cX12_init 250 = .ok (.sipush 320, 3) := by decide +kernel
theorem dX12_init_253 : decode cX12_init 253 = .ok (.newarray .int, 2) := by decide +kernel
theorem dX12_init_255 : decode cX12_init 255 = .ok (.putfield 105, 3) := by decide +kernel
theorem dX12_init_258 : decode cX12_init 258 = .ok (.aload_n 0, 1) := by decide +kernel
theorem dX12_init_259 : decode cX12_init 259 = .ok (.bipush 40, 2) := by decide +kernel
theorem dX12_init_261 : decode cX12_init 261 = .ok (.newarray .int, 2) := by decide +kernel
theorem dX12_init_263 : decode cX12_init 263 = .ok (.putfield 108, 3) := by decide +kernel
theorem dX12_init_266 : decode cX12_init 266 = .ok (.aload_n 0, 1) := by decide +kernel
theorem dX12_init_267 : decode cX12_init 267 = .ok (.sipush 9600, 3) := by decide +kernel
theorem dX12_init_270 : decode cX12_init 270 = .ok (.newarray .long, 2) := by decide +kernel
theorem dX12_init_272 : decode cX12_init 272 = .ok (.putfield 111, 3) := by decide +kernel
theorem dX12_init_275 : decode cX12_init 275 = .ok (.aload_n 0, 1) := by decide +kernel
theorem dX12_init_276 : decode cX12_init 276 = .ok (.bipush 31, 2) := by decide +kernel
theorem dX12_init_278 : decode cX12_init 278 = .ok (.newarray .int, 2) := by decide +kernel
theorem dX12_init_280 : decode cX12_init 280 = .ok (.putfield 114, 3) := by decide +kernel
theorem dX12_init_283 : decode cX12_init 283 = .ok (.aload_n 0, 1) := by decide +kernel
theorem dX12_init_284 : decode cX12_init 284 = .ok (.sipush 1860, 3) := by decide +kernel
theorem dX12_init_287 : decode cX12_init 287 = .ok (.newarray .int, 2) := by decide +kernel
theorem dX12_init_289 : decode cX12_init 289 = .ok (.putfield 117, 3) := by decide +kernel
theorem dX12_init_292 : decode cX12_init 292 = .ok (.iconst 0, 1) := by decide +kernel
theorem dX12_init_293 : decode cX12_init 293 = .ok (.istore_n 1, 1) := by decide +kernel
theorem dX12_init_294 : decode cX12_init 294 = .ok (.iload_n 1, 1) := by decide +kernel
theorem dX12_init_295 : decode cX12_init 295 = .ok (.bipush 36, 2) := by decide +kernel
theorem dX12_init_297 : decode cX12_init 297 = .ok (.if_icmp .ge 16, 3) := by decide +kernel
theorem dX12_init_300 : decode cX12_init 300 = .ok (.aload_n 0, 1) := by decide +kernel
theorem dX12_init_301 : decode cX12_init 301 = .ok (.getfield 57, 3) := by decide +kernel
theorem dX12_init_304 : decode cX12_init 304 = .ok (.iload_n 1, 1) := by decide +kernel
theorem dX12_init_305 : decode cX12_init 305 = .ok (.iconst (-1), 1) := by decide +kernel
theorem dX12_init_306 : decode cX12_init 306 = .ok (.iastore, 1) := by decide +kernel
theorem dX12_init_307 : decode cX12_init 307 = .ok (.iinc 1 1, 3) := by decide +kernel
theorem dX12_init_310 : decode cX12_init 310 = .ok (.goto (-16), 3) := by decide +kernel
theorem dX12_init_313 : decode cX12_init 313 = .ok (.return_, 1) := by decide +kernel
theorem dX12_in_0 : decode cX12_in 0 = .ok (.iload_n 0, 1) := by decide +kernel
theorem dX12_in_1 : decode cX12_in 1 = .ok (.iload_n 1, 1) := by decide +kernel
theorem dX12_in_2 : decode cX12_in 2 = .ok (.if_icmp .lt 12, 3) := by decide +kernel
theorem dX12_in_5 : decode cX12_in 5 = .ok (.iload_n 0, 1) := by decide +kernel
theorem dX12_in_6 : decode cX12_in 6 = .ok (.iload_n 2, 1) := by decide +kernel
theorem dX12_in_7 : decode cX12_in 7 = .ok (.if_icmp .gt 7, 3) := by decide +kernel
theorem dX12_in_10 : decode cX12_in 10 = .ok (.iconst 1, 1) := by decide +kernel
theorem dX12_in_11 : decode cX12_in 11 = .ok (.goto 4, 3) := by decide +kernel
theorem dX12_in_14 : decode cX12_in 14 = .ok (.iconst 0, 1) := by decide +kernel
theorem dX12_in_15 : decode cX12_in 15 = .ok (.ireturn, 1) := by decide +kernel
theorem dX12_four_0 : decode cX12_four 0 = .ok (.bipush 24, 2) := by decide +kernel
theorem dX12_four_2 : decode cX12_four 2 = .ok (.istore_n 2, 1) := by decide +kernel
theorem dX12_four_3 : decode cX12_four 3 = .ok (.iload_n 2, 1) := by decide +kernel
theorem dX12_four_4 : decode cX12_four 4 = .ok (.ifCond .lt 32, 3) := by decide +kernel
theorem dX12_four_7 : decode cX12_four 7 = .ok (.aload_n 0, 1) := by decide +kernel
theorem dX12_four_8 : decode cX12_four 8 = .ok (.getfield 7, 3) := by decide +kernel
theorem dX12_four_11 : decode cX12_four 11 = .ok (.aload_n 0, 1) := by decide +kernel
theorem dX12_four_12 : decode cX12_four 12 = .ok (.getfield 120, 3) := by decide +kernel
theorem dX12_four_15 : decode cX12_four 15 = .ok (.iload_n 1, 1) := by decide +kernel
theorem dX12_four_16 : decode cX12_four 16 = .ok (.iload_n 2, 1) := by decide +kernel
theorem dX12_four_17 : decode cX12_four 17 = .ok (.ishr, 1) := by decide +kernel
theorem dX12_four_18 : decode cX12_four 18 = .ok (.i2b, 1) := by decide +kernel
theorem dX12_four_19 : decode cX12_four 19 = .ok (.bastore, 1) := by decide +kernel
theorem dX12_four_20 : decode cX12_four 20 = .ok (.aload_n 0, 1) := by decide +kernel
theorem dX12_four_21 : decode cX12_four 21 = .ok (.dup, 1) := by decide +kernel
theorem dX12_four_22 : decode cX12_four 22 = .ok (.getfield 120, 3) := by decide +kernel
theorem dX12_four_25 : decode cX12_four 25 = .ok (.iconst 1, 1) := by decide +kernel
theorem dX12_four_26 : decode cX12_four 26 = .ok (.iadd, 1) := by decide +kernel
theorem dX12_four_27 : decode cX12_four 27 = .ok (.putfield 120, 3) := by decide +kernel
theorem dX12_four_30 : decode cX12_four 30 = .ok (.iinc 2 (-8), 3) := by decide +kernel
theorem dX12_four_33 : decode cX12_four 33 = .ok (.goto (-30), 3) := by decide +kernel
theorem dX12_four_36 : decode cX12_four 36 = .ok (.return_, 1) := by decide +kernel
set_option maxRecDepth 20000 in
theorem ggX12_feed_X12_four : GoodIn wsX12_feed wsX12_four := goodIn_r _ [6, 7, 1, 8, 9, 10, 11, 12, 13, 14, 15, 16, 17, 18, 19, 20, 21, 22, 23, 24, 25, 26, 27, 28, 29, 30, 31, 32, 33, 34, 35, 36, 37, 38, 39, 40, 41, 42, 43, 44, 45, 46, 47, 48, 49, 50, 51, 52, 53, 54, 55, 56] (by decide +kernel) (by decide +kernel)
set_option maxRecDepth 20000 in
theorem gX12_feed_X12_four : GoodIn wsX12_feed (wsV RX12 123 RX12 yX12_four wsX12_four) := goodIn_app (goodIn_of _ (by decide +kernel)) ggX12_feed_X12_four
theorem dX12_feed_0 : decode cX12_feed 0 = .ok (.aload_n 0, 1) := by decide +kernel
theorem dX12_feed_1 : decode cX12_feed 1 = .ok (.getfield 120, 3) := by decide +kernel
theorem dX12_feed_4 : decode cX12_feed 4 = .ok (.bipush 20, 2) := by decide +kernel
theorem dX12_feed_6 : decode cX12_feed 6 = .ok (.iadd, 1) := by decide +kernel
theorem dX12_feed_7 : decode cX12_feed 7 = .ok (.bipush 60, 2) := by decide +kernel
theorem dX12_feed_9 : decode cX12_feed 9 = .ok (.if_icmp .le 5, 3) := by decide +kernel
theorem dX12_feed_14 : decode cX12_feed 14 = .ok (.aload_n 0, 1) := by decide +kernel
theorem dX12_feed_15 : decode cX12_feed 15 = .ok (.iload_n 1, 1) := by decide +kernel
theorem dX12_feed_16 : decode cX12_feed 16 = .ok (.invokevirtual 123, 3) := by decide +kernel
theorem dX12_feed_19 : decode cX12_feed 19 = .ok (.aload_n 0, 1) := by decide +kernel
theorem dX12_feed_20 : decode cX12_feed 20 = .ok (.iload_n 2, 1) := by decide +kernel
theorem dX12_feed_21 : decode cX12_feed 21 = .ok (.invokevirtual 123, 3) := by decide +kernel
theorem dX12_feed_24 : decode cX12_feed 24 = .ok (.aload_n 0, 1) := by decide +kernel
theorem dX12_feed_25 : decode cX12_feed 25 = .ok (.iload_n 3, 1) := by decide +kernel
theorem dX12_feed_26 : decode cX12_feed 26 = .ok (.invokevirtual 123, 3) := by decide +kernel
theorem dX12_feed_29 : decode cX12_feed 29 = .ok (.aload_n 0, 1) := by decide +kernel
theorem dX12_feed_30 : decode cX12_feed 30 = .ok (.iload 4, 2) := by decide +kernel
theorem dX12_feed_32 : decode cX12_feed 32 = .ok (.invokevirtual 123, 3) := by decide +kernel
theorem dX12_feed_35 : decode cX12_feed 35 = .ok (.aload_n 0, 1) := by decide +kernel
theorem dX12_feed_36 : decode cX12_feed 36 = .ok (.iload 5, 2) := by decide +kernel
theorem dX12_feed_38 : decode cX12_feed 38 = .ok (.invokevirtual 123, 3) := by decide +kernel
theorem dX12_feed_41 : decode cX12_feed 41 = .ok (.aload_n 0, 1) := by decide +kernel
theorem dX12_feed_42 : decode cX12_feed 42 = .ok (.getfield 120, 3) := by decide +kernel
theorem dX12_feed_45 : decode cX12_feed 45 = .ok (.ireturn, 1) := by decide +kernel
theorem dX12_end_0 : decode cX12_end 0 = .ok (.iload_n 1, 1) := by decide +kernel
theorem dX12_end_1 : decode cX12_end 1 = .ok (.ifCond .lt 11, 3) := by decide +kernel
theorem dX12_end_4 : decode cX12_end 4 = .ok (.iload_n 1, 1) := by decide +kernel
theorem dX12_end_5 : decode cX12_end 5 = .ok (.aload_n 0, 1) := by decide +kernel
theorem dX12_end_6 : decode cX12_end 6 = .ok (.getfield 120, 3) := by decide +kernel
theorem dX12_end_9 : decode cX12_end 9 = .ok (.if_icmp .le 5, 3) := by decide +kernel
theorem dX12_end_12 : decode cX12_end 12 = .ok (.iconst (-1), 1) := by decide +kernel
theorem dX12_end_13 : decode cX12_end 13 = .ok (.ireturn, 1) := by decide +kernel
theorem dX12_end_14 : decode cX12_end 14 = .ok (.aload_n 0, 1) := by decide +kernel
theorem dX12_end_15 : decode cX12_end 15 = .ok (.iload_n 1, 1) := by decide +kernel
theorem dX12_end_16 : decode cX12_end 16 = .ok (.putfield 120, 3) := by decide +kernel
theorem dX12_end_19 : decode cX12_end 19 = .ok (.iload_n 1, 1) := by decide +kernel
theorem dX12_end_20 : decode cX12_end 20 = .ok (.ireturn, 1) := by decide +kernel
theorem dX12_isText_0 : decode cX12_isText 0 = .ok (.iconst 0, 1) := by decide +kernel
theorem dX12_isText_1 : decode cX12_isText 1 = .ok (.istore_n 1, 1) := by decide +kernel
theorem dX12_isText_2 : decode cX12_isText 2 = .ok (.iload_n 1, 1) := by decide +kernel
theorem dX12_isText_3 : decode cX12_isText 3 = .ok (.aload_n 0, 1) := by decide +kernel
theorem dX12_isText_4 : decode cX12_isText 4 = .ok (.getfield 120, 3) := by decide +kernel
theorem dX12_isText_7 : decode cX12_isText 7 = .ok (.if_icmp .ge 33, 3) := by decide +kernel
theorem dX12_isText_40 : decode cX12_isText 40 = .ok (.iconst 1, 1) := by decide +kernel
theorem dX12_isText_41 : decode cX12_isText 41 = .ok (.ireturn, 1) := by decide +kernel
set_option maxRecDepth 20000 in
theorem ggX12_form_X12_isText : GoodIn wsX12_form wsX12_isText := goodIn_r _ [14, 1, 4, 18, 19, 20, 21, 22, 23, 24, 25, 26, 27, 28, 29, 30, 31, 32, 33, 34, 35, 36, 37, 38, 39, 40, 41, 42, 43, 44, 45, 46, 47, 48, 49, 50, 51, 52, 53, 54, 55, 56, 57, 58, 59, 60, 61, 62, 63, 64, 65, 66] (by decide +kernel) (by decide +kernel)
set_option maxRecDepth 20000 in
theorem gX12_form_X12_isText : GoodIn wsX12_form (wsV RX12 127 RX12 yX12_isText wsX12_isText) := goodIn_app (goodIn_of _ (by decide +kernel)) ggX12_form_X12_isText
set_option maxRecDepth 20000 in
theorem ggX12_form_X12_in : GoodIn wsX12_form wsX12_in := goodIn_r _ [17] (by decide +kernel) (by decide +kernel)
set_option maxRecDepth 20000 in
theorem gX12_form_X12_in : GoodIn wsX12_form (va_wsS RX12 134 yX12_in wsX12_in) := goodIn_app (goodIn_of _ (by decide +kernel)) ggX12_form_X12_in
theorem dX12_form_0 : decode cX12_form 0 = .ok (.aload_n 0, 1) := by decide +kernel
theorem dX12_form_1 : decode cX12_form 1 = .ok (.getfield 120, 3) := by decide +kernel
theorem dX12_form_4 : decode cX12_form 4 = .ok (.istore 5, 2) := by decide +kernel
theorem dX12_form_6 : decode cX12_form 6 = .ok (.aload_n 0, 1) := by decide +kernel
theorem dX12_form_7 : decode cX12_form 7 = .ok (.invokevirtual 127, 3) := by decide +kernel
theorem dX12_form_10 : decode cX12_form 10 = .ok (.ifCond .eq 56, 3) := by decide +kernel
theorem dX12_form_13 : decode cX12_form 13 = .ok (.aload_n 0, 1) := by decide +kernel
theorem dX12_form_14 : decode cX12_form 14 = .ok (.getfield 131, 3) := by decide +kernel
theorem dX12_form_17 : decode cX12_form 17 = .ok (.bipush 40, 2) := by decide +kernel
theorem dX12_form_19 : decode cX12_form 19 = .ok (.if_icmp .ge 47, 3) := by decide +kernel
theorem dX12_form_22 : decode cX12_form 22 = .ok (.iload 5, 2) := by decide +kernel
theorem dX12_form_24 : decode cX12_form 24 = .ok (.iconst 1, 1) := by decide +kernel
theorem dX12_form_25 : decode cX12_form 25 = .ok (.bipush 8, 2) := by decide +kernel
theorem dX12_form_27 : decode cX12_form 27 = .ok (.invokestatic 134, 3) := by decide +kernel
theorem dX12_form_30 : decode cX12_form 30 = .ok (.ifCond .eq 36, 3) := by decide +kernel
theorem dX12_form_66 : decode cX12_form 66 = .ok (.iconst 0, 1) := by decide +kernel
theorem dX12_form_67 : decode cX12_form 67 = .ok (.istore 6, 2) := by decide +kernel
theorem dX12_form_69 : decode cX12_form 69 = .ok (.aload_n 0, 1) := by decide +kernel
theorem dX12_form_70 : decode cX12_form 70 = .ok (.iconst 0, 1) := by decide +kernel
theorem dX12_form_71 : decode cX12_form 71 = .ok (.putfield 120, 3) := by decide +kernel
theorem dX12_form_74 : decode cX12_form 74 = .ok (.iload 6, 2) := by decide +kernel
theorem dX12_form_76 : decode cX12_form 76 = .ok (.ifCond .ne 5, 3) := by decide +kernel
theorem dX12_form_79 : decode cX12_form 79 = .ok (.iconst (-1), 1) := by decide +kernel
theorem dX12_form_80 : decode cX12_form 80 = .ok (.ireturn, 1) := by decide +kernel
set_option maxRecDepth 20000 in
theorem ggX12_rule_X12_isText : GoodIn wsX12_rule wsX12_isText := goodIn_r _ [15, 1, 4, 19, 20, 21, 22, 23, 24, 25, 26, 27, 28, 29, 30, 31, 32, 33, 34, 35, 36, 37, 38, 39, 40, 41, 42, 43, 44, 45, 46, 47, 48, 49, 50, 51, 52, 53, 54, 55, 56, 57, 58, 59, 60, 61, 62, 63, 64, 65, 66, 67] (by decide +kernel) (by decide +kernel)
set_option maxRecDepth 20000 in
theorem gX12_rule_X12_isText : GoodIn wsX12_rule (wsV RX12 127 RX12 yX12_isText wsX12_isText) := goodIn_app (goodIn_of _ (by decide +kernel)) ggX12_rule_X12_isText
set_option maxRecDepth 20000 in
theorem ggX12_rule_X12_in : GoodIn wsX12_rule wsX12_in := goodIn_r _ [18] (by decide +kernel) (by decide +kernel)
set_option maxRecDepth 20000 in
theorem gX12_rule_X12_in : GoodIn wsX12_rule (va_wsS RX12 134 yX12_in wsX12_in) := goodIn_app (goodIn_of _ (by decide +kernel)) ggX12_rule_X12_in
theorem dX12_rule_0 : decode cX12_rule 0 = .ok (.aload_n 0, 1) := by decide +kernel
theorem dX12_rule_1 : decode cX12_rule 1 = .ok (.getfield 120, 3) := by decide +kernel
theorem dX12_rule_4 : decode cX12_rule 4 = .ok (.istore 6, 2) := by decide +kernel
theorem dX12_rule_6 : decode cX12_rule 6 = .ok (.aload_n 0, 1) := by decide +kernel
theorem dX12_rule_7 : decode cX12_rule 7 = .ok (.invokevirtual 127, 3) := by decide +kernel
theorem dX12_rule_10 : decode cX12_rule 10 = .ok (.ifCond .eq 87, 3) := by decide +kernel
theorem dX12_rule_13 : decode cX12_rule 13 = .ok (.aload_n 0, 1) := by decide +kernel
theorem dX12_rule_14 : decode cX12_rule 14 = .ok (.getfield 138, 3) := by decide +kernel
theorem dX12_rule_17 : decode cX12_rule 17 = .ok (.bipush 24, 2) := by decide +kernel
theorem dX12_rule_19 : decode cX12_rule 19 = .ok (.if_icmp .ge 78, 3) := by decide +kernel
theorem dX12_rule_22 : decode cX12_rule 22 = .ok (.iload_n 1, 1) := by decide +kernel
theorem dX12_rule_23 : decode cX12_rule 23 = .ok (.iconst 0, 1) := by decide +kernel
theorem dX12_rule_24 : decode cX12_rule 24 = .ok (.iconst 3, 1) := by decide +kernel
theorem dX12_rule_25 : decode cX12_rule 25 = .ok (.invokestatic 134, 3) := by decide +kernel
theorem dX12_rule_28 : decode cX12_rule 28 = .ok (.ifCond .eq 69, 3) := by decide +kernel
theorem dX12_rule_31 : decode cX12_rule 31 = .ok (.iload_n 2, 1) := by decide +kernel
theorem dX12_rule_32 : decode cX12_rule 32 = .ok (.iconst 0, 1) := by decide +kernel
theorem dX12_rule_33 : decode cX12_rule 33 = .ok (.iconst 3, 1) := by decide +kernel
theorem dX12_rule_34 : decode cX12_rule 34 = .ok (.invokestatic 134, 3) := by decide +kernel
theorem dX12_rule_37 : decode cX12_rule 37 = .ok (.ifCond .eq 60, 3) := by decide +kernel
theorem dX12_rule_40 : decode cX12_rule 40 = .ok (.iload_n 1, 1) := by decide +kernel
theorem dX12_rule_41 : decode cX12_rule 41 = .ok (.iload_n 2, 1) := by decide +kernel
theorem dX12_rule_42 : decode cX12_rule 42 = .ok (.iadd, 1) := by decide +kernel
theorem dX12_rule_43 : decode cX12_rule 43 = .ok (.ifCond .le 54, 3) := by decide +kernel
theorem dX12_rule_46 : decode cX12_rule 46 = .ok (.iload 6, 2) := by decide +kernel
theorem dX12_rule_48 : decode cX12_rule 48 = .ok (.iload_n 1, 1) := by decide +kernel
theorem dX12_rule_49 : decode cX12_rule 49 = .ok (.isub, 1) := by decide +kernel
theorem dX12_rule_50 : decode cX12_rule 50 = .ok (.iload_n 2, 1) := by decide +kernel
theorem dX12_rule_51 : decode cX12_rule 51 = .ok (.isub, 1) := by decide +kernel
theorem dX12_rule_52 : decode cX12_rule 52 = .ok (.iconst 0, 1) := by decide +kernel
theorem dX12_rule_53 : decode cX12_rule 53 = .ok (.iconst 4, 1) := by decide +kernel
theorem dX12_rule_54 : decode cX12_rule 54 = .ok (.invokestatic 134, 3) := by decide +kernel
theorem dX12_rule_57 : decode cX12_rule 57 = .ok (.ifCond .eq 40, 3) := by decide +kernel
theorem dX12_rule_97 : decode cX12_rule 97 = .ok (.iconst 0, 1) := by decide +kernel
theorem dX12_rule_98 : decode cX12_rule 98 = .ok (.istore 7, 2) := by decide +kernel
theorem dX12_rule_100 : decode cX12_rule 100 = .ok (.aload_n 0, 1) := by decide +kernel
theorem dX12_rule_101 : decode cX12_rule 101 = .ok (.iconst 0, 1) := by decide +kernel
theorem dX12_rule_102 : decode cX12_rule 102 = .ok (.putfield 120, 3) := by decide +kernel
theorem dX12_rule_105 : decode cX12_rule 105 = .ok (.iload 7, 2) := by decide +kernel
theorem dX12_rule_107 : decode cX12_rule 107 = .ok (.ifCond .ne 5, 3) := by decide +kernel
theorem dX12_rule_110 : decode cX12_rule 110 = .ok (.iconst (-1), 1) := by decide +kernel
theorem dX12_rule_111 : decode cX12_rule 111 = .ok (.ireturn, 1) := by decide +kernel
set_option maxRecDepth 20000 in
theorem ggX12_isForm_X12_in : GoodIn wsX12_isForm wsX12_in := goodIn_r _ [5] (by decide +kernel) (by decide +kernel)
set_option maxRecDepth 20000 in
theorem gX12_isForm_X12_in : GoodIn wsX12_isForm (va_wsS RX12 134 yX12_in wsX12_in) := goodIn_app (goodIn_of _ (by decide +kernel)) ggX12_isForm_X12_in
theorem dX12_isForm_0 : decode cX12_isForm 0 = .ok (.iload_n 1, 1) := by decide +kernel
theorem dX12_isForm_1 : decode cX12_isForm 1 = .ok (.iconst 0, 1) := by decide +kernel
theorem dX12_isForm_2 : decode cX12_isForm 2 = .ok (.aload_n 0, 1) := by decide +kernel
theorem dX12_isForm_3 : decode cX12_isForm 3 = .ok (.getfield 131, 3) := by decide +kernel
theorem dX12_isForm_6 : decode cX12_isForm 6 = .ok (.iconst 1, 1) := by decide +kernel
theorem dX12_isForm_7 : decode cX12_isForm 7 = .ok (.isub, 1) := by decide +kernel
theorem dX12_isForm_8 : decode cX12_isForm 8 = .ok (.invokestatic 134, 3) := by decide +kernel
theorem dX12_isForm_11 : decode cX12_isForm 11 = .ok (.ireturn, 1) := by decide +kernel
set_option maxRecDepth 20000 in
theorem ggX12_cost_X12_isForm : GoodIn wsX12_cost wsX12_isForm := goodIn_r _ [6, 7, 8, 9, 5, 10, 11, 12, 13, 14, 15, 16, 17, 18, 19, 20, 21, 22, 23, 24, 25, 26, 27, 28, 29, 30, 31, 32, 33, 34, 35, 36, 37, 38, 39, 40, 41, 42, 43, 44, 45, 46, 47, 48, 49, 50, 51, 52, 53, 54, 55, 56, 57, 58, 59] (by decide +kernel) (by decide +kernel)
set_option maxRecDepth 20000 in
theorem gX12_cost_X12_isForm : GoodIn wsX12_cost (wsV RX12 141 RX12 yX12_isForm wsX12_isForm) := goodIn_app (goodIn_of _ (by decide +kernel)) ggX12_cost_X12_isForm
theorem dX12_cost_0 : decode cX12_cost 0 = .ok (.aload_n 0, 1) := by decide +kernel
theorem dX12_cost_1 : decode cX12_cost 1 = .ok (.iload_n 1, 1) := by decide +kernel
theorem dX12_cost_2 : decode cX12_cost 2 = .ok (.invokevirtual 141, 3) := by decide +kernel
theorem dX12_cost_5 : decode cX12_cost 5 = .ok (.ifCond .eq 13, 3) := by decide +kernel
theorem dX12_cost_18 : decode cX12_cost 18 = .ok (.iconst (-1), 1) := by decide +kernel
theorem dX12_cost_19 : decode cX12_cost 19 = .ok (.ireturn, 1) := by decide +kernel
set_option maxRecDepth 20000 in
theorem ggX12_isKind_X12_in : GoodIn wsX12_isKind wsX12_in := goodIn_r _ [4] (by decide +kernel) (by decide +kernel)
set_option maxRecDepth 20000 in
theorem gX12_isKind_X12_in : GoodIn wsX12_isKind (va_wsS RX12 134 yX12_in wsX12_in) := goodIn_app (goodIn_of _ (by decide +kernel)) ggX12_isKind_X12_in
theorem dX12_isKind_0 : decode cX12_isKind 0 = .ok (.iload_n 0, 1) := by decide +kernel
theorem dX12_isKind_1 : decode cX12_isKind 1 = .ok (.iconst 0, 1) := by decide +kernel
theorem dX12_isKind_2 : decode cX12_isKind 2 = .ok (.iconst 5, 1) := by decide +kernel
theorem dX12_isKind_3 : decode cX12_isKind 3 = .ok (.invokestatic 134, 3) := by decide +kernel
theorem dX12_isKind_6 : decode cX12_isKind 6 = .ok (.ireturn, 1) := by decide +kernel
set_option maxRecDepth 20000 in
theorem ggX12_meets_X12_isKind : GoodIn wsX12_meets wsX12_isKind := goodIn_r _ [5, 6, 7, 4, 8] (by decide +kernel) (by decide +kernel)
set_option maxRecDepth 20000 in
theorem gX12_meets_X12_isKind : GoodIn wsX12_meets (va_wsS RX12 145 yX12_isKind wsX12_isKind) := goodIn_app (goodIn_of _ (by decide +kernel)) ggX12_meets_X12_isKind
theorem dX12_meets_0 : decode cX12_meets 0 = .ok (.iload_n 1, 1) := by decide +kernel
theorem dX12_meets_1 : decode cX12_meets 1 = .ok (.invokestatic 145, 3) := by decide +kernel
theorem dX12_meets_4 : decode cX12_meets 4 = .ok (.ifCond .eq 25, 3) := by decide +kernel
theorem dX12_meets_7 : decode cX12_meets 7 = .ok (.iload_n 2, 1) := by decide +kernel
theorem dX12_meets_8 : decode cX12_meets 8 = .ok (.invokestatic 145, 3) := by decide +kernel
theorem dX12_meets_11 : decode cX12_meets 11 = .ok (.ifCond .eq 18, 3) := by decide +kernel
theorem dX12_meets_14 : decode cX12_meets 14 = .ok (.aload_n 0, 1) := by decide +kernel
theorem dX12_meets_15 : decode cX12_meets 15 = .ok (.getfield 54, 3) := by decide +kernel
theorem dX12_meets_18 : decode cX12_meets 18 = .ok (.bipush 6, 2) := by decide +kernel
theorem dX12_meets_20 : decode cX12_meets 20 = .ok (.iload_n 1, 1) := by decide +kernel
theorem dX12_meets_21 : decode cX12_meets 21 = .ok (.imul, 1) := by decide +kernel
theorem dX12_meets_22 : decode cX12_meets 22 = .ok (.iload_n 2, 1) := by decide +kernel
theorem dX12_meets_23 : decode cX12_meets 23 = .ok (.iadd, 1) := by decide +kernel
theorem dX12_meets_24 : decode cX12_meets 24 = .ok (.baload, 1) := by decide +kernel
theorem dX12_meets_25 : decode cX12_meets 25 = .ok (.iload_n 3, 1) := by decide +kernel
theorem dX12_meets_26 : decode cX12_meets 26 = .ok (.if_icmp .eq 5, 3) := by decide +kernel
theorem dX12_meets_29 : decode cX12_meets 29 = .ok (.iconst 0, 1) := by decide +kernel
theorem dX12_meets_30 : decode cX12_meets 30 = .ok (.ireturn, 1) := by decide +kernel
theorem dX12_meets_31 : decode cX12_meets 31 = .ok (.aload_n 0, 1) := by decide +kernel
theorem dX12_meets_32 : decode cX12_meets 32 = .ok (.getfield 54, 3) := by decide +kernel
theorem dX12_meets_35 : decode cX12_meets 35 = .ok (.bipush 6, 2) := by decide +kernel
theorem dX12_meets_37 : decode cX12_meets 37 = .ok (.iload_n 1, 1) := by decide +kernel
theorem dX12_meets_38 : decode cX12_meets 38 = .ok (.imul, 1) := by decide +kernel
theorem dX12_meets_39 : decode cX12_meets 39 = .ok (.iload_n 2, 1) := by decide +kernel
theorem dX12_meets_40 : decode cX12_meets 40 = .ok (.iadd, 1) := by decide +kernel
theorem dX12_meets_41 : decode cX12_meets 41 = .ok (.iload_n 3, 1) := by decide +kernel
theorem dX12_meets_42 : decode cX12_meets 42 = .ok (.ifCond .ne 7, 3) := by decide +kernel
theorem dX12_meets_45 : decode cX12_meets 45 = .ok (.iconst 1, 1) := by decide +kernel
theorem dX12_meets_46 : decode cX12_meets 46 = .ok (.goto 4, 3) := by decide +kernel
theorem dX12_meets_49 : decode cX12_meets 49 = .ok (.iconst 0, 1) := by decide +kernel
theorem dX12_meets_50 : decode cX12_meets 50 = .ok (.bastore, 1) := by decide +kernel
theorem dX12_meets_51 : decode cX12_meets 51 = .ok (.iconst 1, 1) := by decide +kernel
theorem dX12_meets_52 : decode cX12_meets 52 = .ok (.ireturn, 1) := by decide +kernel
set_option maxRecDepth 20000 in
theorem ggX12_becomes_X12_isKind : GoodIn wsX12_becomes wsX12_isKind := goodIn_r _ [5, 6, 7, 4, 8] (by decide +kernel) (by decide +kernel)
set_option maxRecDepth 20000 in
theorem gX12_becomes_X12_isKind : GoodIn wsX12_becomes (va_wsS RX12 145 yX12_isKind wsX12_isKind) := goodIn_app (goodIn_of _ (by decide +kernel)) ggX12_becomes_X12_isKind
set_option maxRecDepth 20000 in
theorem ggX12_becomes_X12_in : GoodIn wsX12_becomes wsX12_in := goodIn_r _ [8] (by decide +kernel) (by decide +kernel)
set_option maxRecDepth 20000 in
theorem gX12_becomes_X12_in : GoodIn wsX12_becomes (va_wsS RX12 134 yX12_in wsX12_in) := goodIn_app (goodIn_of _ (by decide +kernel)) ggX12_becomes_X12_in
theorem dX12_becomes_0 : decode cX12_becomes 0 = .ok (.iload_n 1, 1) := by decide +kernel
theorem dX12_becomes_1 : decode cX12_becomes 1 = .ok (.invokestatic 145, 3) := by decide +kernel
theorem dX12_becomes_4 : decode cX12_becomes 4 = .ok (.ifCond .eq 19, 3) := by decide +kernel
theorem dX12_becomes_7 : decode cX12_becomes 7 = .ok (.iload_n 2, 1) := by decide +kernel
theorem dX12_becomes_8 : decode cX12_becomes 8 = .ok (.invokestatic 145, 3) := by decide +kernel
theorem dX12_becomes_11 : decode cX12_becomes 11 = .ok (.ifCond .eq 12, 3) := by decide +kernel
theorem dX12_becomes_14 : decode cX12_becomes 14 = .ok (.iload_n 3, 1) := by decide +kernel
theorem dX12_becomes_15 : decode cX12_becomes 15 = .ok (.iconst (-1), 1) := by decide +kernel
theorem dX12_becomes_16 : decode cX12_becomes 16 = .ok (.iconst 5, 1) := by decide +kernel
theorem dX12_becomes_17 : decode cX12_becomes 17 = .ok (.invokestatic 134, 3) := by decide +kernel
theorem dX12_becomes_20 : decode cX12_becomes 20 = .ok (.ifCond .ne 6, 3) := by decide +kernel
theorem dX12_becomes_23 : decode cX12_becomes 23 = .ok (.bipush (-2), 2) := by decide +kernel
theorem dX12_becomes_25 : decode cX12_becomes 25 = .ok (.ireturn, 1) := by decide +kernel
theorem dX12_becomes_26 : decode cX12_becomes 26 = .ok (.aload_n 0, 1) := by decide +kernel
theorem dX12_becomes_27 : decode cX12_becomes 27 = .ok (.getfield 57, 3) := by decide +kernel
theorem dX12_becomes_30 : decode cX12_becomes 30 = .ok (.bipush 6, 2) := by decide +kernel
theorem dX12_becomes_32 : decode cX12_becomes 32 = .ok (.iload_n 1, 1) := by decide +kernel
theorem dX12_becomes_33 : decode cX12_becomes 33 = .ok (.imul, 1) := by decide +kernel
theorem dX12_becomes_34 : decode cX12_becomes 34 = .ok (.iload_n 2, 1) := by decide +kernel
theorem dX12_becomes_35 : decode cX12_becomes 35 = .ok (.iadd, 1) := by decide +kernel
theorem dX12_becomes_36 : decode cX12_becomes 36 = .ok (.iaload, 1) := by decide +kernel
theorem dX12_becomes_37 : decode cX12_becomes 37 = .ok (.istore 4, 2) := by decide +kernel
theorem dX12_becomes_39 : decode cX12_becomes 39 = .ok (.aload_n 0, 1) := by decide +kernel
theorem dX12_becomes_40 : decode cX12_becomes 40 = .ok (.getfield 57, 3) := by decide +kernel
theorem dX12_becomes_43 : decode cX12_becomes 43 = .ok (.bipush 6, 2) := by decide +kernel
theorem dX12_becomes_45 : decode cX12_becomes 45 = .ok (.iload_n 1, 1) := by decide +kernel
theorem dX12_becomes_46 : decode cX12_becomes 46 = .ok (.imul, 1) := by decide +kernel
theorem dX12_becomes_47 : decode cX12_becomes 47 = .ok (.iload_n 2, 1) := by decide +kernel
theorem dX12_becomes_48 : decode cX12_becomes 48 = .ok (.iadd, 1) := by decide +kernel
theorem dX12_becomes_49 : decode cX12_becomes 49 = .ok (.iload_n 3, 1) := by decide +kernel
theorem dX12_becomes_50 : decode cX12_becomes 50 = .ok (.iastore, 1) := by decide +kernel
theorem dX12_becomes_51 : decode cX12_becomes 51 = .ok (.iload 4, 2) := by decide +kernel
theorem dX12_becomes_53 : decode cX12_becomes 53 = .ok (.ireturn, 1) := by decide +kernel
set_option maxRecDepth 20000 in
theorem ggX12_isDay_X12_in : GoodIn wsX12_isDay wsX12_in := goodIn_r _ [4] (by decide +kernel) (by decide +kernel)
set_option maxRecDepth 20000 in
theorem gX12_isDay_X12_in : GoodIn wsX12_isDay (va_wsS RX12 134 yX12_in wsX12_in) := goodIn_app (goodIn_of _ (by decide +kernel)) ggX12_isDay_X12_in
theorem dX12_isDay_0 : decode cX12_isDay 0 = .ok (.iload_n 0, 1) := by decide +kernel
theorem dX12_isDay_1 : decode cX12_isDay 1 = .ok (.iconst 0, 1) := by decide +kernel
theorem dX12_isDay_2 : decode cX12_isDay 2 = .ok (.sipush 999, 3) := by decide +kernel
theorem dX12_isDay_5 : decode cX12_isDay 5 = .ok (.invokestatic 134, 3) := by decide +kernel
theorem dX12_isDay_8 : decode cX12_isDay 8 = .ok (.ireturn, 1) := by decide +kernel
set_option maxRecDepth 20000 in
theorem ggX12_fits_X12_isForm : GoodIn wsX12_fits wsX12_isForm := goodIn_r _ [6, 7, 8, 9, 5, 10, 26, 27, 28, 29, 30, 31, 32, 33, 34, 35, 36, 37, 38, 39, 40, 41, 42, 43, 44, 45, 46, 47, 48, 49, 50, 51, 52, 53, 54, 55, 56, 57, 58, 59, 60, 61, 62, 63, 64, 65, 66, 67, 68, 69, 70, 71, 72, 73, 74] (by decide +kernel) (by decide +kernel)
set_option maxRecDepth 20000 in
theorem gX12_fits_X12_isForm : GoodIn wsX12_fits (wsV RX12 141 RX12 yX12_isForm wsX12_isForm) := goodIn_app (goodIn_of _ (by decide +kernel)) ggX12_fits_X12_isForm
theorem dX12_fits_0 : decode cX12_fits 0 = .ok (.aload_n 0, 1) := by decide +kernel
theorem dX12_fits_1 : decode cX12_fits 1 = .ok (.iload_n 1, 1) := by decide +kernel
theorem dX12_fits_2 : decode cX12_fits 2 = .ok (.invokevirtual 141, 3) := by decide +kernel
theorem dX12_fits_5 : decode cX12_fits 5 = .ok (.ifCond .eq 18, 3) := by decide +kernel
theorem dX12_fits_23 : decode cX12_fits 23 = .ok (.iconst (-1), 1) := by decide +kernel
theorem dX12_fits_24 : decode cX12_fits 24 = .ok (.ireturn, 1) := by decide +kernel
set_option maxRecDepth 20000 in
theorem ggX12_fitting_X12_isForm : GoodIn wsX12_fitting wsX12_isForm := goodIn_r _ [6, 7, 8, 9, 5, 10, 26, 27, 28, 29, 30, 31, 32, 33, 34, 35, 36, 37, 38, 39, 40, 41, 42, 43, 44, 45, 46, 47, 48, 49, 50, 51, 52, 53, 54, 55, 56, 57, 58, 59, 60, 61, 62, 63, 64, 65, 66, 67, 68, 69, 70, 71, 72, 73, 74] (by decide +kernel) (by decide +kernel)
set_option maxRecDepth 20000 in
theorem gX12_fitting_X12_isForm : GoodIn wsX12_fitting (wsV RX12 141 RX12 yX12_isForm wsX12_isForm) := goodIn_app (goodIn_of _ (by decide +kernel)) ggX12_fitting_X12_isForm
theorem dX12_fitting_0 : decode cX12_fitting 0 = .ok (.aload_n 0, 1) := by decide +kernel
theorem dX12_fitting_1 : decode cX12_fitting 1 = .ok (.iload_n 1, 1) := by decide +kernel
theorem dX12_fitting_2 : decode cX12_fitting 2 = .ok (.invokevirtual 141, 3) := by decide +kernel
theorem dX12_fitting_5 : decode cX12_fitting 5 = .ok (.ifCond .eq 18, 3) := by decide +kernel
theorem dX12_fitting_23 : decode cX12_fitting 23 = .ok (.iconst (-1), 1) := by decide +kernel
theorem dX12_fitting_24 : decode cX12_fitting 24 = .ok (.ireturn, 1) := by decide +kernel
set_option maxRecDepth 20000 in
theorem ggX12_row_X12_isDay : GoodIn wsX12_row wsX12_isDay := goodIn_r _ [6, 7, 8, 5, 9] (by decide +kernel) (by decide +kernel)
set_option maxRecDepth 20000 in
theorem gX12_row_X12_isDay : GoodIn wsX12_row (va_wsS RX12 148 yX12_isDay wsX12_isDay) := goodIn_app (goodIn_of _ (by decide +kernel)) ggX12_row_X12_isDay
theorem dX12_row_0 : decode cX12_row 0 = .ok (.iload_n 1, 1) := by decide +kernel
theorem dX12_row_1 : decode cX12_row 1 = .ok (.invokestatic 148, 3) := by decide +kernel
theorem dX12_row_4 : decode cX12_row 4 = .ok (.ifCond .ne 5, 3) := by decide +kernel
theorem dX12_row_7 : decode cX12_row 7 = .ok (.iconst (-1), 1) := by decide +kernel
theorem dX12_row_8 : decode cX12_row 8 = .ok (.ireturn, 1) := by decide +kernel
theorem dX12_row_9 : decode cX12_row 9 = .ok (.aload_n 0, 1) := by decide +kernel
theorem dX12_row_10 : decode cX12_row 10 = .ok (.getfield 155, 3) := by decide +kernel
theorem dX12_row_13 : decode cX12_row 13 = .ok (.istore_n 2, 1) := by decide +kernel
theorem dX12_row_14 : decode cX12_row 14 = .ok (.aload_n 0, 1) := by decide +kernel
theorem dX12_row_15 : decode cX12_row 15 = .ok (.iconst 0, 1) := by decide +kernel
theorem dX12_row_16 : decode cX12_row 16 = .ok (.putfield 155, 3) := by decide +kernel
theorem dX12_row_19 : decode cX12_row 19 = .ok (.aload_n 0, 1) := by decide +kernel
theorem dX12_row_20 : decode cX12_row 20 = .ok (.iload_n 1, 1) := by decide +kernel
theorem dX12_row_21 : decode cX12_row 21 = .ok (.putfield 158, 3) := by decide +kernel
theorem dX12_row_24 : decode cX12_row 24 = .ok (.iload_n 2, 1) := by decide +kernel
theorem dX12_row_25 : decode cX12_row 25 = .ok (.ireturn, 1) := by decide +kernel
set_option maxRecDepth 20000 in
theorem ggX12_joins_X12_isForm : GoodIn wsX12_joins wsX12_isForm := goodIn_r _ [13, 14, 15, 16, 12, 17, 38, 39, 40, 41, 42, 43, 44, 45, 46, 47, 48, 49, 50, 51, 52, 53, 54, 55, 56, 57, 58, 59, 60, 61, 62, 63, 64, 65, 66, 67, 68, 69, 70, 71, 72, 73, 74, 75, 76, 77, 78, 79, 80, 81, 82, 83, 84, 85, 86] (by decide +kernel) (by decide +kernel)
set_option maxRecDepth 20000 in
theorem gX12_joins_X12_isForm : GoodIn wsX12_joins (wsV RX12 141 RX12 yX12_isForm wsX12_isForm) := goodIn_app (goodIn_of _ (by decide +kernel)) ggX12_joins_X12_isForm
theorem dX12_joins_0 : decode cX12_joins 0 = .ok (.aload_n 0, 1) := by decide +kernel
theorem dX12_joins_1 : decode cX12_joins 1 = .ok (.getfield 155, 3) := by decide +kernel
theorem dX12_joins_4 : decode cX12_joins 4 = .ok (.bipush 40, 2) := by decide +kernel
theorem dX12_joins_6 : decode cX12_joins 6 = .ok (.if_icmp .eq 11, 3) := by decide +kernel
theorem dX12_joins_9 : decode cX12_joins 9 = .ok (.aload_n 0, 1) := by decide +kernel
theorem dX12_joins_10 : decode cX12_joins 10 = .ok (.iload_n 1, 1) := by decide +kernel
theorem dX12_joins_11 : decode cX12_joins 11 = .ok (.invokevirtual 141, 3) := by decide +kernel
theorem dX12_joins_14 : decode cX12_joins 14 = .ok (.ifCond .ne 5, 3) := by decide +kernel
theorem dX12_joins_17 : decode cX12_joins 17 = .ok (.iconst (-1), 1) := by decide +kernel
theorem dX12_joins_18 : decode cX12_joins 18 = .ok (.ireturn, 1) := by decide +kernel
theorem dX12_joined_0 : decode cX12_joined 0 = .ok (.aload_n 0, 1) := by decide +kernel
theorem dX12_joined_1 : decode cX12_joined 1 = .ok (.iconst 0, 1) := by decide +kernel
theorem dX12_joined_2 : decode cX12_joined 2 = .ok (.putfield 169, 3) := by decide +kernel
theorem dX12_joined_5 : decode cX12_joined 5 = .ok (.iconst 0, 1) := by decide +kernel
theorem dX12_joined_6 : decode cX12_joined 6 = .ok (.istore_n 1, 1) := by decide +kernel
theorem dX12_joined_7 : decode cX12_joined 7 = .ok (.iload_n 1, 1) := by decide +kernel
theorem dX12_joined_8 : decode cX12_joined 8 = .ok (.aload_n 0, 1) := by decide +kernel
theorem dX12_joined_9 : decode cX12_joined 9 = .ok (.getfield 155, 3) := by decide +kernel
theorem dX12_joined_12 : decode cX12_joined 12 = .ok (.if_icmp .ge 160, 3) := by decide +kernel
theorem dX12_joined_172 : decode cX12_joined 172 = .ok (.aload_n 0, 1) := by decide +kernel
theorem dX12_joined_173 : decode cX12_joined 173 = .ok (.getfield 169, 3) := by decide +kernel
theorem dX12_joined_176 : decode cX12_joined 176 = .ok (.ireturn, 1) := by decide +kernel
set_option maxRecDepth 20000 in
theorem ggX12_letter_X12_in : GoodIn wsX12_letter wsX12_in := goodIn_r _ [6] (by decide +kernel) (by decide +kernel)
set_option maxRecDepth 20000 in
theorem gX12_letter_X12_in : GoodIn wsX12_letter (va_wsS RX12 134 yX12_in wsX12_in) := goodIn_app (goodIn_of _ (by decide +kernel)) ggX12_letter_X12_in
theorem dX12_letter_0 : decode cX12_letter 0 = .ok (.iload_n 1, 1) := by decide +kernel
theorem dX12_letter_1 : decode cX12_letter 1 = .ok (.iconst 0, 1) := by decide +kernel
theorem dX12_letter_2 : decode cX12_letter 2 = .ok (.aload_n 0, 1) := by decide +kernel
theorem dX12_letter_3 : decode cX12_letter 3 = .ok (.getfield 169, 3) := by decide +kernel
theorem dX12_letter_6 : decode cX12_letter 6 = .ok (.iconst 1, 1) := by decide +kernel
theorem dX12_letter_7 : decode cX12_letter 7 = .ok (.isub, 1) := by decide +kernel
theorem dX12_letter_8 : decode cX12_letter 8 = .ok (.invokestatic 134, 3) := by decide +kernel
theorem dX12_letter_11 : decode cX12_letter 11 = .ok (.ifCond .eq 12, 3) := by decide +kernel
theorem dX12_letter_23 : decode cX12_letter 23 = .ok (.iconst (-1), 1) := by decide +kernel
theorem dX12_letter_24 : decode cX12_letter 24 = .ok (.ireturn, 1) := by decide +kernel
theorem dX12_back_0 : decode cX12_back 0 = .ok (.aload_n 0, 1) := by decide +kernel
theorem dX12_back_1 : decode cX12_back 1 = .ok (.getfield 120, 3) := by decide +kernel
theorem dX12_back_4 : decode cX12_back 4 = .ok (.aload_n 0, 1) := by decide +kernel
theorem dX12_back_5 : decode cX12_back 5 = .ok (.getfield 169, 3) := by decide +kernel
theorem dX12_back_8 : decode cX12_back 8 = .ok (.iadd, 1) := by decide +kernel
theorem dX12_back_9 : decode cX12_back 9 = .ok (.bipush 60, 2) := by decide +kernel
theorem dX12_back_11 : decode cX12_back 11 = .ok (.if_icmp .le 5, 3) := by decide +kernel
theorem dX12_back_16 : decode cX12_back 16 = .ok (.iconst 0, 1) := by decide +kernel
theorem dX12_back_17 : decode cX12_back 17 = .ok (.istore_n 1, 1) := by decide +kernel
theorem dX12_back_18 : decode cX12_back 18 = .ok (.iload_n 1, 1) := by decide +kernel
theorem dX12_back_19 : decode cX12_back 19 = .ok (.aload_n 0, 1) := by decide +kernel
theorem dX12_back_20 : decode cX12_back 20 = .ok (.getfield 169, 3) := by decide +kernel
theorem dX12_back_23 : decode cX12_back 23 = .ok (.if_icmp .ge 26, 3) := by decide +kernel
theorem dX12_back_49 : decode cX12_back 49 = .ok (.aload_n 0, 1) := by decide +kernel
theorem dX12_back_50 : decode cX12_back 50 = .ok (.dup, 1) := by decide +kernel
theorem dX12_back_51 : decode cX12_back 51 = .ok (.getfield 120, 3) := by decide +kernel
theorem dX12_back_54 : decode cX12_back 54 = .ok (.aload_n 0, 1) := by decide +kernel
theorem dX12_back_55 : decode cX12_back 55 = .ok (.getfield 169, 3) := by decide +kernel
theorem dX12_back_58 : decode cX12_back 58 = .ok (.iadd, 1) := by decide +kernel
theorem dX12_back_59 : decode cX12_back 59 = .ok (.putfield 120, 3) := by decide +kernel
theorem dX12_back_62 : decode cX12_back 62 = .ok (.aload_n 0, 1) := by decide +kernel
theorem dX12_back_63 : decode cX12_back 63 = .ok (.iconst 0, 1) := by decide +kernel
theorem dX12_back_64 : decode cX12_back 64 = .ok (.putfield 169, 3) := by decide +kernel
theorem dX12_back_67 : decode cX12_back 67 = .ok (.aload_n 0, 1) := by decide +kernel
theorem dX12_back_68 : decode cX12_back 68 = .ok (.getfield 120, 3) := by decide +kernel
theorem dX12_back_71 : decode cX12_back 71 = .ok (.ireturn, 1) := by decide +kernel
set_option maxRecDepth 20000 in
theorem ggX12_part_X12_isText : GoodIn wsX12_part wsX12_isText := goodIn_r _ [23, 1, 5, 99, 100, 101, 102, 103, 104, 105, 106, 107, 108, 109, 110, 111, 112, 113, 114, 115, 116, 117, 118, 119, 120, 121, 122, 123, 124, 125, 126, 127, 128, 129, 130, 131, 132, 133, 134, 135, 136, 137, 138, 139, 140, 141, 142, 143, 144, 145, 146, 147] (by decide +kernel) (by decide +kernel)
set_option maxRecDepth 20000 in
theorem gX12_part_X12_isText : GoodIn wsX12_part (wsV RX12 127 RX12 yX12_isText wsX12_isText) := goodIn_app (goodIn_of _ (by decide +kernel)) ggX12_part_X12_isText
set_option maxRecDepth 20000 in
theorem ggX12_part_X12_in : GoodIn wsX12_part wsX12_in := goodIn_r _ [26] (by decide +kernel) (by decide +kernel)
set_option maxRecDepth 20000 in
theorem gX12_part_X12_in : GoodIn wsX12_part (va_wsS RX12 134 yX12_in wsX12_in) := goodIn_app (goodIn_of _ (by decide +kernel)) ggX12_part_X12_in
theorem dX12_part_0 : decode cX12_part 0 = .ok (.aload_n 0, 1) := by decide +kernel
theorem dX12_part_1 : decode cX12_part 1 = .ok (.getfield 120, 3) := by decide +kernel
theorem dX12_part_4 : decode cX12_part 4 = .ok (.istore_n 2, 1) := by decide +kernel
theorem dX12_part_5 : decode cX12_part 5 = .ok (.aload_n 0, 1) := by decide +kernel
theorem dX12_part_6 : decode cX12_part 6 = .ok (.invokevirtual 127, 3) := by decide +kernel
theorem dX12_part_9 : decode cX12_part 9 = .ok (.ifCond .eq 24, 3) := by decide +kernel
theorem dX12_part_12 : decode cX12_part 12 = .ok (.iload_n 2, 1) := by decide +kernel
theorem dX12_part_13 : decode cX12_part 13 = .ok (.iconst 1, 1) := by decide +kernel
theorem dX12_part_14 : decode cX12_part 14 = .ok (.bipush 40, 2) := by decide +kernel
theorem dX12_part_16 : decode cX12_part 16 = .ok (.invokestatic 134, 3) := by decide +kernel
theorem dX12_part_19 : decode cX12_part 19 = .ok (.ifCond .eq 14, 3) := by decide +kernel
theorem dX12_part_33 : decode cX12_part 33 = .ok (.iconst 0, 1) := by decide +kernel
theorem dX12_part_34 : decode cX12_part 34 = .ok (.istore_n 3, 1) := by decide +kernel
theorem dX12_part_35 : decode cX12_part 35 = .ok (.aload_n 0, 1) := by decide +kernel
theorem dX12_part_36 : decode cX12_part 36 = .ok (.iconst 0, 1) := by decide +kernel
theorem dX12_part_37 : decode cX12_part 37 = .ok (.putfield 120, 3) := by decide +kernel
theorem dX12_part_40 : decode cX12_part 40 = .ok (.iload_n 3, 1) := by decide +kernel
theorem dX12_part_41 : decode cX12_part 41 = .ok (.ifCond .ne 7, 3) := by decide +kernel
theorem dX12_part_44 : decode cX12_part 44 = .ok (.ldc2_w 221, 3) := by decide +kernel
theorem dX12_part_47 : decode cX12_part 47 = .ok (.lreturn, 1) := by decide +kernel
theorem dX12_parted_0 : decode cX12_parted 0 = .ok (.aload_n 0, 1) := by decide +kernel
theorem dX12_parted_1 : decode cX12_parted 1 = .ok (.getfield 223, 3) := by decide +kernel
theorem dX12_parted_4 : decode cX12_parted 4 = .ok (.ifCond .ne 7, 3) := by decide +kernel
theorem dX12_parted_7 : decode cX12_parted 7 = .ok (.ldc2_w 221, 3) := by decide +kernel
theorem dX12_parted_10 : decode cX12_parted 10 = .ok (.lreturn, 1) := by decide +kernel
theorem dX12_isTold_0 : decode cX12_isTold 0 = .ok (.aload_n 0, 1) := by decide +kernel
theorem dX12_isTold_1 : decode cX12_isTold 1 = .ok (.getfield 223, 3) := by decide +kernel
theorem dX12_isTold_4 : decode cX12_isTold 4 = .ok (.ifCond .eq 21, 3) := by decide +kernel
theorem dX12_isTold_25 : decode cX12_isTold 25 = .ok (.iconst 0, 1) := by decide +kernel
theorem dX12_isTold_26 : decode cX12_isTold 26 = .ok (.ireturn, 1) := by decide +kernel
set_option maxRecDepth 20000 in
theorem ggX12_parting_X12_isTold : GoodIn wsX12_parting wsX12_isTold := goodIn_r _ [7, 8, 9, 10, 11, 6, 12, 13, 14, 15, 16, 17, 18, 19, 20, 21, 22, 23, 24, 25, 26, 27, 28, 29, 30, 31, 32, 33, 34, 35, 36, 37, 38, 39, 40, 41, 42, 43, 44, 45, 46, 47, 48, 49, 50, 51, 52, 53, 54, 55, 56, 57, 58, 59, 60, 61] (by decide +kernel) (by decide +kernel)
set_option maxRecDepth 20000 in
theorem gX12_parting_X12_isTold : GoodIn wsX12_parting (wsV RX12 244 RX12 yX12_isTold wsX12_isTold) := goodIn_app (goodIn_of _ (by decide +kernel)) ggX12_parting_X12_isTold
theorem dX12_parting_0 : decode cX12_parting 0 = .ok (.aload_n 0, 1) := by decide +kernel
theorem dX12_parting_1 : decode cX12_parting 1 = .ok (.iload_n 1, 1) := by decide +kernel
theorem dX12_parting_2 : decode cX12_parting 2 = .ok (.invokevirtual 244, 3) := by decide +kernel
theorem dX12_parting_5 : decode cX12_parting 5 = .ok (.ifCond .ne 5, 3) := by decide +kernel
theorem dX12_parting_8 : decode cX12_parting 8 = .ok (.iconst (-1), 1) := by decide +kernel
theorem dX12_parting_9 : decode cX12_parting 9 = .ok (.ireturn, 1) := by decide +kernel
set_option maxRecDepth 20000 in
theorem ggX12_formOf_X12_isTold : GoodIn wsX12_formOf wsX12_isTold := goodIn_r _ [7, 8, 9, 10, 11, 6, 12, 13, 14, 15, 16, 17, 18, 19, 20, 21, 22, 23, 24, 25, 26, 27, 28, 29, 30, 31, 32, 33, 34, 35, 36, 37, 38, 39, 40, 41, 42, 43, 44, 45, 46, 47, 48, 49, 50, 51, 52, 53, 54, 55, 56, 57, 58, 59, 60, 61] (by decide +kernel) (by decide +kernel)
set_option maxRecDepth 20000 in
theorem gX12_formOf_X12_isTold : GoodIn wsX12_formOf (wsV RX12 244 RX12 yX12_isTold wsX12_isTold) := goodIn_app (goodIn_of _ (by decide +kernel)) ggX12_formOf_X12_isTold
theorem dX12_formOf_0 : decode cX12_formOf 0 = .ok (.aload_n 0, 1) := by decide +kernel
theorem dX12_formOf_1 : decode cX12_formOf 1 = .ok (.iload_n 1, 1) := by decide +kernel
theorem dX12_formOf_2 : decode cX12_formOf 2 = .ok (.invokevirtual 244, 3) := by decide +kernel
theorem dX12_formOf_5 : decode cX12_formOf 5 = .ok (.ifCond .eq 33, 3) := by decide +kernel
theorem dX12_formOf_38 : decode cX12_formOf 38 = .ok (.iconst (-1), 1) := by decide +kernel
theorem dX12_formOf_39 : decode cX12_formOf 39 = .ok (.ireturn, 1) := by decide +kernel
set_option maxRecDepth 20000 in
theorem ggX12_ruleOf_X12_isTold : GoodIn wsX12_ruleOf wsX12_isTold := goodIn_r _ [7, 8, 9, 10, 11, 6, 12, 13, 14, 15, 16, 17, 18, 19, 20, 21, 22, 23, 24, 25, 26, 27, 28, 29, 30, 31, 32, 33, 34, 35, 36, 37, 38, 39, 40, 41, 42, 43, 44, 45, 46, 47, 48, 49, 50, 51, 52, 53, 54, 55, 56, 57, 58, 59, 60, 61] (by decide +kernel) (by decide +kernel)
set_option maxRecDepth 20000 in
theorem gX12_ruleOf_X12_isTold : GoodIn wsX12_ruleOf (wsV RX12 244 RX12 yX12_isTold wsX12_isTold) := goodIn_app (goodIn_of _ (by decide +kernel)) ggX12_ruleOf_X12_isTold
theorem dX12_ruleOf_0 : decode cX12_ruleOf 0 = .ok (.aload_n 0, 1) := by decide +kernel
theorem dX12_ruleOf_1 : decode cX12_ruleOf 1 = .ok (.iload_n 1, 1) := by decide +kernel
theorem dX12_ruleOf_2 : decode cX12_ruleOf 2 = .ok (.invokevirtual 244, 3) := by decide +kernel
theorem dX12_ruleOf_5 : decode cX12_ruleOf 5 = .ok (.ifCond .eq 33, 3) := by decide +kernel
theorem dX12_ruleOf_38 : decode cX12_ruleOf 38 = .ok (.iconst (-1), 1) := by decide +kernel
theorem dX12_ruleOf_39 : decode cX12_ruleOf 39 = .ok (.ireturn, 1) := by decide +kernel
set_option maxRecDepth 20000 in
theorem ggX12_trees_X12_isTold : GoodIn wsX12_trees wsX12_isTold := goodIn_r _ [11, 12, 13, 14, 15, 10, 16, 27, 28, 29, 30, 31, 32, 33, 34, 35, 36, 37, 38, 39, 40, 41, 42, 43, 44, 45, 46, 47, 48, 49, 50, 51, 52, 53, 54, 55, 56, 57, 58, 59, 60, 61, 62, 63, 64, 65, 66, 67, 68, 69, 70, 71, 72, 73, 74, 75] (by decide +kernel) (by decide +kernel)
set_option maxRecDepth 20000 in
theorem gX12_trees_X12_isTold : GoodIn wsX12_trees (wsV RX12 244 RX12 yX12_isTold wsX12_isTold) := goodIn_app (goodIn_of _ (by decide +kernel)) ggX12_trees_X12_isTold
theorem dX12_trees_0 : decode cX12_trees 0 = .ok (.aload_n 0, 1) := by decide +kernel
theorem dX12_trees_1 : decode cX12_trees 1 = .ok (.iload_n 1, 1) := by decide +kernel
theorem dX12_trees_2 : decode cX12_trees 2 = .ok (.invokevirtual 244, 3) := by decide +kernel
theorem dX12_trees_5 : decode cX12_trees 5 = .ok (.ifCond .eq 10, 3) := by decide +kernel
theorem dX12_trees_15 : decode cX12_trees 15 = .ok (.ldc2_w 221, 3) := by decide +kernel
theorem dX12_trees_18 : decode cX12_trees 18 = .ok (.lreturn, 1) := by decide +kernel
set_option maxRecDepth 20000 in
theorem ggX12_choose_X12_isTold : GoodIn wsX12_choose wsX12_isTold := goodIn_r _ [15, 16, 17, 18, 19, 14, 20, 21, 22, 23, 24, 25, 26, 27, 28, 29, 30, 31, 32, 33, 34, 35, 36, 37, 38, 39, 40, 41, 42, 43, 44, 45, 46, 47, 48, 49, 50, 51, 52, 53, 54, 55, 56, 57, 58, 59, 60, 61, 62, 63, 64, 65, 66, 67, 68, 69] (by decide +kernel) (by decide +kernel)
set_option maxRecDepth 20000 in
theorem gX12_choose_X12_isTold : GoodIn wsX12_choose (wsV RX12 244 RX12 yX12_isTold wsX12_isTold) := goodIn_app (goodIn_of _ (by decide +kernel)) ggX12_choose_X12_isTold
theorem dX12_choose_0 : decode cX12_choose 0 = .ok (.aload_n 0, 1) := by decide +kernel
theorem dX12_choose_1 : decode cX12_choose 1 = .ok (.iload_n 1, 1) := by decide +kernel
theorem dX12_choose_2 : decode cX12_choose 2 = .ok (.invokevirtual 244, 3) := by decide +kernel
theorem dX12_choose_5 : decode cX12_choose 5 = .ok (.ifCond .ne 5, 3) := by decide +kernel
theorem dX12_choose_8 : decode cX12_choose 8 = .ok (.iconst (-1), 1) := by decide +kernel
theorem dX12_choose_9 : decode cX12_choose 9 = .ok (.ireturn, 1) := by decide +kernel
theorem dX12_undo_0 : decode cX12_undo 0 = .ok (.aload_n 0, 1) := by decide +kernel
theorem dX12_undo_1 : decode cX12_undo 1 = .ok (.getfield 250, 3) := by decide +kernel
theorem dX12_undo_4 : decode cX12_undo 4 = .ok (.ifCond .ne 5, 3) := by decide +kernel
theorem dX12_undo_7 : decode cX12_undo 7 = .ok (.iconst 0, 1) := by decide +kernel
theorem dX12_undo_8 : decode cX12_undo 8 = .ok (.ireturn, 1) := by decide +kernel
set_option maxRecDepth 20000 in
theorem ggX12_step_X12_in : GoodIn wsX12_step wsX12_in := goodIn_r _ [5] (by decide +kernel) (by decide +kernel)
set_option maxRecDepth 20000 in
theorem gX12_step_X12_in : GoodIn wsX12_step (va_wsS RX12 134 yX12_in wsX12_in) := goodIn_app (goodIn_of _ (by decide +kernel)) ggX12_step_X12_in
theorem dX12_step_0 : decode cX12_step 0 = .ok (.iload_n 1, 1) := by decide +kernel
theorem dX12_step_1 : decode cX12_step 1 = .ok (.iconst 0, 1) := by decide +kernel
theorem dX12_step_2 : decode cX12_step 2 = .ok (.bipush 20, 2) := by decide +kernel
theorem dX12_step_4 : decode cX12_step 4 = .ok (.invokestatic 134, 3) := by decide +kernel
theorem dX12_step_7 : decode cX12_step 7 = .ok (.ifCond .ne 5, 3) := by decide +kernel
theorem dX12_step_10 : decode cX12_step 10 = .ok (.iconst (-1), 1) := by decide +kernel
theorem dX12_step_11 : decode cX12_step 11 = .ok (.ireturn, 1) := by decide +kernel
theorem dX12_step_12 : decode cX12_step 12 = .ok (.aload_n 0, 1) := by decide +kernel
theorem dX12_step_13 : decode cX12_step 13 = .ok (.getfield 63, 3) := by decide +kernel
theorem dX12_step_16 : decode cX12_step 16 = .ok (.istore_n 2, 1) := by decide +kernel
theorem dX12_step_17 : decode cX12_step 17 = .ok (.aload_n 0, 1) := by decide +kernel
theorem dX12_step_18 : decode cX12_step 18 = .ok (.iload_n 1, 1) := by decide +kernel
theorem dX12_step_19 : decode cX12_step 19 = .ok (.putfield 63, 3) := by decide +kernel
theorem dX12_step_22 : decode cX12_step 22 = .ok (.iload_n 2, 1) := by decide +kernel
theorem dX12_step_23 : decode cX12_step 23 = .ok (.ireturn, 1) := by decide +kernel
set_option maxRecDepth 20000 in
theorem ggX12_uses_X12_in : GoodIn wsX12_uses wsX12_in := goodIn_r _ [5] (by decide +kernel) (by decide +kernel)
set_option maxRecDepth 20000 in
theorem gX12_uses_X12_in : GoodIn wsX12_uses (va_wsS RX12 134 yX12_in wsX12_in) := goodIn_app (goodIn_of _ (by decide +kernel)) ggX12_uses_X12_in
theorem dX12_uses_0 : decode cX12_uses 0 = .ok (.iload_n 1, 1) := by decide +kernel
theorem dX12_uses_1 : decode cX12_uses 1 = .ok (.iconst 0, 1) := by decide +kernel
theorem dX12_uses_2 : decode cX12_uses 2 = .ok (.bipush 19, 2) := by decide +kernel
theorem dX12_uses_4 : decode cX12_uses 4 = .ok (.invokestatic 134, 3) := by decide +kernel
theorem dX12_uses_7 : decode cX12_uses 7 = .ok (.ifCond .eq 12, 3) := by decide +kernel
theorem dX12_uses_10 : decode cX12_uses 10 = .ok (.aload_n 0, 1) := by decide +kernel
theorem dX12_uses_11 : decode cX12_uses 11 = .ok (.getfield 60, 3) := by decide +kernel
theorem dX12_uses_14 : decode cX12_uses 14 = .ok (.iload_n 1, 1) := by decide +kernel
theorem dX12_uses_15 : decode cX12_uses 15 = .ok (.iaload, 1) := by decide +kernel
theorem dX12_uses_16 : decode cX12_uses 16 = .ok (.goto 4, 3) := by decide +kernel
theorem dX12_uses_19 : decode cX12_uses 19 = .ok (.iconst (-1), 1) := by decide +kernel
theorem dX12_uses_20 : decode cX12_uses 20 = .ok (.ireturn, 1) := by decide +kernel
set_option maxRecDepth 20000 in
theorem ggX12_about_X12_isForm : GoodIn wsX12_about wsX12_isForm := goodIn_r _ [10, 11, 12, 13, 9, 14, 15, 16, 17, 18, 19, 20, 21, 22, 23, 24, 25, 26, 27, 28, 29, 30, 31, 32, 33, 34, 35, 36, 37, 38, 39, 40, 41, 42, 43, 44, 45, 46, 47, 48, 49, 50, 51, 52, 53, 54, 55, 56, 57, 58, 59, 60, 61, 62, 63] (by decide +kernel) (by decide +kernel)
set_option maxRecDepth 20000 in
theorem gX12_about_X12_isForm : GoodIn wsX12_about (wsV RX12 141 RX12 yX12_isForm wsX12_isForm) := goodIn_app (goodIn_of _ (by decide +kernel)) ggX12_about_X12_isForm
theorem dX12_about_0 : decode cX12_about 0 = .ok (.aload_n 0, 1) := by decide +kernel
theorem dX12_about_1 : decode cX12_about 1 = .ok (.iload_n 1, 1) := by decide +kernel
theorem dX12_about_2 : decode cX12_about 2 = .ok (.invokevirtual 141, 3) := by decide +kernel
theorem dX12_about_5 : decode cX12_about 5 = .ok (.ifCond .ne 5, 3) := by decide +kernel
theorem dX12_about_8 : decode cX12_about 8 = .ok (.iconst (-1), 1) := by decide +kernel
theorem dX12_about_9 : decode cX12_about 9 = .ok (.ireturn, 1) := by decide +kernel
theorem dX12_count_0 : decode cX12_count 0 = .ok (.iconst 0, 1) := by decide +kernel
theorem dX12_count_1 : decode cX12_count 1 = .ok (.istore_n 2, 1) := by decide +kernel
theorem dX12_count_2 : decode cX12_count 2 = .ok (.iload_n 1, 1) := by decide +kernel
theorem dX12_count_3 : decode cX12_count 3 = .ok (.tableswitch 137 0 7 #[45, 50, 55, 60, 65, 70, 75, 80], 45) := by decide +kernel
theorem dX12_count_48 : decode cX12_count 48 = .ok (.aload_n 0, 1) := by decide +kernel
theorem dX12_count_49 : decode cX12_count 49 = .ok (.getfield 131, 3) := by decide +kernel
theorem dX12_count_52 : decode cX12_count 52 = .ok (.ireturn, 1) := by decide +kernel
theorem dX12_count_53 : decode cX12_count 53 = .ok (.aload_n 0, 1) := by decide +kernel
theorem dX12_count_54 : decode cX12_count 54 = .ok (.getfield 138, 3) := by decide +kernel
theorem dX12_count_57 : decode cX12_count 57 = .ok (.ireturn, 1) := by decide +kernel
theorem dX12_count_58 : decode cX12_count 58 = .ok (.aload_n 0, 1) := by decide +kernel
theorem dX12_count_59 : decode cX12_count 59 = .ok (.getfield 120, 3) := by decide +kernel
theorem dX12_count_62 : decode cX12_count 62 = .ok (.ireturn, 1) := by decide +kernel
theorem dX12_count_63 : decode cX12_count 63 = .ok (.aload_n 0, 1) := by decide +kernel
theorem dX12_count_64 : decode cX12_count 64 = .ok (.getfield 169, 3) := by decide +kernel
theorem dX12_count_67 : decode cX12_count 67 = .ok (.ireturn, 1) := by decide +kernel
theorem dX12_count_68 : decode cX12_count 68 = .ok (.aload_n 0, 1) := by decide +kernel
theorem dX12_count_69 : decode cX12_count 69 = .ok (.getfield 155, 3) := by decide +kernel
theorem dX12_count_72 : decode cX12_count 72 = .ok (.ireturn, 1) := by decide +kernel
theorem dX12_count_73 : decode cX12_count 73 = .ok (.aload_n 0, 1) := by decide +kernel
theorem dX12_count_74 : decode cX12_count 74 = .ok (.getfield 250, 3) := by decide +kernel
theorem dX12_count_77 : decode cX12_count 77 = .ok (.ireturn, 1) := by decide +kernel
theorem dX12_count_78 : decode cX12_count 78 = .ok (.aload_n 0, 1) := by decide +kernel
theorem dX12_count_79 : decode cX12_count 79 = .ok (.getfield 63, 3) := by decide +kernel
theorem dX12_count_82 : decode cX12_count 82 = .ok (.ireturn, 1) := by decide +kernel
theorem dX12_count_83 : decode cX12_count 83 = .ok (.iconst 0, 1) := by decide +kernel
theorem dX12_count_84 : decode cX12_count 84 = .ok (.istore_n 3, 1) := by decide +kernel
theorem dX12_count_85 : decode cX12_count 85 = .ok (.iload_n 3, 1) := by decide +kernel
theorem dX12_count_86 : decode cX12_count 86 = .ok (.aload_n 0, 1) := by decide +kernel
theorem dX12_count_87 : decode cX12_count 87 = .ok (.getfield 155, 3) := by decide +kernel
theorem dX12_count_90 : decode cX12_count 90 = .ok (.if_icmp .ge 48, 3) := by decide +kernel
theorem dX12_count_138 : decode cX12_count 138 = .ok (.iload_n 2, 1) := by decide +kernel
theorem dX12_count_139 : decode cX12_count 139 = .ok (.ireturn, 1) := by decide +kernel
theorem dX12_count_140 : decode cX12_count 140 = .ok (.iconst (-1), 1) := by decide +kernel
theorem dX12_count_141 : decode cX12_count 141 = .ok (.ireturn, 1) := by decide +kernel
theorem dJ7_fill_53178_0 : decode cJ7_fill_53178 0 = .ok (.iconst 0, 1) := by decide +kernel
theorem dJ7_fill_53178_1 : decode cJ7_fill_53178 1 = .ok (.istore_n 2, 1) := by decide +kernel
theorem dJ7_fill_53178_2 : decode cJ7_fill_53178 2 = .ok (.aload_n 0, 1) := by decide +kernel
theorem dJ7_fill_53178_3 : decode cJ7_fill_53178 3 = .ok (.arraylength, 1) := by decide +kernel
theorem dJ7_fill_53178_4 : decode cJ7_fill_53178 4 = .ok (.istore_n 3, 1) := by decide +kernel
theorem dJ7_fill_53178_5 : decode cJ7_fill_53178 5 = .ok (.iload_n 2, 1) := by decide +kernel
theorem dJ7_fill_53178_6 : decode cJ7_fill_53178 6 = .ok (.iload_n 3, 1) := by decide +kernel
theorem dJ7_fill_53178_7 : decode cJ7_fill_53178 7 = .ok (.if_icmp .ge 13, 3) := by decide +kernel
theorem dJ7_fill_53178_10 : decode cJ7_fill_53178 10 = .ok (.aload_n 0, 1) := by decide +kernel
theorem dJ7_fill_53178_11 : decode cJ7_fill_53178 11 = .ok (.iload_n 2, 1) := by decide +kernel
theorem dJ7_fill_53178_12 : decode cJ7_fill_53178 12 = .ok (.iload_n 1, 1) := by decide +kernel
theorem dJ7_fill_53178_13 : decode cJ7_fill_53178 13 = .ok (.iastore, 1) := by decide +kernel
theorem dJ7_fill_53178_14 : decode cJ7_fill_53178 14 = .ok (.iinc 2 1, 3) := by decide +kernel
theorem dJ7_fill_53178_17 : decode cJ7_fill_53178 17 = .ok (.goto (-12), 3) := by decide +kernel
theorem dJ7_fill_53178_20 : decode cJ7_fill_53178 20 = .ok (.return_, 1) := by decide +kernel
abbrev vwCl : List vw_C := [(RX0, TX0, 3), (RX1, TX1, 6), (RX2, TX2, 8), (RX3, TX3, 11), (RX4, TX4, 10), (RX5, TX5, 6), (RX6, TX6, 4), (RX7, TX7, 9), (RX8, TX8, 2), (RX9, TX9, 5), (RX10, TX10, 2), (RX11, TX11, 7), (RX12, TX12, 49)]
