/-! ===== BEGIN words of one list among another's, by their places ===== -/
theorem goodIn_r {big : List Cond} (ws : List Cond) (ps : List Nat) (hp : ws = ps.filterMap (fun i => big[i]?)) (h : ws.all goodWord = true) : GoodIn big ws := by
  intro w hw
  have h1 := List.all_eq_true.mp h w hw
  rw [hp] at hw
  obtain ⟨i, -, hi⟩ := List.mem_filterMap.mp hw
  have hm : w ∈ big := by first | exact List.mem_of_getElem? hi | exact List.getElem?_mem hi
  exact ⟨hm, good_of_word h1⟩
theorem goodIn_app {big a b : List Cond} (ha : GoodIn big a) (hb : GoodIn big b) : GoodIn big (a ++ b) := fun w h => (List.mem_append.mp h).elim (ha w) (hb w)
theorem goodIn_ca {big a b : List Cond} {c : Cond} (ha : GoodIn big (c :: a)) (hb : GoodIn big b) : GoodIn big (c :: (a ++ b)) := fun w h => (List.mem_cons.mp h).elim (fun e => ha w (List.mem_cons.mpr (Or.inl e))) (fun h => (List.mem_append.mp h).elim (fun h => ha w (List.mem_cons.mpr (Or.inr h))) (hb w))
theorem goodIn_sub {big ws : List Cond} (hm : ∀ w ∈ ws, w ∈ big) (h : ws.all goodWord = true) : GoodIn big ws := fun w hw => ⟨hm w hw, good_of_word (List.all_eq_true.mp h w hw)⟩
/-! ===== END ===== -/

/-! ===== BEGIN printed: names, fields, word lists, decode rows ===== -/
def RX0 : String := "KeyedDigest$Chain"
def TX0 : u_T := fun k => match k with
  | 0 => ("KeyedDigest$Chain", "h", "[I", true)
  | 1 => ("KeyedDigest$Chain", "m", "[I", true)
  | 2 => ("KeyedDigest$Chain", "v", "[I", true)
  | 3 => ("KeyedDigest$Chain", "blockBytes", "I", false)
  | _ => ("KeyedDigest$Chain", "allBytes", "J", false)
def tyX0 : Nat → FieldType := fun k => match k with
  | 0 => .array .int
  | 1 => .array .int
  | 2 => .array .int
  | 3 => .int
  | _ => .long
abbrev wsX00 : List Cond := u_ws RX0 TX0 5
theorem nmX0 : ∀ a, a < 5 → ∀ b, b < 5 → a ≠ b → (TX0 a).2.1 ≠ (TX0 b).2.1 := by decide +kernel
theorem tyX0_ok : ∀ k, k < 5 → parseFieldDescriptor (TX0 k).2.2.1 = some (tyX0 k) := by decide +kernel
abbrev cX0_init : ByteArray := prog_2_method_1_code
def yX0_init : MethodName := ⟨RX0, "<init>", "()V"⟩
abbrev cX0_begin : ByteArray := prog_2_method_2_code
def yX0_begin : MethodName := ⟨RX0, "begin", "(II)V"⟩
abbrev cX0_addKey : ByteArray := prog_2_method_3_code
def yX0_addKey : MethodName := ⟨RX0, "addKey", "([II)V"⟩
abbrev cX0_addByte : ByteArray := prog_2_method_4_code
def yX0_addByte : MethodName := ⟨RX0, "addByte", "(I)V"⟩
abbrev cX0_mixLast : ByteArray := prog_2_method_5_code
def yX0_mixLast : MethodName := ⟨RX0, "mixLast", "()V"⟩
abbrev cX0_stateWord : ByteArray := prog_2_method_6_code
def yX0_stateWord : MethodName := ⟨RX0, "stateWord", "(I)I"⟩
abbrev cX0_stateByte : ByteArray := prog_2_method_7_code
def yX0_stateByte : MethodName := ⟨RX0, "stateByte", "(I)I"⟩
abbrev cX0_emptyBlock : ByteArray := prog_2_method_8_code
def yX0_emptyBlock : MethodName := ⟨RX0, "emptyBlock", "()V"⟩
abbrev cX0_mix : ByteArray := prog_2_method_9_code
def yX0_mix : MethodName := ⟨RX0, "mix", "(I)V"⟩
abbrev cX0_mixRound : ByteArray := prog_2_method_10_code
def yX0_mixRound : MethodName := ⟨RX0, "mixRound", "(I)V"⟩
abbrev cX0_mixFour : ByteArray := prog_2_method_11_code
def yX0_mixFour : MethodName := ⟨RX0, "mixFour", "(IIIIII)V"⟩
abbrev cX0_turnDown : ByteArray := prog_2_method_12_code
def yX0_turnDown : MethodName := ⟨RX0, "turnDown", "(II)I"⟩
def RX1 : String := "KeyedDigest"
def TX1 : u_T := fun k => match k with
  | 0 => ("KeyedDigest", "key", "[I", true)
  | 1 => ("KeyedDigest", "chain", "LKeyedDigest$Chain;", true)
  | 2 => ("KeyedDigest", "state", "I", false)
  | 3 => ("KeyedDigest", "digestBytes", "I", false)
  | _ => ("KeyedDigest", "messageBytes", "I", false)
def tyX1 : Nat → FieldType := fun k => match k with
  | 0 => .array .int
  | 1 => .object "KeyedDigest$Chain"
  | 2 => .int
  | 3 => .int
  | _ => .int
abbrev wsX10 : List Cond := u_ws RX1 TX1 5
theorem nmX1 : ∀ a, a < 5 → ∀ b, b < 5 → a ≠ b → (TX1 a).2.1 ≠ (TX1 b).2.1 := by decide +kernel
theorem tyX1_ok : ∀ k, k < 5 → parseFieldDescriptor (TX1 k).2.2.1 = some (tyX1 k) := by decide +kernel
abbrev cX1_init : ByteArray := prog_1_method_1_code
def yX1_init : MethodName := ⟨RX1, "<init>", "()V"⟩
abbrev cX1_init_ : ByteArray := prog_1_method_2_code
def yX1_init_ : MethodName := ⟨RX1, "init", "()V"⟩
abbrev cX1_setKeyByte : ByteArray := prog_1_method_3_code
def yX1_setKeyByte : MethodName := ⟨RX1, "setKeyByte", "(II)Z"⟩
abbrev cX1_start : ByteArray := prog_1_method_4_code
def yX1_start : MethodName := ⟨RX1, "start", "(II)Z"⟩
abbrev cX1_update : ByteArray := prog_1_method_5_code
def yX1_update : MethodName := ⟨RX1, "update", "(I)Z"⟩
abbrev cX1_updates : ByteArray := prog_1_method_6_code
def yX1_updates : MethodName := ⟨RX1, "updates", "(IIIII)Z"⟩
abbrev cX1_fill : ByteArray := prog_1_method_7_code
def yX1_fill : MethodName := ⟨RX1, "fill", "(II)Z"⟩
abbrev cX1_finish : ByteArray := prog_1_method_8_code
def yX1_finish : MethodName := ⟨RX1, "finish", "()Z"⟩
abbrev cX1_out : ByteArray := prog_1_method_9_code
def yX1_out : MethodName := ⟨RX1, "out", "(I)I"⟩
abbrev cX1_length : ByteArray := prog_1_method_10_code
def yX1_length : MethodName := ⟨RX1, "length", "()I"⟩
abbrev cX1_word : ByteArray := prog_1_method_11_code
def yX1_word : MethodName := ⟨RX1, "word", "(I)I"⟩
abbrev cX1_hasMessage : ByteArray := prog_1_method_12_code
def yX1_hasMessage : MethodName := ⟨RX1, "hasMessage", "()Z"⟩
abbrev cX1_addToMessage : ByteArray := prog_1_method_13_code
def yX1_addToMessage : MethodName := ⟨RX1, "addToMessage", "(I)V"⟩
abbrev cX1_addHighestFirst : ByteArray := prog_1_method_14_code
def yX1_addHighestFirst : MethodName := ⟨RX1, "addHighestFirst", "(II)V"⟩
abbrev cX1_isByte : ByteArray := prog_1_method_15_code
def yX1_isByte : MethodName := ⟨RX1, "isByte", "(I)Z"⟩
def RX2 : String := "KeyedDigestModel"
def TX2 : u_T := fun k => match k with
  | 0 => ("KeyedDigestModel", "ready", "Z", false)
  | 1 => ("KeyedDigestModel", "isOpen", "Z", false)
  | 2 => ("KeyedDigestModel", "isDone", "Z", false)
  | 3 => ("KeyedDigestModel", "key", "[I", true)
  | 4 => ("KeyedDigestModel", "h", "[I", true)
  | 5 => ("KeyedDigestModel", "v", "[I", true)
  | 6 => ("KeyedDigestModel", "m", "[I", true)
  | 7 => ("KeyedDigestModel", "block", "[I", true)
  | 8 => ("KeyedDigestModel", "filled", "I", false)
  | 9 => ("KeyedDigestModel", "mixed", "J", false)
  | 10 => ("KeyedDigestModel", "came", "I", false)
  | 11 => ("KeyedDigestModel", "size", "I", false)
  | _ => ("KeyedDigestModel", "rows", "[I", true)
def tyX2 : Nat → FieldType := fun k => match k with
  | 0 => .boolean
  | 1 => .boolean
  | 2 => .boolean
  | 3 => .array .int
  | 4 => .array .int
  | 5 => .array .int
  | 6 => .array .int
  | 7 => .array .int
  | 8 => .int
  | 9 => .long
  | 10 => .int
  | 11 => .int
  | _ => .array .int
abbrev wsX20 : List Cond := u_ws RX2 TX2 13
theorem nmX2 : ∀ a, a < 13 → ∀ b, b < 13 → a ≠ b → (TX2 a).2.1 ≠ (TX2 b).2.1 := by decide +kernel
theorem tyX2_ok : ∀ k, k < 13 → parseFieldDescriptor (TX2 k).2.2.1 = some (tyX2 k) := by decide +kernel
abbrev cX2_init : ByteArray := prog_4_method_1_code
def yX2_init : MethodName := ⟨RX2, "<init>", "()V"⟩
abbrev cX2_init_ : ByteArray := prog_4_method_3_code
def yX2_init_ : MethodName := ⟨RX2, "init", "()V"⟩
abbrev cX2_setKeyByte : ByteArray := prog_4_method_4_code
def yX2_setKeyByte : MethodName := ⟨RX2, "setKeyByte", "(II)Z"⟩
abbrev cX2_first : ByteArray := prog_4_method_5_code
def yX2_first : MethodName := ⟨RX2, "first", "(I)I"⟩
abbrev cX2_start : ByteArray := prog_4_method_6_code
def yX2_start : MethodName := ⟨RX2, "start", "(II)Z"⟩
abbrev cX2_take : ByteArray := prog_4_method_7_code
def yX2_take : MethodName := ⟨RX2, "take", "(I)V"⟩
abbrev cX2_down : ByteArray := prog_4_method_8_code
def yX2_down : MethodName := ⟨RX2, "down", "(II)I"⟩
abbrev cX2_g : ByteArray := prog_4_method_9_code
def yX2_g : MethodName := ⟨RX2, "g", "(IIIIII)V"⟩
abbrev cX2_mix : ByteArray := prog_4_method_10_code
def yX2_mix : MethodName := ⟨RX2, "mix", "(JZ)V"⟩
abbrev cX2_update : ByteArray := prog_4_method_11_code
def yX2_update : MethodName := ⟨RX2, "update", "(I)Z"⟩
abbrev cX2_updates : ByteArray := prog_4_method_12_code
def yX2_updates : MethodName := ⟨RX2, "updates", "(IIIII)Z"⟩
abbrev cX2_fill : ByteArray := prog_4_method_13_code
def yX2_fill : MethodName := ⟨RX2, "fill", "(II)Z"⟩
abbrev cX2_finish : ByteArray := prog_4_method_14_code
def yX2_finish : MethodName := ⟨RX2, "finish", "()Z"⟩
abbrev cX2_out : ByteArray := prog_4_method_15_code
def yX2_out : MethodName := ⟨RX2, "out", "(I)I"⟩
abbrev cX2_length : ByteArray := prog_4_method_16_code
def yX2_length : MethodName := ⟨RX2, "length", "()I"⟩
abbrev cX2_word : ByteArray := prog_4_method_17_code
def yX2_word : MethodName := ⟨RX2, "word", "(I)I"⟩
def RJ9 : String := "java/lang/Math"
def TJ9 : u_T := fun k => match k with
  | _ => ("", "", "", false)
def tyJ9 : Nat → FieldType := fun k => match k with
  | _ => .int
abbrev wsJ90 : List Cond := u_ws RJ9 TJ9 0
theorem nmJ9 : ∀ a, a < 0 → ∀ b, b < 0 → a ≠ b → (TJ9 a).2.1 ≠ (TJ9 b).2.1 := by decide +kernel
theorem tyJ9_ok : ∀ k, k < 0 → parseFieldDescriptor (TJ9 k).2.2.1 = some (tyJ9 k) := by decide +kernel
abbrev cJ9_min_7cf53 : ByteArray := prog_5_method_69_code
def yJ9_min_7cf53 : MethodName := ⟨RJ9, "min", "(II)I"⟩
def RL : String := "KeyedDigestLaw"
abbrev cL_law : ByteArray := code
def yL_law : MethodName := ⟨RL, "law", "([I)Z"⟩
def wsX0_init : List Cond := .code yX0_init cX0_init 1 none :: ([.methodLink RX0 1 objectInit, .instanceMethod objectInit, .code objectInit ⟨#[0xb1]⟩ 1 none, .arrayClass .int, .fieldLink RX0 9 "KeyedDigest$Chain" "h" "[I", .fieldLink RX0 13 "KeyedDigest$Chain" "m" "[I", .fieldLink RX0 16 "KeyedDigest$Chain" "v" "[I", .fieldLink RX0 19 "KeyedDigest$Chain" "blockBytes" "I", .fieldLink RX0 23 "KeyedDigest$Chain" "allBytes" "J"] ++ wsX00)
def wsX0_emptyBlock : List Cond := .code yX0_emptyBlock cX0_emptyBlock 2 none :: ([.fieldLink RX0 13 "KeyedDigest$Chain" "m" "[I", .fieldLink RX0 19 "KeyedDigest$Chain" "blockBytes" "I"] ++ wsX00)
def wsX0_begin : List Cond := .code yX0_begin cX0_begin 4 none :: ([.fieldLink RX0 9 "KeyedDigest$Chain" "h" "[I", .fieldLink RX0 27 "KeyedDigest$Chain" "IV" "[I", .constant RX0 30 (16842752), .fieldLink RX0 23 "KeyedDigest$Chain" "allBytes" "J", .methodLink RX0 31 yX0_emptyBlock, .instanceMethod yX0_emptyBlock, .selects RX0 yX0_emptyBlock yX0_emptyBlock, .initialized RX0, .code yX0_emptyBlock cX0_emptyBlock 2 none, .fieldLink RX0 13 "KeyedDigest$Chain" "m" "[I", .fieldLink RX0 19 "KeyedDigest$Chain" "blockBytes" "I"] ++ wsX00)
def wsX0_turnDown : List Cond := .code yX0_turnDown cX0_turnDown 2 (some .int) :: ([])
def wsX0_mixFour : List Cond := .code yX0_mixFour cX0_mixFour 7 none :: ([.fieldLink RX0 16 "KeyedDigest$Chain" "v" "[I", .fieldLink RX0 13 "KeyedDigest$Chain" "m" "[I", .methodLink RX0 53 yX0_turnDown, .static yX0_turnDown, .initialized RX0, .code yX0_turnDown cX0_turnDown 2 (some .int)] ++ wsX00)
def wsX0_mixRound : List Cond := .code yX0_mixRound cX0_mixRound 2 none :: ([.fieldLink RX0 46 "KeyedDigest$Chain" "PLACES" "[I", .methodLink RX0 49 yX0_mixFour, .instanceMethod yX0_mixFour, .selects RX0 yX0_mixFour yX0_mixFour, .initialized RX0, .code yX0_mixFour cX0_mixFour 7 none, .fieldLink RX0 16 "KeyedDigest$Chain" "v" "[I", .fieldLink RX0 13 "KeyedDigest$Chain" "m" "[I", .methodLink RX0 53 yX0_turnDown, .static yX0_turnDown, .code yX0_turnDown cX0_turnDown 2 (some .int)] ++ wsX00)
def wsX0_mix : List Cond := .code yX0_mix cX0_mix 3 none :: ([.fieldLink RX0 16 "KeyedDigest$Chain" "v" "[I", .fieldLink RX0 9 "KeyedDigest$Chain" "h" "[I", .fieldLink RX0 27 "KeyedDigest$Chain" "IV" "[I", .fieldLink RX0 23 "KeyedDigest$Chain" "allBytes" "J", .methodLink RX0 43 yX0_mixRound, .instanceMethod yX0_mixRound, .selects RX0 yX0_mixRound yX0_mixRound, .initialized RX0, .code yX0_mixRound cX0_mixRound 2 none, .fieldLink RX0 46 "KeyedDigest$Chain" "PLACES" "[I", .methodLink RX0 49 yX0_mixFour, .instanceMethod yX0_mixFour, .selects RX0 yX0_mixFour yX0_mixFour, .code yX0_mixFour cX0_mixFour 7 none, .fieldLink RX0 13 "KeyedDigest$Chain" "m" "[I", .methodLink RX0 53 yX0_turnDown, .static yX0_turnDown, .code yX0_turnDown cX0_turnDown 2 (some .int)] ++ wsX00)
def wsX0_addByte_r1 : List Cond := [Cond.fieldLink RX0 19 "KeyedDigest$Chain" "blockBytes" "I", Cond.fieldLink RX0 13 "KeyedDigest$Chain" "m" "[I", Cond.fieldLink RX0 23 "KeyedDigest$Chain" "allBytes" "J", Cond.methodLink RX0 40 yX0_mix, Cond.instanceMethod yX0_mix, Cond.selects RX0 yX0_mix yX0_mix, Cond.initialized RX0, Cond.code yX0_mix cX0_mix 3 none, Cond.fieldLink RX0 16 "KeyedDigest$Chain" "v" "[I", Cond.fieldLink RX0 9 "KeyedDigest$Chain" "h" "[I", Cond.fieldLink RX0 27 "KeyedDigest$Chain" "IV" "[I", Cond.methodLink RX0 43 yX0_mixRound, Cond.instanceMethod yX0_mixRound, Cond.selects RX0 yX0_mixRound yX0_mixRound, Cond.code yX0_mixRound cX0_mixRound 2 none, Cond.fieldLink RX0 46 "KeyedDigest$Chain" "PLACES" "[I", Cond.methodLink RX0 49 yX0_mixFour, Cond.instanceMethod yX0_mixFour, Cond.selects RX0 yX0_mixFour yX0_mixFour, Cond.code yX0_mixFour cX0_mixFour 7 none, Cond.methodLink RX0 53 yX0_turnDown, Cond.static yX0_turnDown, Cond.code yX0_turnDown cX0_turnDown 2 (some .int), Cond.methodLink RX0 31 yX0_emptyBlock]
def wsX0_addByte_r2 : List Cond := [Cond.instanceMethod yX0_emptyBlock, Cond.selects RX0 yX0_emptyBlock yX0_emptyBlock, Cond.code yX0_emptyBlock cX0_emptyBlock 2 none]
def wsX0_addByte : List Cond := .code yX0_addByte cX0_addByte 2 none :: ((wsX0_addByte_r1 ++ wsX0_addByte_r2) ++ wsX00)
def wsX0_addKey_r1 : List Cond := [Cond.fieldLink RX0 19 "KeyedDigest$Chain" "blockBytes" "I", Cond.constantLong RX0 38 (64), Cond.fieldLink RX0 23 "KeyedDigest$Chain" "allBytes" "J", Cond.methodLink RX0 34 yX0_addByte, Cond.instanceMethod yX0_addByte, Cond.selects RX0 yX0_addByte yX0_addByte, Cond.initialized RX0, Cond.code yX0_addByte cX0_addByte 2 none, Cond.fieldLink RX0 13 "KeyedDigest$Chain" "m" "[I", Cond.methodLink RX0 40 yX0_mix, Cond.instanceMethod yX0_mix, Cond.selects RX0 yX0_mix yX0_mix, Cond.code yX0_mix cX0_mix 3 none, Cond.fieldLink RX0 16 "KeyedDigest$Chain" "v" "[I", Cond.fieldLink RX0 9 "KeyedDigest$Chain" "h" "[I", Cond.fieldLink RX0 27 "KeyedDigest$Chain" "IV" "[I", Cond.methodLink RX0 43 yX0_mixRound, Cond.instanceMethod yX0_mixRound, Cond.selects RX0 yX0_mixRound yX0_mixRound, Cond.code yX0_mixRound cX0_mixRound 2 none, Cond.fieldLink RX0 46 "KeyedDigest$Chain" "PLACES" "[I", Cond.methodLink RX0 49 yX0_mixFour, Cond.instanceMethod yX0_mixFour, Cond.selects RX0 yX0_mixFour yX0_mixFour]
def wsX0_addKey_r2 : List Cond := [Cond.code yX0_mixFour cX0_mixFour 7 none, Cond.methodLink RX0 53 yX0_turnDown, Cond.static yX0_turnDown, Cond.code yX0_turnDown cX0_turnDown 2 (some .int), Cond.methodLink RX0 31 yX0_emptyBlock, Cond.instanceMethod yX0_emptyBlock, Cond.selects RX0 yX0_emptyBlock yX0_emptyBlock, Cond.code yX0_emptyBlock cX0_emptyBlock 2 none]
def wsX0_addKey : List Cond := .code yX0_addKey cX0_addKey 4 none :: ((wsX0_addKey_r1 ++ wsX0_addKey_r2) ++ wsX00)
def wsX0_mixLast : List Cond := .code yX0_mixLast cX0_mixLast 1 none :: ([.methodLink RX0 40 yX0_mix, .instanceMethod yX0_mix, .selects RX0 yX0_mix yX0_mix, .initialized RX0, .code yX0_mix cX0_mix 3 none, .fieldLink RX0 16 "KeyedDigest$Chain" "v" "[I", .fieldLink RX0 9 "KeyedDigest$Chain" "h" "[I", .fieldLink RX0 27 "KeyedDigest$Chain" "IV" "[I", .fieldLink RX0 23 "KeyedDigest$Chain" "allBytes" "J", .methodLink RX0 43 yX0_mixRound, .instanceMethod yX0_mixRound, .selects RX0 yX0_mixRound yX0_mixRound, .code yX0_mixRound cX0_mixRound 2 none, .fieldLink RX0 46 "KeyedDigest$Chain" "PLACES" "[I", .methodLink RX0 49 yX0_mixFour, .instanceMethod yX0_mixFour, .selects RX0 yX0_mixFour yX0_mixFour, .code yX0_mixFour cX0_mixFour 7 none, .fieldLink RX0 13 "KeyedDigest$Chain" "m" "[I", .methodLink RX0 53 yX0_turnDown, .static yX0_turnDown, .code yX0_turnDown cX0_turnDown 2 (some .int)] ++ wsX00)
def wsX0_stateWord : List Cond := .code yX0_stateWord cX0_stateWord 2 (some .int) :: ([.fieldLink RX0 9 "KeyedDigest$Chain" "h" "[I"] ++ wsX00)
def wsX0_stateByte : List Cond := .code yX0_stateByte cX0_stateByte 2 (some .int) :: ([.fieldLink RX0 9 "KeyedDigest$Chain" "h" "[I"] ++ wsX00)
def wsX1_init : List Cond := .code yX1_init cX1_init 1 none :: ([.methodLink RX1 1 objectInit, .instanceMethod objectInit, .code objectInit ⟨#[0xb1]⟩ 1 none, .arrayClass .int, .fieldLink RX1 9 "KeyedDigest" "key" "[I", .classLink RX1 13 RX0, .instantiable RX0 5, .initialized RX0, .fieldLink RX1 16 "KeyedDigest" "chain" "LKeyedDigest$Chain;", .fieldLink RX1 20 "KeyedDigest" "state" "I", .fieldLink RX1 24 "KeyedDigest" "digestBytes" "I", .fieldLink RX1 27 "KeyedDigest" "messageBytes" "I", .methodLink RX1 15 yX0_init, .instanceMethod yX0_init, .code yX0_init cX0_init 1 none, .methodLink RX0 1 objectInit, .fieldLink RX0 9 "KeyedDigest$Chain" "h" "[I", .fieldLink RX0 13 "KeyedDigest$Chain" "m" "[I", .fieldLink RX0 16 "KeyedDigest$Chain" "v" "[I", .fieldLink RX0 19 "KeyedDigest$Chain" "blockBytes" "I", .fieldLink RX0 23 "KeyedDigest$Chain" "allBytes" "J"] ++ wsX10 ++ wsX00)
def wsX1_init_ : List Cond := .code yX1_init_ cX1_init_ 2 none :: ([.fieldLink RX1 9 "KeyedDigest" "key" "[I", .fieldLink RX1 20 "KeyedDigest" "state" "I"] ++ wsX10)
def wsX1_isByte : List Cond := .code yX1_isByte cX1_isByte 1 (some .boolean) :: ([])
def wsX1_setKeyByte : List Cond := .code yX1_setKeyByte cX1_setKeyByte 3 (some .boolean) :: ([.fieldLink RX1 20 "KeyedDigest" "state" "I", .fieldLink RX1 9 "KeyedDigest" "key" "[I", .methodLink RX1 30 yX1_isByte, .static yX1_isByte, .initialized RX1, .code yX1_isByte cX1_isByte 1 (some .boolean)] ++ wsX10)
def wsX1_start_r1 : List Cond := [Cond.fieldLink RX1 20 "KeyedDigest" "state" "I", Cond.fieldLink RX1 16 "KeyedDigest" "chain" "LKeyedDigest$Chain;", Cond.fieldLink RX1 9 "KeyedDigest" "key" "[I", Cond.fieldLink RX1 24 "KeyedDigest" "digestBytes" "I", Cond.fieldLink RX1 27 "KeyedDigest" "messageBytes" "I", Cond.methodLink RX1 34 yX0_begin, Cond.instanceMethod yX0_begin, Cond.selects RX0 yX0_begin yX0_begin, Cond.initialized RX0, Cond.code yX0_begin cX0_begin 4 none, Cond.fieldLink RX0 9 "KeyedDigest$Chain" "h" "[I", Cond.fieldLink RX0 27 "KeyedDigest$Chain" "IV" "[I", Cond.constant RX0 30 (16842752), Cond.fieldLink RX0 23 "KeyedDigest$Chain" "allBytes" "J", Cond.methodLink RX0 31 yX0_emptyBlock, Cond.instanceMethod yX0_emptyBlock, Cond.selects RX0 yX0_emptyBlock yX0_emptyBlock, Cond.code yX0_emptyBlock cX0_emptyBlock 2 none, Cond.fieldLink RX0 13 "KeyedDigest$Chain" "m" "[I", Cond.fieldLink RX0 19 "KeyedDigest$Chain" "blockBytes" "I", Cond.methodLink RX1 38 yX0_addKey, Cond.instanceMethod yX0_addKey, Cond.selects RX0 yX0_addKey yX0_addKey, Cond.code yX0_addKey cX0_addKey 4 none]
def wsX1_start_r2 : List Cond := [Cond.constantLong RX0 38 (64), Cond.methodLink RX0 34 yX0_addByte, Cond.instanceMethod yX0_addByte, Cond.selects RX0 yX0_addByte yX0_addByte, Cond.code yX0_addByte cX0_addByte 2 none, Cond.methodLink RX0 40 yX0_mix, Cond.instanceMethod yX0_mix, Cond.selects RX0 yX0_mix yX0_mix, Cond.code yX0_mix cX0_mix 3 none, Cond.fieldLink RX0 16 "KeyedDigest$Chain" "v" "[I", Cond.methodLink RX0 43 yX0_mixRound, Cond.instanceMethod yX0_mixRound, Cond.selects RX0 yX0_mixRound yX0_mixRound, Cond.code yX0_mixRound cX0_mixRound 2 none, Cond.fieldLink RX0 46 "KeyedDigest$Chain" "PLACES" "[I", Cond.methodLink RX0 49 yX0_mixFour, Cond.instanceMethod yX0_mixFour, Cond.selects RX0 yX0_mixFour yX0_mixFour, Cond.code yX0_mixFour cX0_mixFour 7 none, Cond.methodLink RX0 53 yX0_turnDown, Cond.static yX0_turnDown, Cond.code yX0_turnDown cX0_turnDown 2 (some .int)]
def wsX1_start : List Cond := .code yX1_start cX1_start 3 (some .boolean) :: ((wsX1_start_r1 ++ wsX1_start_r2) ++ wsX10 ++ wsX00)
def wsX1_addToMessage_r1 : List Cond := [Cond.fieldLink RX1 16 "KeyedDigest" "chain" "LKeyedDigest$Chain;", Cond.fieldLink RX1 27 "KeyedDigest" "messageBytes" "I", Cond.methodLink RX1 69 yX0_addByte, Cond.instanceMethod yX0_addByte, Cond.selects RX0 yX0_addByte yX0_addByte, Cond.initialized RX0, Cond.code yX0_addByte cX0_addByte 2 none, Cond.fieldLink RX0 19 "KeyedDigest$Chain" "blockBytes" "I", Cond.fieldLink RX0 13 "KeyedDigest$Chain" "m" "[I", Cond.fieldLink RX0 23 "KeyedDigest$Chain" "allBytes" "J", Cond.methodLink RX0 40 yX0_mix, Cond.instanceMethod yX0_mix, Cond.selects RX0 yX0_mix yX0_mix, Cond.code yX0_mix cX0_mix 3 none, Cond.fieldLink RX0 16 "KeyedDigest$Chain" "v" "[I", Cond.fieldLink RX0 9 "KeyedDigest$Chain" "h" "[I", Cond.fieldLink RX0 27 "KeyedDigest$Chain" "IV" "[I", Cond.methodLink RX0 43 yX0_mixRound, Cond.instanceMethod yX0_mixRound, Cond.selects RX0 yX0_mixRound yX0_mixRound, Cond.code yX0_mixRound cX0_mixRound 2 none, Cond.fieldLink RX0 46 "KeyedDigest$Chain" "PLACES" "[I", Cond.methodLink RX0 49 yX0_mixFour, Cond.instanceMethod yX0_mixFour]
def wsX1_addToMessage_r2 : List Cond := [Cond.selects RX0 yX0_mixFour yX0_mixFour, Cond.code yX0_mixFour cX0_mixFour 7 none, Cond.methodLink RX0 53 yX0_turnDown, Cond.static yX0_turnDown, Cond.code yX0_turnDown cX0_turnDown 2 (some .int), Cond.methodLink RX0 31 yX0_emptyBlock, Cond.instanceMethod yX0_emptyBlock, Cond.selects RX0 yX0_emptyBlock yX0_emptyBlock, Cond.code yX0_emptyBlock cX0_emptyBlock 2 none]
def wsX1_addToMessage : List Cond := .code yX1_addToMessage cX1_addToMessage 2 none :: ((wsX1_addToMessage_r1 ++ wsX1_addToMessage_r2) ++ wsX10 ++ wsX00)
def wsX1_update_r1 : List Cond := [Cond.fieldLink RX1 20 "KeyedDigest" "state" "I", Cond.methodLink RX1 30 yX1_isByte, Cond.static yX1_isByte, Cond.initialized RX1, Cond.code yX1_isByte cX1_isByte 1 (some .boolean), Cond.methodLink RX1 42 yX1_addToMessage, Cond.instanceMethod yX1_addToMessage, Cond.selects RX1 yX1_addToMessage yX1_addToMessage, Cond.code yX1_addToMessage cX1_addToMessage 2 none, Cond.fieldLink RX1 16 "KeyedDigest" "chain" "LKeyedDigest$Chain;", Cond.fieldLink RX1 27 "KeyedDigest" "messageBytes" "I", Cond.methodLink RX1 69 yX0_addByte, Cond.instanceMethod yX0_addByte, Cond.selects RX0 yX0_addByte yX0_addByte, Cond.initialized RX0, Cond.code yX0_addByte cX0_addByte 2 none, Cond.fieldLink RX0 19 "KeyedDigest$Chain" "blockBytes" "I", Cond.fieldLink RX0 13 "KeyedDigest$Chain" "m" "[I", Cond.fieldLink RX0 23 "KeyedDigest$Chain" "allBytes" "J", Cond.methodLink RX0 40 yX0_mix, Cond.instanceMethod yX0_mix, Cond.selects RX0 yX0_mix yX0_mix, Cond.code yX0_mix cX0_mix 3 none, Cond.fieldLink RX0 16 "KeyedDigest$Chain" "v" "[I"]
def wsX1_update_r2 : List Cond := [Cond.fieldLink RX0 9 "KeyedDigest$Chain" "h" "[I", Cond.fieldLink RX0 27 "KeyedDigest$Chain" "IV" "[I", Cond.methodLink RX0 43 yX0_mixRound, Cond.instanceMethod yX0_mixRound, Cond.selects RX0 yX0_mixRound yX0_mixRound, Cond.code yX0_mixRound cX0_mixRound 2 none, Cond.fieldLink RX0 46 "KeyedDigest$Chain" "PLACES" "[I", Cond.methodLink RX0 49 yX0_mixFour, Cond.instanceMethod yX0_mixFour, Cond.selects RX0 yX0_mixFour yX0_mixFour, Cond.code yX0_mixFour cX0_mixFour 7 none, Cond.methodLink RX0 53 yX0_turnDown, Cond.static yX0_turnDown, Cond.code yX0_turnDown cX0_turnDown 2 (some .int), Cond.methodLink RX0 31 yX0_emptyBlock, Cond.instanceMethod yX0_emptyBlock, Cond.selects RX0 yX0_emptyBlock yX0_emptyBlock, Cond.code yX0_emptyBlock cX0_emptyBlock 2 none]
def wsX1_update : List Cond := .code yX1_update cX1_update 2 (some .boolean) :: ((wsX1_update_r1 ++ wsX1_update_r2) ++ wsX10 ++ wsX00)
def wsX1_addHighestFirst_r1 : List Cond := [Cond.methodLink RX1 42 yX1_addToMessage, Cond.instanceMethod yX1_addToMessage, Cond.selects RX1 yX1_addToMessage yX1_addToMessage, Cond.initialized RX1, Cond.code yX1_addToMessage cX1_addToMessage 2 none, Cond.fieldLink RX1 16 "KeyedDigest" "chain" "LKeyedDigest$Chain;", Cond.fieldLink RX1 27 "KeyedDigest" "messageBytes" "I", Cond.methodLink RX1 69 yX0_addByte, Cond.instanceMethod yX0_addByte, Cond.selects RX0 yX0_addByte yX0_addByte, Cond.initialized RX0, Cond.code yX0_addByte cX0_addByte 2 none, Cond.fieldLink RX0 19 "KeyedDigest$Chain" "blockBytes" "I", Cond.fieldLink RX0 13 "KeyedDigest$Chain" "m" "[I", Cond.fieldLink RX0 23 "KeyedDigest$Chain" "allBytes" "J", Cond.methodLink RX0 40 yX0_mix, Cond.instanceMethod yX0_mix, Cond.selects RX0 yX0_mix yX0_mix, Cond.code yX0_mix cX0_mix 3 none, Cond.fieldLink RX0 16 "KeyedDigest$Chain" "v" "[I", Cond.fieldLink RX0 9 "KeyedDigest$Chain" "h" "[I", Cond.fieldLink RX0 27 "KeyedDigest$Chain" "IV" "[I", Cond.methodLink RX0 43 yX0_mixRound, Cond.instanceMethod yX0_mixRound]
def wsX1_addHighestFirst_r2 : List Cond := [Cond.selects RX0 yX0_mixRound yX0_mixRound, Cond.code yX0_mixRound cX0_mixRound 2 none, Cond.fieldLink RX0 46 "KeyedDigest$Chain" "PLACES" "[I", Cond.methodLink RX0 49 yX0_mixFour, Cond.instanceMethod yX0_mixFour, Cond.selects RX0 yX0_mixFour yX0_mixFour, Cond.code yX0_mixFour cX0_mixFour 7 none, Cond.methodLink RX0 53 yX0_turnDown, Cond.static yX0_turnDown, Cond.code yX0_turnDown cX0_turnDown 2 (some .int), Cond.methodLink RX0 31 yX0_emptyBlock, Cond.instanceMethod yX0_emptyBlock, Cond.selects RX0 yX0_emptyBlock yX0_emptyBlock, Cond.code yX0_emptyBlock cX0_emptyBlock 2 none]
def wsX1_addHighestFirst : List Cond := .code yX1_addHighestFirst cX1_addHighestFirst 4 none :: ((wsX1_addHighestFirst_r1 ++ wsX1_addHighestFirst_r2) ++ wsX10 ++ wsX00)
def wsX1_updates_r1 : List Cond := [Cond.fieldLink RX1 20 "KeyedDigest" "state" "I", Cond.methodLink RX1 46 Lib.Math.min.name, Cond.static Lib.Math.min.name, Cond.initialized "java/lang/Math", Cond.code Lib.Math.min.name Lib.Math.min.code 2 (some .int), Cond.methodLink RX1 52 yX1_addHighestFirst, Cond.instanceMethod yX1_addHighestFirst, Cond.selects RX1 yX1_addHighestFirst yX1_addHighestFirst, Cond.initialized RX1, Cond.code yX1_addHighestFirst cX1_addHighestFirst 4 none, Cond.methodLink RX1 42 yX1_addToMessage, Cond.instanceMethod yX1_addToMessage, Cond.selects RX1 yX1_addToMessage yX1_addToMessage, Cond.code yX1_addToMessage cX1_addToMessage 2 none, Cond.fieldLink RX1 16 "KeyedDigest" "chain" "LKeyedDigest$Chain;", Cond.fieldLink RX1 27 "KeyedDigest" "messageBytes" "I", Cond.methodLink RX1 69 yX0_addByte, Cond.instanceMethod yX0_addByte, Cond.selects RX0 yX0_addByte yX0_addByte, Cond.initialized RX0, Cond.code yX0_addByte cX0_addByte 2 none, Cond.fieldLink RX0 19 "KeyedDigest$Chain" "blockBytes" "I", Cond.fieldLink RX0 13 "KeyedDigest$Chain" "m" "[I", Cond.fieldLink RX0 23 "KeyedDigest$Chain" "allBytes" "J"]
def wsX1_updates_r2 : List Cond := [Cond.methodLink RX0 40 yX0_mix, Cond.instanceMethod yX0_mix, Cond.selects RX0 yX0_mix yX0_mix, Cond.code yX0_mix cX0_mix 3 none, Cond.fieldLink RX0 16 "KeyedDigest$Chain" "v" "[I", Cond.fieldLink RX0 9 "KeyedDigest$Chain" "h" "[I", Cond.fieldLink RX0 27 "KeyedDigest$Chain" "IV" "[I", Cond.methodLink RX0 43 yX0_mixRound, Cond.instanceMethod yX0_mixRound, Cond.selects RX0 yX0_mixRound yX0_mixRound, Cond.code yX0_mixRound cX0_mixRound 2 none, Cond.fieldLink RX0 46 "KeyedDigest$Chain" "PLACES" "[I", Cond.methodLink RX0 49 yX0_mixFour, Cond.instanceMethod yX0_mixFour, Cond.selects RX0 yX0_mixFour yX0_mixFour, Cond.code yX0_mixFour cX0_mixFour 7 none, Cond.methodLink RX0 53 yX0_turnDown, Cond.static yX0_turnDown, Cond.code yX0_turnDown cX0_turnDown 2 (some .int), Cond.methodLink RX0 31 yX0_emptyBlock, Cond.instanceMethod yX0_emptyBlock, Cond.selects RX0 yX0_emptyBlock yX0_emptyBlock, Cond.code yX0_emptyBlock cX0_emptyBlock 2 none]
def wsX1_updates : List Cond := .code yX1_updates cX1_updates 6 (some .boolean) :: ((wsX1_updates_r1 ++ wsX1_updates_r2) ++ wsX10 ++ wsX00)
def wsX1_fill_r1 : List Cond := [Cond.fieldLink RX1 20 "KeyedDigest" "state" "I", Cond.methodLink RX1 30 yX1_isByte, Cond.static yX1_isByte, Cond.initialized RX1, Cond.code yX1_isByte cX1_isByte 1 (some .boolean), Cond.methodLink RX1 42 yX1_addToMessage, Cond.instanceMethod yX1_addToMessage, Cond.selects RX1 yX1_addToMessage yX1_addToMessage, Cond.code yX1_addToMessage cX1_addToMessage 2 none, Cond.fieldLink RX1 16 "KeyedDigest" "chain" "LKeyedDigest$Chain;", Cond.fieldLink RX1 27 "KeyedDigest" "messageBytes" "I", Cond.methodLink RX1 69 yX0_addByte, Cond.instanceMethod yX0_addByte, Cond.selects RX0 yX0_addByte yX0_addByte, Cond.initialized RX0, Cond.code yX0_addByte cX0_addByte 2 none, Cond.fieldLink RX0 19 "KeyedDigest$Chain" "blockBytes" "I", Cond.fieldLink RX0 13 "KeyedDigest$Chain" "m" "[I", Cond.fieldLink RX0 23 "KeyedDigest$Chain" "allBytes" "J", Cond.methodLink RX0 40 yX0_mix, Cond.instanceMethod yX0_mix, Cond.selects RX0 yX0_mix yX0_mix, Cond.code yX0_mix cX0_mix 3 none, Cond.fieldLink RX0 16 "KeyedDigest$Chain" "v" "[I"]
def wsX1_fill_r2 : List Cond := [Cond.fieldLink RX0 9 "KeyedDigest$Chain" "h" "[I", Cond.fieldLink RX0 27 "KeyedDigest$Chain" "IV" "[I", Cond.methodLink RX0 43 yX0_mixRound, Cond.instanceMethod yX0_mixRound, Cond.selects RX0 yX0_mixRound yX0_mixRound, Cond.code yX0_mixRound cX0_mixRound 2 none, Cond.fieldLink RX0 46 "KeyedDigest$Chain" "PLACES" "[I", Cond.methodLink RX0 49 yX0_mixFour, Cond.instanceMethod yX0_mixFour, Cond.selects RX0 yX0_mixFour yX0_mixFour, Cond.code yX0_mixFour cX0_mixFour 7 none, Cond.methodLink RX0 53 yX0_turnDown, Cond.static yX0_turnDown, Cond.code yX0_turnDown cX0_turnDown 2 (some .int), Cond.methodLink RX0 31 yX0_emptyBlock, Cond.instanceMethod yX0_emptyBlock, Cond.selects RX0 yX0_emptyBlock yX0_emptyBlock, Cond.code yX0_emptyBlock cX0_emptyBlock 2 none]
def wsX1_fill : List Cond := .code yX1_fill cX1_fill 4 (some .boolean) :: ((wsX1_fill_r1 ++ wsX1_fill_r2) ++ wsX10 ++ wsX00)
def wsX1_finish_r1 : List Cond := [Cond.fieldLink RX1 20 "KeyedDigest" "state" "I", Cond.fieldLink RX1 16 "KeyedDigest" "chain" "LKeyedDigest$Chain;", Cond.methodLink RX1 55 yX0_mixLast, Cond.instanceMethod yX0_mixLast, Cond.selects RX0 yX0_mixLast yX0_mixLast, Cond.initialized RX0, Cond.code yX0_mixLast cX0_mixLast 1 none, Cond.methodLink RX0 40 yX0_mix, Cond.instanceMethod yX0_mix, Cond.selects RX0 yX0_mix yX0_mix, Cond.code yX0_mix cX0_mix 3 none, Cond.fieldLink RX0 16 "KeyedDigest$Chain" "v" "[I", Cond.fieldLink RX0 9 "KeyedDigest$Chain" "h" "[I", Cond.fieldLink RX0 27 "KeyedDigest$Chain" "IV" "[I", Cond.fieldLink RX0 23 "KeyedDigest$Chain" "allBytes" "J", Cond.methodLink RX0 43 yX0_mixRound, Cond.instanceMethod yX0_mixRound, Cond.selects RX0 yX0_mixRound yX0_mixRound, Cond.code yX0_mixRound cX0_mixRound 2 none, Cond.fieldLink RX0 46 "KeyedDigest$Chain" "PLACES" "[I", Cond.methodLink RX0 49 yX0_mixFour, Cond.instanceMethod yX0_mixFour, Cond.selects RX0 yX0_mixFour yX0_mixFour, Cond.code yX0_mixFour cX0_mixFour 7 none]
def wsX1_finish_r2 : List Cond := [Cond.fieldLink RX0 13 "KeyedDigest$Chain" "m" "[I", Cond.methodLink RX0 53 yX0_turnDown, Cond.static yX0_turnDown, Cond.code yX0_turnDown cX0_turnDown 2 (some .int)]
def wsX1_finish : List Cond := .code yX1_finish cX1_finish 1 (some .boolean) :: ((wsX1_finish_r1 ++ wsX1_finish_r2) ++ wsX10 ++ wsX00)
def wsX1_out : List Cond := .code yX1_out cX1_out 2 (some .int) :: ([.fieldLink RX1 20 "KeyedDigest" "state" "I", .fieldLink RX1 24 "KeyedDigest" "digestBytes" "I", .fieldLink RX1 16 "KeyedDigest" "chain" "LKeyedDigest$Chain;", .methodLink RX1 58 yX0_stateByte, .instanceMethod yX0_stateByte, .selects RX0 yX0_stateByte yX0_stateByte, .initialized RX0, .code yX0_stateByte cX0_stateByte 2 (some .int), .fieldLink RX0 9 "KeyedDigest$Chain" "h" "[I"] ++ wsX10 ++ wsX00)
def wsX1_hasMessage : List Cond := .code yX1_hasMessage cX1_hasMessage 1 (some .boolean) :: ([.fieldLink RX1 20 "KeyedDigest" "state" "I"] ++ wsX10)
def wsX1_length : List Cond := .code yX1_length cX1_length 1 (some .int) :: ([.fieldLink RX1 27 "KeyedDigest" "messageBytes" "I", .methodLink RX1 62 yX1_hasMessage, .instanceMethod yX1_hasMessage, .selects RX1 yX1_hasMessage yX1_hasMessage, .initialized RX1, .code yX1_hasMessage cX1_hasMessage 1 (some .boolean), .fieldLink RX1 20 "KeyedDigest" "state" "I"] ++ wsX10)
def wsX1_word : List Cond := .code yX1_word cX1_word 2 (some .int) :: ([.fieldLink RX1 16 "KeyedDigest" "chain" "LKeyedDigest$Chain;", .methodLink RX1 62 yX1_hasMessage, .instanceMethod yX1_hasMessage, .selects RX1 yX1_hasMessage yX1_hasMessage, .initialized RX1, .code yX1_hasMessage cX1_hasMessage 1 (some .boolean), .fieldLink RX1 20 "KeyedDigest" "state" "I", .methodLink RX1 66 yX0_stateWord, .instanceMethod yX0_stateWord, .selects RX0 yX0_stateWord yX0_stateWord, .initialized RX0, .code yX0_stateWord cX0_stateWord 2 (some .int), .fieldLink RX0 9 "KeyedDigest$Chain" "h" "[I"] ++ wsX10 ++ wsX00)
def wsX2_init : List Cond := .code yX2_init cX2_init 1 none :: ([.methodLink RX2 1 objectInit, .instanceMethod objectInit, .code objectInit ⟨#[0xb1]⟩ 1 none, .arrayClass .int, .fieldLink RX2 7 "KeyedDigestModel" "key" "[I", .fieldLink RX2 13 "KeyedDigestModel" "h" "[I", .fieldLink RX2 16 "KeyedDigestModel" "v" "[I", .fieldLink RX2 19 "KeyedDigestModel" "m" "[I", .fieldLink RX2 22 "KeyedDigestModel" "block" "[I", .fieldLink RX2 25 "KeyedDigestModel" "rows" "[I", .fieldLink RX2 28 "KeyedDigestModel" "ready" "Z"] ++ wsX20)
def wsX2_init_ : List Cond := .code yX2_init_ cX2_init_ 2 none :: ([.fieldLink RX2 28 "KeyedDigestModel" "ready" "Z", .fieldLink RX2 32 "KeyedDigestModel" "isOpen" "Z", .fieldLink RX2 35 "KeyedDigestModel" "isDone" "Z", .fieldLink RX2 7 "KeyedDigestModel" "key" "[I"] ++ wsX20)
def wsX2_setKeyByte : List Cond := .code yX2_setKeyByte cX2_setKeyByte 4 (some .boolean) :: ([.fieldLink RX2 32 "KeyedDigestModel" "isOpen" "Z", .fieldLink RX2 7 "KeyedDigestModel" "key" "[I"] ++ wsX20)
def wsX2_first : List Cond := .code yX2_first cX2_first 1 (some .int) :: ([.constant RX2 38 (1779033703), .constant RX2 39 (-1150833019), .constant RX2 40 (1013904242), .constant RX2 41 (-1521486534), .constant RX2 42 (1359893119), .constant RX2 43 (-1694144372), .constant RX2 44 (528734635), .constant RX2 45 (1541459225)])
def wsX2_down : List Cond := .code yX2_down cX2_down 2 (some .int) :: ([])
def wsX2_g : List Cond := .code yX2_g cX2_g 7 none :: ([.fieldLink RX2 16 "KeyedDigestModel" "v" "[I", .methodLink RX2 75 yX2_down, .static yX2_down, .initialized RX2, .code yX2_down cX2_down 2 (some .int)] ++ wsX20)
def wsX2_mix : List Cond := .code yX2_mix cX2_mix 5 none :: ([.fieldLink RX2 19 "KeyedDigestModel" "m" "[I", .fieldLink RX2 22 "KeyedDigestModel" "block" "[I", .fieldLink RX2 16 "KeyedDigestModel" "v" "[I", .fieldLink RX2 13 "KeyedDigestModel" "h" "[I", .fieldLink RX2 25 "KeyedDigestModel" "rows" "[I", .methodLink RX2 46 yX2_first, .static yX2_first, .initialized RX2, .code yX2_first cX2_first 1 (some .int), .constant RX2 38 (1779033703), .constant RX2 39 (-1150833019), .constant RX2 40 (1013904242), .constant RX2 41 (-1521486534), .constant RX2 42 (1359893119), .constant RX2 43 (-1694144372), .constant RX2 44 (528734635), .constant RX2 45 (1541459225), .methodLink RX2 79 yX2_g, .instanceMethod yX2_g, .selects RX2 yX2_g yX2_g, .code yX2_g cX2_g 7 none, .methodLink RX2 75 yX2_down, .static yX2_down, .code yX2_down cX2_down 2 (some .int)] ++ wsX20)
def wsX2_take_r1 : List Cond := [Cond.fieldLink RX2 55 "KeyedDigestModel" "filled" "I", Cond.fieldLink RX2 58 "KeyedDigestModel" "mixed" "J", Cond.constantLong RX2 69 (64), Cond.fieldLink RX2 22 "KeyedDigestModel" "block" "[I", Cond.methodLink RX2 71 yX2_mix, Cond.instanceMethod yX2_mix, Cond.selects RX2 yX2_mix yX2_mix, Cond.initialized RX2, Cond.code yX2_mix cX2_mix 5 none, Cond.fieldLink RX2 19 "KeyedDigestModel" "m" "[I", Cond.fieldLink RX2 16 "KeyedDigestModel" "v" "[I", Cond.fieldLink RX2 13 "KeyedDigestModel" "h" "[I", Cond.fieldLink RX2 25 "KeyedDigestModel" "rows" "[I", Cond.methodLink RX2 46 yX2_first, Cond.static yX2_first, Cond.code yX2_first cX2_first 1 (some .int), Cond.constant RX2 38 (1779033703), Cond.constant RX2 39 (-1150833019), Cond.constant RX2 40 (1013904242), Cond.constant RX2 41 (-1521486534), Cond.constant RX2 42 (1359893119), Cond.constant RX2 43 (-1694144372), Cond.constant RX2 44 (528734635), Cond.constant RX2 45 (1541459225)]
def wsX2_take_r2 : List Cond := [Cond.methodLink RX2 79 yX2_g, Cond.instanceMethod yX2_g, Cond.selects RX2 yX2_g yX2_g, Cond.code yX2_g cX2_g 7 none, Cond.methodLink RX2 75 yX2_down, Cond.static yX2_down, Cond.code yX2_down cX2_down 2 (some .int)]
def wsX2_take : List Cond := .code yX2_take cX2_take 2 none :: ((wsX2_take_r1 ++ wsX2_take_r2) ++ wsX20)
def wsX2_start_r1 : List Cond := [Cond.fieldLink RX2 28 "KeyedDigestModel" "ready" "Z", Cond.fieldLink RX2 13 "KeyedDigestModel" "h" "[I", Cond.constant RX2 50 (16842752), Cond.fieldLink RX2 51 "KeyedDigestModel" "size" "I", Cond.fieldLink RX2 55 "KeyedDigestModel" "filled" "I", Cond.fieldLink RX2 58 "KeyedDigestModel" "mixed" "J", Cond.fieldLink RX2 62 "KeyedDigestModel" "came" "I", Cond.fieldLink RX2 32 "KeyedDigestModel" "isOpen" "Z", Cond.fieldLink RX2 35 "KeyedDigestModel" "isDone" "Z", Cond.fieldLink RX2 7 "KeyedDigestModel" "key" "[I", Cond.methodLink RX2 46 yX2_first, Cond.static yX2_first, Cond.initialized RX2, Cond.code yX2_first cX2_first 1 (some .int), Cond.constant RX2 38 (1779033703), Cond.constant RX2 39 (-1150833019), Cond.constant RX2 40 (1013904242), Cond.constant RX2 41 (-1521486534), Cond.constant RX2 42 (1359893119), Cond.constant RX2 43 (-1694144372), Cond.constant RX2 44 (528734635), Cond.constant RX2 45 (1541459225), Cond.methodLink RX2 65 yX2_take, Cond.instanceMethod yX2_take]
def wsX2_start_r2 : List Cond := [Cond.selects RX2 yX2_take yX2_take, Cond.code yX2_take cX2_take 2 none, Cond.constantLong RX2 69 (64), Cond.fieldLink RX2 22 "KeyedDigestModel" "block" "[I", Cond.methodLink RX2 71 yX2_mix, Cond.instanceMethod yX2_mix, Cond.selects RX2 yX2_mix yX2_mix, Cond.code yX2_mix cX2_mix 5 none, Cond.fieldLink RX2 19 "KeyedDigestModel" "m" "[I", Cond.fieldLink RX2 16 "KeyedDigestModel" "v" "[I", Cond.fieldLink RX2 25 "KeyedDigestModel" "rows" "[I", Cond.methodLink RX2 79 yX2_g, Cond.instanceMethod yX2_g, Cond.selects RX2 yX2_g yX2_g, Cond.code yX2_g cX2_g 7 none, Cond.methodLink RX2 75 yX2_down, Cond.static yX2_down, Cond.code yX2_down cX2_down 2 (some .int)]
def wsX2_start : List Cond := .code yX2_start cX2_start 4 (some .boolean) :: ((wsX2_start_r1 ++ wsX2_start_r2) ++ wsX20)
def wsX2_update_r1 : List Cond := [Cond.fieldLink RX2 32 "KeyedDigestModel" "isOpen" "Z", Cond.fieldLink RX2 62 "KeyedDigestModel" "came" "I", Cond.methodLink RX2 65 yX2_take, Cond.instanceMethod yX2_take, Cond.selects RX2 yX2_take yX2_take, Cond.initialized RX2, Cond.code yX2_take cX2_take 2 none, Cond.fieldLink RX2 55 "KeyedDigestModel" "filled" "I", Cond.fieldLink RX2 58 "KeyedDigestModel" "mixed" "J", Cond.constantLong RX2 69 (64), Cond.fieldLink RX2 22 "KeyedDigestModel" "block" "[I", Cond.methodLink RX2 71 yX2_mix, Cond.instanceMethod yX2_mix, Cond.selects RX2 yX2_mix yX2_mix, Cond.code yX2_mix cX2_mix 5 none, Cond.fieldLink RX2 19 "KeyedDigestModel" "m" "[I", Cond.fieldLink RX2 16 "KeyedDigestModel" "v" "[I", Cond.fieldLink RX2 13 "KeyedDigestModel" "h" "[I", Cond.fieldLink RX2 25 "KeyedDigestModel" "rows" "[I", Cond.methodLink RX2 46 yX2_first, Cond.static yX2_first, Cond.code yX2_first cX2_first 1 (some .int), Cond.constant RX2 38 (1779033703), Cond.constant RX2 39 (-1150833019)]
def wsX2_update_r2 : List Cond := [Cond.constant RX2 40 (1013904242), Cond.constant RX2 41 (-1521486534), Cond.constant RX2 42 (1359893119), Cond.constant RX2 43 (-1694144372), Cond.constant RX2 44 (528734635), Cond.constant RX2 45 (1541459225), Cond.methodLink RX2 79 yX2_g, Cond.instanceMethod yX2_g, Cond.selects RX2 yX2_g yX2_g, Cond.code yX2_g cX2_g 7 none, Cond.methodLink RX2 75 yX2_down, Cond.static yX2_down, Cond.code yX2_down cX2_down 2 (some .int)]
def wsX2_update : List Cond := .code yX2_update cX2_update 3 (some .boolean) :: ((wsX2_update_r1 ++ wsX2_update_r2) ++ wsX20)
def wsX2_updates_r1 : List Cond := [Cond.fieldLink RX2 32 "KeyedDigestModel" "isOpen" "Z", Cond.fieldLink RX2 62 "KeyedDigestModel" "came" "I", Cond.methodLink RX2 65 yX2_take, Cond.instanceMethod yX2_take, Cond.selects RX2 yX2_take yX2_take, Cond.initialized RX2, Cond.code yX2_take cX2_take 2 none, Cond.fieldLink RX2 55 "KeyedDigestModel" "filled" "I", Cond.fieldLink RX2 58 "KeyedDigestModel" "mixed" "J", Cond.constantLong RX2 69 (64), Cond.fieldLink RX2 22 "KeyedDigestModel" "block" "[I", Cond.methodLink RX2 71 yX2_mix, Cond.instanceMethod yX2_mix, Cond.selects RX2 yX2_mix yX2_mix, Cond.code yX2_mix cX2_mix 5 none, Cond.fieldLink RX2 19 "KeyedDigestModel" "m" "[I", Cond.fieldLink RX2 16 "KeyedDigestModel" "v" "[I", Cond.fieldLink RX2 13 "KeyedDigestModel" "h" "[I", Cond.fieldLink RX2 25 "KeyedDigestModel" "rows" "[I", Cond.methodLink RX2 46 yX2_first, Cond.static yX2_first, Cond.code yX2_first cX2_first 1 (some .int), Cond.constant RX2 38 (1779033703), Cond.constant RX2 39 (-1150833019)]
def wsX2_updates_r2 : List Cond := [Cond.constant RX2 40 (1013904242), Cond.constant RX2 41 (-1521486534), Cond.constant RX2 42 (1359893119), Cond.constant RX2 43 (-1694144372), Cond.constant RX2 44 (528734635), Cond.constant RX2 45 (1541459225), Cond.methodLink RX2 79 yX2_g, Cond.instanceMethod yX2_g, Cond.selects RX2 yX2_g yX2_g, Cond.code yX2_g cX2_g 7 none, Cond.methodLink RX2 75 yX2_down, Cond.static yX2_down, Cond.code yX2_down cX2_down 2 (some .int)]
def wsX2_updates : List Cond := .code yX2_updates cX2_updates 9 (some .boolean) :: ((wsX2_updates_r1 ++ wsX2_updates_r2) ++ wsX20)
def wsX2_fill_r1 : List Cond := [Cond.fieldLink RX2 32 "KeyedDigestModel" "isOpen" "Z", Cond.fieldLink RX2 62 "KeyedDigestModel" "came" "I", Cond.methodLink RX2 65 yX2_take, Cond.instanceMethod yX2_take, Cond.selects RX2 yX2_take yX2_take, Cond.initialized RX2, Cond.code yX2_take cX2_take 2 none, Cond.fieldLink RX2 55 "KeyedDigestModel" "filled" "I", Cond.fieldLink RX2 58 "KeyedDigestModel" "mixed" "J", Cond.constantLong RX2 69 (64), Cond.fieldLink RX2 22 "KeyedDigestModel" "block" "[I", Cond.methodLink RX2 71 yX2_mix, Cond.instanceMethod yX2_mix, Cond.selects RX2 yX2_mix yX2_mix, Cond.code yX2_mix cX2_mix 5 none, Cond.fieldLink RX2 19 "KeyedDigestModel" "m" "[I", Cond.fieldLink RX2 16 "KeyedDigestModel" "v" "[I", Cond.fieldLink RX2 13 "KeyedDigestModel" "h" "[I", Cond.fieldLink RX2 25 "KeyedDigestModel" "rows" "[I", Cond.methodLink RX2 46 yX2_first, Cond.static yX2_first, Cond.code yX2_first cX2_first 1 (some .int), Cond.constant RX2 38 (1779033703), Cond.constant RX2 39 (-1150833019)]
def wsX2_fill_r2 : List Cond := [Cond.constant RX2 40 (1013904242), Cond.constant RX2 41 (-1521486534), Cond.constant RX2 42 (1359893119), Cond.constant RX2 43 (-1694144372), Cond.constant RX2 44 (528734635), Cond.constant RX2 45 (1541459225), Cond.methodLink RX2 79 yX2_g, Cond.instanceMethod yX2_g, Cond.selects RX2 yX2_g yX2_g, Cond.code yX2_g cX2_g 7 none, Cond.methodLink RX2 75 yX2_down, Cond.static yX2_down, Cond.code yX2_down cX2_down 2 (some .int)]
def wsX2_fill : List Cond := .code yX2_fill cX2_fill 5 (some .boolean) :: ((wsX2_fill_r1 ++ wsX2_fill_r2) ++ wsX20)
def wsX2_finish_r1 : List Cond := [Cond.fieldLink RX2 32 "KeyedDigestModel" "isOpen" "Z", Cond.fieldLink RX2 58 "KeyedDigestModel" "mixed" "J", Cond.fieldLink RX2 55 "KeyedDigestModel" "filled" "I", Cond.fieldLink RX2 22 "KeyedDigestModel" "block" "[I", Cond.fieldLink RX2 35 "KeyedDigestModel" "isDone" "Z", Cond.methodLink RX2 71 yX2_mix, Cond.instanceMethod yX2_mix, Cond.selects RX2 yX2_mix yX2_mix, Cond.initialized RX2, Cond.code yX2_mix cX2_mix 5 none, Cond.fieldLink RX2 19 "KeyedDigestModel" "m" "[I", Cond.fieldLink RX2 16 "KeyedDigestModel" "v" "[I", Cond.fieldLink RX2 13 "KeyedDigestModel" "h" "[I", Cond.fieldLink RX2 25 "KeyedDigestModel" "rows" "[I", Cond.methodLink RX2 46 yX2_first, Cond.static yX2_first, Cond.code yX2_first cX2_first 1 (some .int), Cond.constant RX2 38 (1779033703), Cond.constant RX2 39 (-1150833019), Cond.constant RX2 40 (1013904242), Cond.constant RX2 41 (-1521486534), Cond.constant RX2 42 (1359893119), Cond.constant RX2 43 (-1694144372), Cond.constant RX2 44 (528734635)]
def wsX2_finish_r2 : List Cond := [Cond.constant RX2 45 (1541459225), Cond.methodLink RX2 79 yX2_g, Cond.instanceMethod yX2_g, Cond.selects RX2 yX2_g yX2_g, Cond.code yX2_g cX2_g 7 none, Cond.methodLink RX2 75 yX2_down, Cond.static yX2_down, Cond.code yX2_down cX2_down 2 (some .int)]
def wsX2_finish : List Cond := .code yX2_finish cX2_finish 2 (some .boolean) :: ((wsX2_finish_r1 ++ wsX2_finish_r2) ++ wsX20)
def wsX2_out : List Cond := .code yX2_out cX2_out 2 (some .int) :: ([.fieldLink RX2 35 "KeyedDigestModel" "isDone" "Z", .fieldLink RX2 51 "KeyedDigestModel" "size" "I", .fieldLink RX2 13 "KeyedDigestModel" "h" "[I"] ++ wsX20)
def wsX2_length : List Cond := .code yX2_length cX2_length 1 (some .int) :: ([.fieldLink RX2 32 "KeyedDigestModel" "isOpen" "Z", .fieldLink RX2 35 "KeyedDigestModel" "isDone" "Z", .fieldLink RX2 62 "KeyedDigestModel" "came" "I"] ++ wsX20)
def wsX2_word : List Cond := .code yX2_word cX2_word 2 (some .int) :: ([.fieldLink RX2 32 "KeyedDigestModel" "isOpen" "Z", .fieldLink RX2 35 "KeyedDigestModel" "isDone" "Z", .fieldLink RX2 13 "KeyedDigestModel" "h" "[I"] ++ wsX20)
def wsJ9_min_7cf53 : List Cond := .code yJ9_min_7cf53 cJ9_min_7cf53 2 (some .int) :: ([])
def wsL_law_r1 : List Cond := [Cond.classLink RL 7 RX1, Cond.instantiable RX1 5, Cond.initialized RX1, Cond.classLink RL 10 RX2, Cond.instantiable RX2 13, Cond.initialized RX2, Cond.methodLink RL 9 yX1_init, Cond.instanceMethod yX1_init, Cond.code yX1_init cX1_init 1 none, Cond.methodLink RX1 1 objectInit, Cond.instanceMethod objectInit, Cond.code objectInit ⟨#[0xb1]⟩ 1 none, Cond.arrayClass .int, Cond.fieldLink RX1 9 "KeyedDigest" "key" "[I", Cond.classLink RX1 13 RX0, Cond.instantiable RX0 5, Cond.initialized RX0, Cond.fieldLink RX1 16 "KeyedDigest" "chain" "LKeyedDigest$Chain;", Cond.fieldLink RX1 20 "KeyedDigest" "state" "I", Cond.fieldLink RX1 24 "KeyedDigest" "digestBytes" "I", Cond.fieldLink RX1 27 "KeyedDigest" "messageBytes" "I", Cond.methodLink RX1 15 yX0_init, Cond.instanceMethod yX0_init, Cond.code yX0_init cX0_init 1 none]
def wsL_law_r2 : List Cond := [Cond.methodLink RX0 1 objectInit, Cond.fieldLink RX0 9 "KeyedDigest$Chain" "h" "[I", Cond.fieldLink RX0 13 "KeyedDigest$Chain" "m" "[I", Cond.fieldLink RX0 16 "KeyedDigest$Chain" "v" "[I", Cond.fieldLink RX0 19 "KeyedDigest$Chain" "blockBytes" "I", Cond.fieldLink RX0 23 "KeyedDigest$Chain" "allBytes" "J", Cond.methodLink RL 12 yX2_init, Cond.instanceMethod yX2_init, Cond.code yX2_init cX2_init 1 none, Cond.methodLink RX2 1 objectInit, Cond.fieldLink RX2 7 "KeyedDigestModel" "key" "[I", Cond.fieldLink RX2 13 "KeyedDigestModel" "h" "[I", Cond.fieldLink RX2 16 "KeyedDigestModel" "v" "[I", Cond.fieldLink RX2 19 "KeyedDigestModel" "m" "[I", Cond.fieldLink RX2 22 "KeyedDigestModel" "block" "[I", Cond.fieldLink RX2 25 "KeyedDigestModel" "rows" "[I", Cond.fieldLink RX2 28 "KeyedDigestModel" "ready" "Z", Cond.methodLink RL 13 yX1_init_, Cond.instanceMethod yX1_init_, Cond.selects RX1 yX1_init_ yX1_init_, Cond.code yX1_init_ cX1_init_ 2 none, Cond.methodLink RL 16 yX2_init_, Cond.instanceMethod yX2_init_, Cond.selects RX2 yX2_init_ yX2_init_]
def wsL_law_r3 : List Cond := [Cond.code yX2_init_ cX2_init_ 2 none, Cond.fieldLink RX2 32 "KeyedDigestModel" "isOpen" "Z", Cond.fieldLink RX2 35 "KeyedDigestModel" "isDone" "Z", Cond.methodLink RL 17 yX1_setKeyByte, Cond.instanceMethod yX1_setKeyByte, Cond.selects RX1 yX1_setKeyByte yX1_setKeyByte, Cond.code yX1_setKeyByte cX1_setKeyByte 3 (some .boolean), Cond.methodLink RX1 30 yX1_isByte, Cond.static yX1_isByte, Cond.code yX1_isByte cX1_isByte 1 (some .boolean), Cond.methodLink RL 21 yX2_setKeyByte, Cond.instanceMethod yX2_setKeyByte, Cond.selects RX2 yX2_setKeyByte yX2_setKeyByte, Cond.code yX2_setKeyByte cX2_setKeyByte 4 (some .boolean), Cond.methodLink RL 22 yX1_start, Cond.instanceMethod yX1_start, Cond.selects RX1 yX1_start yX1_start, Cond.code yX1_start cX1_start 3 (some .boolean), Cond.methodLink RX1 34 yX0_begin, Cond.instanceMethod yX0_begin, Cond.selects RX0 yX0_begin yX0_begin, Cond.code yX0_begin cX0_begin 4 none, Cond.fieldLink RX0 27 "KeyedDigest$Chain" "IV" "[I", Cond.constant RX0 30 (16842752)]
def wsL_law_r4 : List Cond := [Cond.methodLink RX0 31 yX0_emptyBlock, Cond.instanceMethod yX0_emptyBlock, Cond.selects RX0 yX0_emptyBlock yX0_emptyBlock, Cond.code yX0_emptyBlock cX0_emptyBlock 2 none, Cond.methodLink RX1 38 yX0_addKey, Cond.instanceMethod yX0_addKey, Cond.selects RX0 yX0_addKey yX0_addKey, Cond.code yX0_addKey cX0_addKey 4 none, Cond.constantLong RX0 38 (64), Cond.methodLink RX0 34 yX0_addByte, Cond.instanceMethod yX0_addByte, Cond.selects RX0 yX0_addByte yX0_addByte, Cond.code yX0_addByte cX0_addByte 2 none, Cond.methodLink RX0 40 yX0_mix, Cond.instanceMethod yX0_mix, Cond.selects RX0 yX0_mix yX0_mix, Cond.code yX0_mix cX0_mix 3 none, Cond.methodLink RX0 43 yX0_mixRound, Cond.instanceMethod yX0_mixRound, Cond.selects RX0 yX0_mixRound yX0_mixRound, Cond.code yX0_mixRound cX0_mixRound 2 none, Cond.fieldLink RX0 46 "KeyedDigest$Chain" "PLACES" "[I", Cond.methodLink RX0 49 yX0_mixFour, Cond.instanceMethod yX0_mixFour]
def wsL_law_r5 : List Cond := [Cond.selects RX0 yX0_mixFour yX0_mixFour, Cond.code yX0_mixFour cX0_mixFour 7 none, Cond.methodLink RX0 53 yX0_turnDown, Cond.static yX0_turnDown, Cond.code yX0_turnDown cX0_turnDown 2 (some .int), Cond.methodLink RL 25 yX2_start, Cond.instanceMethod yX2_start, Cond.selects RX2 yX2_start yX2_start, Cond.code yX2_start cX2_start 4 (some .boolean), Cond.constant RX2 50 (16842752), Cond.fieldLink RX2 51 "KeyedDigestModel" "size" "I", Cond.fieldLink RX2 55 "KeyedDigestModel" "filled" "I", Cond.fieldLink RX2 58 "KeyedDigestModel" "mixed" "J", Cond.fieldLink RX2 62 "KeyedDigestModel" "came" "I", Cond.methodLink RX2 46 yX2_first, Cond.static yX2_first, Cond.code yX2_first cX2_first 1 (some .int), Cond.constant RX2 38 (1779033703), Cond.constant RX2 39 (-1150833019), Cond.constant RX2 40 (1013904242), Cond.constant RX2 41 (-1521486534), Cond.constant RX2 42 (1359893119), Cond.constant RX2 43 (-1694144372), Cond.constant RX2 44 (528734635)]
def wsL_law_r6 : List Cond := [Cond.constant RX2 45 (1541459225), Cond.methodLink RX2 65 yX2_take, Cond.instanceMethod yX2_take, Cond.selects RX2 yX2_take yX2_take, Cond.code yX2_take cX2_take 2 none, Cond.constantLong RX2 69 (64), Cond.methodLink RX2 71 yX2_mix, Cond.instanceMethod yX2_mix, Cond.selects RX2 yX2_mix yX2_mix, Cond.code yX2_mix cX2_mix 5 none, Cond.methodLink RX2 79 yX2_g, Cond.instanceMethod yX2_g, Cond.selects RX2 yX2_g yX2_g, Cond.code yX2_g cX2_g 7 none, Cond.methodLink RX2 75 yX2_down, Cond.static yX2_down, Cond.code yX2_down cX2_down 2 (some .int), Cond.methodLink RL 26 yX1_update, Cond.instanceMethod yX1_update, Cond.selects RX1 yX1_update yX1_update, Cond.code yX1_update cX1_update 2 (some .boolean), Cond.methodLink RX1 42 yX1_addToMessage, Cond.instanceMethod yX1_addToMessage, Cond.selects RX1 yX1_addToMessage yX1_addToMessage]
def wsL_law_r7 : List Cond := [Cond.code yX1_addToMessage cX1_addToMessage 2 none, Cond.methodLink RX1 69 yX0_addByte, Cond.methodLink RL 30 yX2_update, Cond.instanceMethod yX2_update, Cond.selects RX2 yX2_update yX2_update, Cond.code yX2_update cX2_update 3 (some .boolean), Cond.methodLink RL 31 yX1_updates, Cond.instanceMethod yX1_updates, Cond.selects RX1 yX1_updates yX1_updates, Cond.code yX1_updates cX1_updates 6 (some .boolean), Cond.methodLink RX1 46 Lib.Math.min.name, Cond.static Lib.Math.min.name, Cond.initialized "java/lang/Math", Cond.code Lib.Math.min.name Lib.Math.min.code 2 (some .int), Cond.methodLink RX1 52 yX1_addHighestFirst, Cond.instanceMethod yX1_addHighestFirst, Cond.selects RX1 yX1_addHighestFirst yX1_addHighestFirst, Cond.code yX1_addHighestFirst cX1_addHighestFirst 4 none, Cond.methodLink RL 35 yX2_updates, Cond.instanceMethod yX2_updates, Cond.selects RX2 yX2_updates yX2_updates, Cond.code yX2_updates cX2_updates 9 (some .boolean), Cond.methodLink RL 36 yX1_fill, Cond.instanceMethod yX1_fill]
def wsL_law_r8 : List Cond := [Cond.selects RX1 yX1_fill yX1_fill, Cond.code yX1_fill cX1_fill 4 (some .boolean), Cond.methodLink RL 39 yX2_fill, Cond.instanceMethod yX2_fill, Cond.selects RX2 yX2_fill yX2_fill, Cond.code yX2_fill cX2_fill 5 (some .boolean), Cond.methodLink RL 40 yX1_finish, Cond.instanceMethod yX1_finish, Cond.selects RX1 yX1_finish yX1_finish, Cond.code yX1_finish cX1_finish 1 (some .boolean), Cond.methodLink RX1 55 yX0_mixLast, Cond.instanceMethod yX0_mixLast, Cond.selects RX0 yX0_mixLast yX0_mixLast, Cond.code yX0_mixLast cX0_mixLast 1 none, Cond.methodLink RL 44 yX2_finish, Cond.instanceMethod yX2_finish, Cond.selects RX2 yX2_finish yX2_finish, Cond.code yX2_finish cX2_finish 2 (some .boolean), Cond.methodLink RL 45 yX1_out, Cond.instanceMethod yX1_out, Cond.selects RX1 yX1_out yX1_out, Cond.code yX1_out cX1_out 2 (some .int), Cond.methodLink RX1 58 yX0_stateByte, Cond.instanceMethod yX0_stateByte]
def wsL_law_r9 : List Cond := [Cond.selects RX0 yX0_stateByte yX0_stateByte, Cond.code yX0_stateByte cX0_stateByte 2 (some .int), Cond.methodLink RL 49 yX2_out, Cond.instanceMethod yX2_out, Cond.selects RX2 yX2_out yX2_out, Cond.code yX2_out cX2_out 2 (some .int), Cond.methodLink RL 50 yX1_length, Cond.instanceMethod yX1_length, Cond.selects RX1 yX1_length yX1_length, Cond.code yX1_length cX1_length 1 (some .int), Cond.methodLink RX1 62 yX1_hasMessage, Cond.instanceMethod yX1_hasMessage, Cond.selects RX1 yX1_hasMessage yX1_hasMessage, Cond.code yX1_hasMessage cX1_hasMessage 1 (some .boolean), Cond.methodLink RL 54 yX2_length, Cond.instanceMethod yX2_length, Cond.selects RX2 yX2_length yX2_length, Cond.code yX2_length cX2_length 1 (some .int), Cond.methodLink RL 55 yX1_word, Cond.instanceMethod yX1_word, Cond.selects RX1 yX1_word yX1_word, Cond.code yX1_word cX1_word 2 (some .int), Cond.methodLink RX1 66 yX0_stateWord, Cond.instanceMethod yX0_stateWord]
def wsL_law_r10 : List Cond := [Cond.selects RX0 yX0_stateWord yX0_stateWord, Cond.code yX0_stateWord cX0_stateWord 2 (some .int), Cond.methodLink RL 58 yX2_word, Cond.instanceMethod yX2_word, Cond.selects RX2 yX2_word yX2_word, Cond.code yX2_word cX2_word 2 (some .int)]
def wsL_law : List Cond := (wsL_law_r1 ++ (wsL_law_r2 ++ (wsL_law_r3 ++ (wsL_law_r4 ++ (wsL_law_r5 ++ (wsL_law_r6 ++ (wsL_law_r7 ++ (wsL_law_r8 ++ (wsL_law_r9 ++ wsL_law_r10))))))))) ++ wsX10 ++ wsX20 ++ wsX00 ++ ([] : List Cond)
theorem kd_sub {big : List Cond} (ws : List Cond) (ps : List Nat) (hp : ps.filterMap (fun i => big[i]?) = ws) : ∀ w ∈ ws, w ∈ big := by
  intro w hw
  rw [← hp] at hw
  obtain ⟨i, -, hi⟩ := List.mem_filterMap.mp hw
  exact List.mem_of_getElem? hi
set_option maxRecDepth 100000 in
set_option maxHeartbeats 4000000 in
theorem wsL_law_r1_in : ∀ w ∈ wsL_law_r1, w ∈ lw_tbl := kd_sub _ [15, 16, 11, 170, 171, 13, 17, 18, 19, 20, 21, 22, 45, 46, 23, 24, 12, 47, 48, 49, 50, 25, 26, 27] rfl
set_option maxRecDepth 100000 in
set_option maxHeartbeats 4000000 in
theorem wsL_law_r2_in : ∀ w ∈ wsL_law_r2, w ∈ lw_tbl := kd_sub _ [28, 29, 30, 31, 32, 33, 172, 173, 174, 175, 179, 180, 181, 182, 183, 188, 176, 62, 63, 64, 65, 216, 217, 218] rfl
set_option maxRecDepth 100000 in
set_option maxHeartbeats 4000000 in
theorem wsL_law_r3_in : ∀ w ∈ wsL_law_r3, w ∈ lw_tbl := kd_sub _ [219, 177, 178, 66, 67, 68, 69, 70, 71, 72, 220, 221, 222, 223, 73, 74, 75, 76, 77, 78, 79, 80, 81, 83] rfl
set_option maxRecDepth 100000 in
set_option maxHeartbeats 4000000 in
theorem wsL_law_r4_in : ∀ w ∈ wsL_law_r4, w ∈ lw_tbl := kd_sub _ [84, 86, 0, 87, 88, 89, 90, 91, 113, 92, 93, 94, 95, 96, 98, 1, 99, 100, 102, 2, 103, 104, 106, 108] rfl
set_option maxRecDepth 100000 in
set_option maxHeartbeats 4000000 in
theorem wsL_law_r5_in : ∀ w ∈ wsL_law_r5, w ∈ lw_tbl := kd_sub _ [3, 109, 110, 111, 112, 224, 225, 226, 227, 239, 187, 184, 185, 186, 228, 229, 230, 231, 232, 233, 234, 235, 236, 237] rfl
set_option maxRecDepth 100000 in
set_option maxHeartbeats 4000000 in
theorem wsL_law_r6_in : ∀ w ∈ wsL_law_r6, w ∈ lw_tbl := kd_sub _ [238, 240, 242, 7, 243, 244, 245, 247, 8, 248, 249, 251, 9, 252, 253, 254, 255, 114, 115, 116, 117, 118, 120, 4] rfl
set_option maxRecDepth 100000 in
set_option maxHeartbeats 4000000 in
theorem wsL_law_r7_in : ∀ w ∈ wsL_law_r7, w ∈ lw_tbl := kd_sub _ [121, 122, 256, 257, 258, 259, 123, 124, 125, 126, 127, 128, 14, 129, 130, 132, 5, 133, 260, 261, 262, 263, 134, 135] rfl
set_option maxRecDepth 100000 in
set_option maxHeartbeats 4000000 in
theorem wsL_law_r8_in : ∀ w ∈ wsL_law_r8, w ∈ lw_tbl := kd_sub _ [136, 137, 264, 265, 266, 267, 138, 139, 140, 141, 142, 143, 144, 145, 268, 269, 270, 271, 146, 147, 148, 149, 150, 151] rfl
set_option maxRecDepth 100000 in
set_option maxHeartbeats 4000000 in
theorem wsL_law_r9_in : ∀ w ∈ wsL_law_r9, w ∈ lw_tbl := kd_sub _ [152, 153, 272, 273, 274, 275, 154, 155, 156, 157, 158, 160, 6, 161, 276, 277, 278, 279, 162, 163, 164, 165, 166, 167] rfl
set_option maxRecDepth 100000 in
set_option maxHeartbeats 4000000 in
theorem wsL_law_r10_in : ∀ w ∈ wsL_law_r10, w ∈ lw_tbl := kd_sub _ [168, 169, 280, 281, 282, 283] rfl
set_option maxRecDepth 100000 in
set_option maxHeartbeats 4000000 in
theorem wsX00_in : ∀ w ∈ wsX00, w ∈ lw_tbl := kd_sub _ [34, 36, 38, 40, 42] rfl
set_option maxRecDepth 100000 in
set_option maxHeartbeats 4000000 in
theorem wsX10_in : ∀ w ∈ wsX10, w ∈ lw_tbl := kd_sub _ [51, 53, 55, 57, 59] rfl
set_option maxRecDepth 100000 in
set_option maxHeartbeats 4000000 in
theorem wsX20_in : ∀ w ∈ wsX20, w ∈ lw_tbl := kd_sub _ [189, 191, 193, 195, 197, 199, 201, 203, 205, 207, 209, 211, 213] rfl
theorem kd_app {a b big : List Cond} (ha : ∀ w ∈ a, w ∈ big) (hb : ∀ w ∈ b, w ∈ big) : ∀ w ∈ a ++ b, w ∈ big := fun w h => (List.mem_append.mp h).elim (ha w) (hb w)
theorem wsL_law_in : ∀ w ∈ wsL_law, w ∈ lw_tbl := kd_app (kd_app (kd_app (kd_app (kd_app wsL_law_r1_in (kd_app wsL_law_r2_in (kd_app wsL_law_r3_in (kd_app wsL_law_r4_in (kd_app wsL_law_r5_in (kd_app wsL_law_r6_in (kd_app wsL_law_r7_in (kd_app wsL_law_r8_in (kd_app wsL_law_r9_in wsL_law_r10_in))))))))) wsX10_in) wsX20_in) wsX00_in) (fun _ h => absurd h List.not_mem_nil)
theorem inlX0 : ∀ w ∈ wsX00, w ∈ wsL_law := fun _ h => List.mem_append_left _ (List.mem_append_right _ h)
theorem inX0 : ∀ w ∈ wsX00, w ∈ lw_tbl := fun w h => wsL_law_in w (inlX0 w h)
theorem inlX1 : ∀ w ∈ wsX10, w ∈ wsL_law := fun _ h => List.mem_append_left _ (List.mem_append_left _ (List.mem_append_left _ (List.mem_append_right _ h)))
theorem inX1 : ∀ w ∈ wsX10, w ∈ lw_tbl := fun w h => wsL_law_in w (inlX1 w h)
theorem inlX2 : ∀ w ∈ wsX20, w ∈ wsL_law := fun _ h => List.mem_append_left _ (List.mem_append_left _ (List.mem_append_right _ h))
theorem inX2 : ∀ w ∈ wsX20, w ∈ lw_tbl := fun w h => wsL_law_in w (inlX2 w h)
theorem inJ9 : ∀ w ∈ wsJ90, w ∈ lw_tbl := by decide +kernel
