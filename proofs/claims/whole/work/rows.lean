section
-- ===== PART A: goes FIRST, ahead of the names: the tables' words, and 'selects' of the private methods out of them =====
/-- a private method of a class that the tables say can be made, by its rows of tables_1 -/
def lw_okq (q : MethodName × Nat) : Prop := (q.1.cls ≠ "java/lang/invoke/MethodHandle" ∧ q.1.cls ≠ "java/lang/invoke/VarHandle") ∧ Cond.instantiable q.1.cls q.2 ∈ tables_1 ∧ Cond.privateMethod q.1 ∈ tables_1 ∧ Cond.instanceMethod q.1 ∈ tables_1
theorem lw_p0 : lw_okq (⟨"KeyedDigest$Chain", "emptyBlock", "()V"⟩, 5) := ⟨⟨by decide +kernel, by decide +kernel⟩, List.mem_of_getElem? (i := 14) (by decide +kernel), List.mem_of_getElem? (i := 75) (by decide +kernel), List.mem_of_getElem? (i := 76) (by decide +kernel)⟩
theorem lw_p1 : lw_okq (⟨"KeyedDigest$Chain", "mix", "(I)V"⟩, 5) := ⟨⟨by decide +kernel, by decide +kernel⟩, List.mem_of_getElem? (i := 14) (by decide +kernel), List.mem_of_getElem? (i := 87) (by decide +kernel), List.mem_of_getElem? (i := 88) (by decide +kernel)⟩
theorem lw_p2 : lw_okq (⟨"KeyedDigest$Chain", "mixRound", "(I)V"⟩, 5) := ⟨⟨by decide +kernel, by decide +kernel⟩, List.mem_of_getElem? (i := 14) (by decide +kernel), List.mem_of_getElem? (i := 91) (by decide +kernel), List.mem_of_getElem? (i := 92) (by decide +kernel)⟩
theorem lw_p3 : lw_okq (⟨"KeyedDigest$Chain", "mixFour", "(IIIIII)V"⟩, 5) := ⟨⟨by decide +kernel, by decide +kernel⟩, List.mem_of_getElem? (i := 14) (by decide +kernel), List.mem_of_getElem? (i := 97) (by decide +kernel), List.mem_of_getElem? (i := 98) (by decide +kernel)⟩
theorem lw_p4 : lw_okq (⟨"KeyedDigest", "addToMessage", "(I)V"⟩, 5) := ⟨⟨by decide +kernel, by decide +kernel⟩, List.mem_of_getElem? (i := 6) (by decide +kernel), List.mem_of_getElem? (i := 109) (by decide +kernel), List.mem_of_getElem? (i := 110) (by decide +kernel)⟩
theorem lw_p5 : lw_okq (⟨"KeyedDigest", "addHighestFirst", "(II)V"⟩, 5) := ⟨⟨by decide +kernel, by decide +kernel⟩, List.mem_of_getElem? (i := 6) (by decide +kernel), List.mem_of_getElem? (i := 121) (by decide +kernel), List.mem_of_getElem? (i := 122) (by decide +kernel)⟩
theorem lw_p6 : lw_okq (⟨"KeyedDigest", "hasMessage", "()Z"⟩, 5) := ⟨⟨by decide +kernel, by decide +kernel⟩, List.mem_of_getElem? (i := 6) (by decide +kernel), List.mem_of_getElem? (i := 149) (by decide +kernel), List.mem_of_getElem? (i := 150) (by decide +kernel)⟩
theorem lw_p7 : lw_okq (⟨"KeyedDigestModel", "take", "(I)V"⟩, 13) := ⟨⟨by decide +kernel, by decide +kernel⟩, List.mem_of_getElem? (i := 161) (by decide +kernel), List.mem_of_getElem? (i := 231) (by decide +kernel), List.mem_of_getElem? (i := 232) (by decide +kernel)⟩
theorem lw_p8 : lw_okq (⟨"KeyedDigestModel", "mix", "(JZ)V"⟩, 13) := ⟨⟨by decide +kernel, by decide +kernel⟩, List.mem_of_getElem? (i := 161) (by decide +kernel), List.mem_of_getElem? (i := 236) (by decide +kernel), List.mem_of_getElem? (i := 237) (by decide +kernel)⟩
theorem lw_p9 : lw_okq (⟨"KeyedDigestModel", "g", "(IIIIII)V"⟩, 13) := ⟨⟨by decide +kernel, by decide +kernel⟩, List.mem_of_getElem? (i := 161) (by decide +kernel), List.mem_of_getElem? (i := 240) (by decide +kernel), List.mem_of_getElem? (i := 241) (by decide +kernel)⟩
def lw_privs_1 : List (MethodName × Nat) := [(⟨"KeyedDigest$Chain", "emptyBlock", "()V"⟩, 5), (⟨"KeyedDigest$Chain", "mix", "(I)V"⟩, 5), (⟨"KeyedDigest$Chain", "mixRound", "(I)V"⟩, 5), (⟨"KeyedDigest$Chain", "mixFour", "(IIIIII)V"⟩, 5), (⟨"KeyedDigest", "addToMessage", "(I)V"⟩, 5), (⟨"KeyedDigest", "addHighestFirst", "(II)V"⟩, 5), (⟨"KeyedDigest", "hasMessage", "()Z"⟩, 5), (⟨"KeyedDigestModel", "take", "(I)V"⟩, 13), (⟨"KeyedDigestModel", "mix", "(JZ)V"⟩, 13), (⟨"KeyedDigestModel", "g", "(IIIIII)V"⟩, 13)]
theorem lw_r1 : ∀ q ∈ lw_privs_1, lw_okq q := List.forall_mem_cons.mpr ⟨lw_p0, List.forall_mem_cons.mpr ⟨lw_p1, List.forall_mem_cons.mpr ⟨lw_p2, List.forall_mem_cons.mpr ⟨lw_p3, List.forall_mem_cons.mpr ⟨lw_p4, List.forall_mem_cons.mpr ⟨lw_p5, List.forall_mem_cons.mpr ⟨lw_p6, List.forall_mem_cons.mpr ⟨lw_p7, List.forall_mem_cons.mpr ⟨lw_p8, List.forall_mem_cons.mpr ⟨lw_p9, fun _ h => absurd h List.not_mem_nil⟩⟩⟩⟩⟩⟩⟩⟩⟩⟩
def lw_privs : List (MethodName × Nat) := lw_privs_1
def lw_tbl : List Cond := k2_sels lw_privs ++ tables_1
theorem lw_privs_ok : ∀ q ∈ lw_privs, lw_okq q := lw_r1
end
section
/-! ===== BEGIN words of one list among another's, by their places ===== -/
theorem goodIn_r {big : List Cond} (ws : List Cond) (ps : List Nat) (hp : ws = ps.filterMap (fun i => big[i]?)) (h : ws.all goodWord = true) : GoodIn big ws := by
  intro w hw
  have h1 := List.all_eq_true.mp h w hw
  rw [hp] at hw
  obtain ⟨i, -, hi⟩ := List.mem_filterMap.mp hw
  have hm : w ∈ big := by first | exact List.mem_of_getElem? hi | exact List.getElem?_mem hi
  exact ⟨hm, good_of_word h1⟩
theorem goodIn_app {big a b : List Cond} (ha : GoodIn big a) (hb : GoodIn big b) : GoodIn big (a ++ b) := fun w h => (List.mem_append.mp h).elim (ha w) (hb w)
theorem goodIn_ca {big a b : List Cond} {c : Cond} (ha : GoodIn big (c :: a)) (hb : GoodIn big b) : GoodIn big (c :: (a ++ b)) := fun w h => (List.mem_cons.mp h).elim (fun e => ha w (List.mem_cons.mpr (Or.inl e))) (fun h => (List.mem_append.mp h).elim (fun h => ha w (List.mem_cons.mpr (Or.inr h))) (hb w))
theorem goodIn_sub {big ws : List Cond} (hm : ∀ w ∈ ws, w ∈ big) (h : ws.all goodWord = true) : GoodIn big ws := fun w hw => ⟨hm w hw, good_of_word (List.all_eq_true.mp h w hw)⟩
/-! ===== END ===== -/

/-! ===== BEGIN printed: names, fields, word lists, decode rows ===== -/
def RX0 : String := "KeyedDigest$Chain"
def TX0 : u_T := fun k => match k with
  | 0 => ("KeyedDigest$Chain", "h", "[I", true)
  | 1 => ("KeyedDigest$Chain", "m", "[I", true)
  | 2 => ("KeyedDigest$Chain", "v", "[I", true)
  | 3 => ("KeyedDigest$Chain", "blockBytes", "I", false)
  | _ => ("KeyedDigest$Chain", "allBytes", "J", false)
def tyX0 : Nat → FieldType := fun k => match k with
  | 0 => .array .int
  | 1 => .array .int
  | 2 => .array .int
  | 3 => .int
  | _ => .long
abbrev wsX00 : List Cond := u_ws RX0 TX0 5
theorem nmX0 : ∀ a, a < 5 → ∀ b, b < 5 → a ≠ b → (TX0 a).2.1 ≠ (TX0 b).2.1 := by decide +kernel
theorem tyX0_ok : ∀ k, k < 5 → parseFieldDescriptor (TX0 k).2.2.1 = some (tyX0 k) := by decide +kernel
abbrev cX0_init : ByteArray := prog_2_method_1_code
def yX0_init : MethodName := ⟨RX0, "<init>", "()V"⟩
abbrev cX0_begin : ByteArray := prog_2_method_2_code
def yX0_begin : MethodName := ⟨RX0, "begin", "(II)V"⟩
abbrev cX0_addKey : ByteArray := prog_2_method_3_code
def yX0_addKey : MethodName := ⟨RX0, "addKey", "([II)V"⟩
abbrev cX0_addByte : ByteArray := prog_2_method_4_code
def yX0_addByte : MethodName := ⟨RX0, "addByte", "(I)V"⟩
abbrev cX0_mixLast : ByteArray := prog_2_method_5_code
def yX0_mixLast : MethodName := ⟨RX0, "mixLast", "()V"⟩
abbrev cX0_stateWord : ByteArray := prog_2_method_6_code
def yX0_stateWord : MethodName := ⟨RX0, "stateWord", "(I)I"⟩
abbrev cX0_stateByte : ByteArray := prog_2_method_7_code
def yX0_stateByte : MethodName := ⟨RX0, "stateByte", "(I)I"⟩
abbrev cX0_emptyBlock : ByteArray := prog_2_method_8_code
def yX0_emptyBlock : MethodName := ⟨RX0, "emptyBlock", "()V"⟩
abbrev cX0_mix : ByteArray := prog_2_method_9_code
def yX0_mix : MethodName := ⟨RX0, "mix", "(I)V"⟩
abbrev cX0_mixRound : ByteArray := prog_2_method_10_code
def yX0_mixRound : MethodName := ⟨RX0, "mixRound", "(I)V"⟩
abbrev cX0_mixFour : ByteArray := prog_2_method_11_code
def yX0_mixFour : MethodName := ⟨RX0, "mixFour", "(IIIIII)V"⟩
abbrev cX0_turnDown : ByteArray := prog_2_method_12_code
def yX0_turnDown : MethodName := ⟨RX0, "turnDown", "(II)I"⟩
def RX1 : String := "KeyedDigest"
def TX1 : u_T := fun k => match k with
  | 0 => ("KeyedDigest", "key", "[I", true)
  | 1 => ("KeyedDigest", "chain", "LKeyedDigest$Chain;", true)
  | 2 => ("KeyedDigest", "state", "I", false)
  | 3 => ("KeyedDigest", "digestBytes", "I", false)
  | _ => ("KeyedDigest", "messageBytes", "I", false)
def tyX1 : Nat → FieldType := fun k => match k with
  | 0 => .array .int
  | 1 => .object "KeyedDigest$Chain"
  | 2 => .int
  | 3 => .int
  | _ => .int
abbrev wsX10 : List Cond := u_ws RX1 TX1 5
theorem nmX1 : ∀ a, a < 5 → ∀ b, b < 5 → a ≠ b → (TX1 a).2.1 ≠ (TX1 b).2.1 := by decide +kernel
theorem tyX1_ok : ∀ k, k < 5 → parseFieldDescriptor (TX1 k).2.2.1 = some (tyX1 k) := by decide +kernel
abbrev cX1_init : ByteArray := prog_1_method_1_code
def yX1_init : MethodName := ⟨RX1, "<init>", "()V"⟩
abbrev cX1_init_ : ByteArray := prog_1_method_2_code
def yX1_init_ : MethodName := ⟨RX1, "init", "()V"⟩
abbrev cX1_setKeyByte : ByteArray := prog_1_method_3_code
def yX1_setKeyByte : MethodName := ⟨RX1, "setKeyByte", "(II)Z"⟩
abbrev cX1_start : ByteArray := prog_1_method_4_code
def yX1_start : MethodName := ⟨RX1, "start", "(II)Z"⟩
abbrev cX1_update : ByteArray := prog_1_method_5_code
def yX1_update : MethodName := ⟨RX1, "update", "(I)Z"⟩
abbrev cX1_updates : ByteArray := prog_1_method_6_code
def yX1_updates : MethodName := ⟨RX1, "updates", "(IIIII)Z"⟩
abbrev cX1_fill : ByteArray := prog_1_method_7_code
def yX1_fill : MethodName := ⟨RX1, "fill", "(II)Z"⟩
abbrev cX1_finish : ByteArray := prog_1_method_8_code
def yX1_finish : MethodName := ⟨RX1, "finish", "()Z"⟩
abbrev cX1_out : ByteArray := prog_1_method_9_code
def yX1_out : MethodName := ⟨RX1, "out", "(I)I"⟩
abbrev cX1_length : ByteArray := prog_1_method_10_code
def yX1_length : MethodName := ⟨RX1, "length", "()I"⟩
abbrev cX1_word : ByteArray := prog_1_method_11_code
def yX1_word : MethodName := ⟨RX1, "word", "(I)I"⟩
abbrev cX1_hasMessage : ByteArray := prog_1_method_12_code
def yX1_hasMessage : MethodName := ⟨RX1, "hasMessage", "()Z"⟩
abbrev cX1_addToMessage : ByteArray := prog_1_method_13_code
def yX1_addToMessage : MethodName := ⟨RX1, "addToMessage", "(I)V"⟩
abbrev cX1_addHighestFirst : ByteArray := prog_1_method_14_code
def yX1_addHighestFirst : MethodName := ⟨RX1, "addHighestFirst", "(II)V"⟩
abbrev cX1_isByte : ByteArray := prog_1_method_15_code
def yX1_isByte : MethodName := ⟨RX1, "isByte", "(I)Z"⟩
def RX2 : String := "KeyedDigestModel"
def TX2 : u_T := fun k => match k with
  | 0 => ("KeyedDigestModel", "ready", "Z", false)
  | 1 => ("KeyedDigestModel", "isOpen", "Z", false)
  | 2 => ("KeyedDigestModel", "isDone", "Z", false)
  | 3 => ("KeyedDigestModel", "key", "[I", true)
  | 4 => ("KeyedDigestModel", "h", "[I", true)
  | 5 => ("KeyedDigestModel", "v", "[I", true)
  | 6 => ("KeyedDigestModel", "m", "[I", true)
  | 7 => ("KeyedDigestModel", "block", "[I", true)
  | 8 => ("KeyedDigestModel", "filled", "I", false)
  | 9 => ("KeyedDigestModel", "mixed", "J", false)
  | 10 => ("KeyedDigestModel", "came", "I", false)
  | 11 => ("KeyedDigestModel", "size", "I", false)
  | _ => ("KeyedDigestModel", "rows", "[I", true)
def tyX2 : Nat → FieldType := fun k => match k with
  | 0 => .boolean
  | 1 => .boolean
  | 2 => .boolean
  | 3 => .array .int
  | 4 => .array .int
  | 5 => .array .int
  | 6 => .array .int
  | 7 => .array .int
  | 8 => .int
  | 9 => .long
  | 10 => .int
  | 11 => .int
  | _ => .array .int
abbrev wsX20 : List Cond := u_ws RX2 TX2 13
theorem nmX2 : ∀ a, a < 13 → ∀ b, b < 13 → a ≠ b → (TX2 a).2.1 ≠ (TX2 b).2.1 := by decide +kernel
theorem tyX2_ok : ∀ k, k < 13 → parseFieldDescriptor (TX2 k).2.2.1 = some (tyX2 k) := by decide +kernel
abbrev cX2_init : ByteArray := prog_4_method_1_code
def yX2_init : MethodName := ⟨RX2, "<init>", "()V"⟩
abbrev cX2_init_ : ByteArray := prog_4_method_3_code
def yX2_init_ : MethodName := ⟨RX2, "init", "()V"⟩
abbrev cX2_setKeyByte : ByteArray := prog_4_method_4_code
def yX2_setKeyByte : MethodName := ⟨RX2, "setKeyByte", "(II)Z"⟩
abbrev cX2_first : ByteArray := prog_4_method_5_code
def yX2_first : MethodName := ⟨RX2, "first", "(I)I"⟩
abbrev cX2_start : ByteArray := prog_4_method_6_code
def yX2_start : MethodName := ⟨RX2, "start", "(II)Z"⟩
abbrev cX2_take : ByteArray := prog_4_method_7_code
def yX2_take : MethodName := ⟨RX2, "take", "(I)V"⟩
abbrev cX2_down : ByteArray := prog_4_method_8_code
def yX2_down : MethodName := ⟨RX2, "down", "(II)I"⟩
abbrev cX2_g : ByteArray := prog_4_method_9_code
def yX2_g : MethodName := ⟨RX2, "g", "(IIIIII)V"⟩
abbrev cX2_mix : ByteArray := prog_4_method_10_code
def yX2_mix : MethodName := ⟨RX2, "mix", "(JZ)V"⟩
abbrev cX2_update : ByteArray := prog_4_method_11_code
def yX2_update : MethodName := ⟨RX2, "update", "(I)Z"⟩
abbrev cX2_updates : ByteArray := prog_4_method_12_code
def yX2_updates : MethodName := ⟨RX2, "updates", "(IIIII)Z"⟩
abbrev cX2_fill : ByteArray := prog_4_method_13_code
def yX2_fill : MethodName := ⟨RX2, "fill", "(II)Z"⟩
abbrev cX2_finish : ByteArray := prog_4_method_14_code
def yX2_finish : MethodName := ⟨RX2, "finish", "()Z"⟩
abbrev cX2_out : ByteArray := prog_4_method_15_code
def yX2_out : MethodName := ⟨RX2, "out", "(I)I"⟩
abbrev cX2_length : ByteArray := prog_4_method_16_code
def yX2_length : MethodName := ⟨RX2, "length", "()I"⟩
abbrev cX2_word : ByteArray := prog_4_method_17_code
def yX2_word : MethodName := ⟨RX2, "word", "(I)I"⟩
def RJ9 : String := "java/lang/Math"
def TJ9 : u_T := fun k => match k with
  | _ => ("", "", "", false)
def tyJ9 : Nat → FieldType := fun k => match k with
  | _ => .int
abbrev wsJ90 : List Cond := u_ws RJ9 TJ9 0
theorem nmJ9 : ∀ a, a < 0 → ∀ b, b < 0 → a ≠ b → (TJ9 a).2.1 ≠ (TJ9 b).2.1 := by decide +kernel
theorem tyJ9_ok : ∀ k, k < 0 → parseFieldDescriptor (TJ9 k).2.2.1 = some (tyJ9 k) := by decide +kernel
abbrev cJ9_min_7cf53 : ByteArray := prog_5_method_69_code
def yJ9_min_7cf53 : MethodName := ⟨RJ9, "min", "(II)I"⟩
def RL : String := "KeyedDigestLaw"
abbrev cL_law : ByteArray := code
def yL_law : MethodName := ⟨RL, "law", "([I)Z"⟩
def wsX0_init : List Cond := .code yX0_init cX0_init 1 none :: ([.methodLink RX0 1 objectInit, .instanceMethod objectInit, .code objectInit ⟨#[0xb1]⟩ 1 none, .arrayClass .int, .fieldLink RX0 9 "KeyedDigest$Chain" "h" "[I", .fieldLink RX0 13 "KeyedDigest$Chain" "m" "[I", .fieldLink RX0 16 "KeyedDigest$Chain" "v" "[I", .fieldLink RX0 19 "KeyedDigest$Chain" "blockBytes" "I", .fieldLink RX0 23 "KeyedDigest$Chain" "allBytes" "J"] ++ wsX00)
def wsX0_emptyBlock : List Cond := .code yX0_emptyBlock cX0_emptyBlock 2 none :: ([.fieldLink RX0 13 "KeyedDigest$Chain" "m" "[I", .fieldLink RX0 19 "KeyedDigest$Chain" "blockBytes" "I"] ++ wsX00)
def wsX0_begin : List Cond := .code yX0_begin cX0_begin 4 none :: ([.fieldLink RX0 9 "KeyedDigest$Chain" "h" "[I", .fieldLink RX0 27 "KeyedDigest$Chain" "IV" "[I", .constant RX0 30 (16842752), .fieldLink RX0 23 "KeyedDigest$Chain" "allBytes" "J", .methodLink RX0 31 yX0_emptyBlock, .instanceMethod yX0_emptyBlock, .selects RX0 yX0_emptyBlock yX0_emptyBlock, .initialized RX0, .code yX0_emptyBlock cX0_emptyBlock 2 none, .fieldLink RX0 13 "KeyedDigest$Chain" "m" "[I", .fieldLink RX0 19 "KeyedDigest$Chain" "blockBytes" "I"] ++ wsX00)
def wsX0_turnDown : List Cond := .code yX0_turnDown cX0_turnDown 2 (some .int) :: ([])
def wsX0_mixFour : List Cond := .code yX0_mixFour cX0_mixFour 7 none :: ([.fieldLink RX0 16 "KeyedDigest$Chain" "v" "[I", .fieldLink RX0 13 "KeyedDigest$Chain" "m" "[I", .methodLink RX0 53 yX0_turnDown, .static yX0_turnDown, .initialized RX0, .code yX0_turnDown cX0_turnDown 2 (some .int)] ++ wsX00)
def wsX0_mixRound : List Cond := .code yX0_mixRound cX0_mixRound 2 none :: ([.fieldLink RX0 46 "KeyedDigest$Chain" "PLACES" "[I", .methodLink RX0 49 yX0_mixFour, .instanceMethod yX0_mixFour, .selects RX0 yX0_mixFour yX0_mixFour, .initialized RX0, .code yX0_mixFour cX0_mixFour 7 none, .fieldLink RX0 16 "KeyedDigest$Chain" "v" "[I", .fieldLink RX0 13 "KeyedDigest$Chain" "m" "[I", .methodLink RX0 53 yX0_turnDown, .static yX0_turnDown, .code yX0_turnDown cX0_turnDown 2 (some .int)] ++ wsX00)
def wsX0_mix : List Cond := .code yX0_mix cX0_mix 3 none :: ([.fieldLink RX0 16 "KeyedDigest$Chain" "v" "[I", .fieldLink RX0 9 "KeyedDigest$Chain" "h" "[I", .fieldLink RX0 27 "KeyedDigest$Chain" "IV" "[I", .fieldLink RX0 23 "KeyedDigest$Chain" "allBytes" "J", .methodLink RX0 43 yX0_mixRound, .instanceMethod yX0_mixRound, .selects RX0 yX0_mixRound yX0_mixRound, .initialized RX0, .code yX0_mixRound cX0_mixRound 2 none, .fieldLink RX0 46 "KeyedDigest$Chain" "PLACES" "[I", .methodLink RX0 49 yX0_mixFour, .instanceMethod yX0_mixFour, .selects RX0 yX0_mixFour yX0_mixFour, .code yX0_mixFour cX0_mixFour 7 none, .fieldLink RX0 13 "KeyedDigest$Chain" "m" "[I", .methodLink RX0 53 yX0_turnDown, .static yX0_turnDown, .code yX0_turnDown cX0_turnDown 2 (some .int)] ++ wsX00)
def wsX0_addByte_r1 : List Cond := [Cond.fieldLink RX0 19 "KeyedDigest$Chain" "blockBytes" "I", Cond.fieldLink RX0 13 "KeyedDigest$Chain" "m" "[I", Cond.fieldLink RX0 23 "KeyedDigest$Chain" "allBytes" "J", Cond.methodLink RX0 40 yX0_mix, Cond.instanceMethod yX0_mix, Cond.selects RX0 yX0_mix yX0_mix, Cond.initialized RX0, Cond.code yX0_mix cX0_mix 3 none, Cond.fieldLink RX0 16 "KeyedDigest$Chain" "v" "[I", Cond.fieldLink RX0 9 "KeyedDigest$Chain" "h" "[I", Cond.fieldLink RX0 27 "KeyedDigest$Chain" "IV" "[I", Cond.methodLink RX0 43 yX0_mixRound, Cond.instanceMethod yX0_mixRound, Cond.selects RX0 yX0_mixRound yX0_mixRound, Cond.code yX0_mixRound cX0_mixRound 2 none, Cond.fieldLink RX0 46 "KeyedDigest$Chain" "PLACES" "[I", Cond.methodLink RX0 49 yX0_mixFour, Cond.instanceMethod yX0_mixFour, Cond.selects RX0 yX0_mixFour yX0_mixFour, Cond.code yX0_mixFour cX0_mixFour 7 none, Cond.methodLink RX0 53 yX0_turnDown, Cond.static yX0_turnDown, Cond.code yX0_turnDown cX0_turnDown 2 (some .int), Cond.methodLink RX0 31 yX0_emptyBlock]
def wsX0_addByte_r2 : List Cond := [Cond.instanceMethod yX0_emptyBlock, Cond.selects RX0 yX0_emptyBlock yX0_emptyBlock, Cond.code yX0_emptyBlock cX0_emptyBlock 2 none]
def wsX0_addByte : List Cond := .code yX0_addByte cX0_addByte 2 none :: ((wsX0_addByte_r1 ++ wsX0_addByte_r2) ++ wsX00)
def wsX0_addKey_r1 : List Cond := [Cond.fieldLink RX0 19 "KeyedDigest$Chain" "blockBytes" "I", Cond.constantLong RX0 38 (64), Cond.fieldLink RX0 23 "KeyedDigest$Chain" "allBytes" "J", Cond.methodLink RX0 34 yX0_addByte, Cond.instanceMethod yX0_addByte, Cond.selects RX0 yX0_addByte yX0_addByte, Cond.initialized RX0, Cond.code yX0_addByte cX0_addByte 2 none, Cond.fieldLink RX0 13 "KeyedDigest$Chain" "m" "[I", Cond.methodLink RX0 40 yX0_mix, Cond.instanceMethod yX0_mix, Cond.selects RX0 yX0_mix yX0_mix, Cond.code yX0_mix cX0_mix 3 none, Cond.fieldLink RX0 16 "KeyedDigest$Chain" "v" "[I", Cond.fieldLink RX0 9 "KeyedDigest$Chain" "h" "[I", Cond.fieldLink RX0 27 "KeyedDigest$Chain" "IV" "[I", Cond.methodLink RX0 43 yX0_mixRound, Cond.instanceMethod yX0_mixRound, Cond.selects RX0 yX0_mixRound yX0_mixRound, Cond.code yX0_mixRound cX0_mixRound 2 none, Cond.fieldLink RX0 46 "KeyedDigest$Chain" "PLACES" "[I", Cond.methodLink RX0 49 yX0_mixFour, Cond.instanceMethod yX0_mixFour, Cond.selects RX0 yX0_mixFour yX0_mixFour]
def wsX0_addKey_r2 : List Cond := [Cond.code yX0_mixFour cX0_mixFour 7 none, Cond.methodLink RX0 53 yX0_turnDown, Cond.static yX0_turnDown, Cond.code yX0_turnDown cX0_turnDown 2 (some .int), Cond.methodLink RX0 31 yX0_emptyBlock, Cond.instanceMethod yX0_emptyBlock, Cond.selects RX0 yX0_emptyBlock yX0_emptyBlock, Cond.code yX0_emptyBlock cX0_emptyBlock 2 none]
def wsX0_addKey : List Cond := .code yX0_addKey cX0_addKey 4 none :: ((wsX0_addKey_r1 ++ wsX0_addKey_r2) ++ wsX00)
def wsX0_mixLast : List Cond := .code yX0_mixLast cX0_mixLast 1 none :: ([.methodLink RX0 40 yX0_mix, .instanceMethod yX0_mix, .selects RX0 yX0_mix yX0_mix, .initialized RX0, .code yX0_mix cX0_mix 3 none, .fieldLink RX0 16 "KeyedDigest$Chain" "v" "[I", .fieldLink RX0 9 "KeyedDigest$Chain" "h" "[I", .fieldLink RX0 27 "KeyedDigest$Chain" "IV" "[I", .fieldLink RX0 23 "KeyedDigest$Chain" "allBytes" "J", .methodLink RX0 43 yX0_mixRound, .instanceMethod yX0_mixRound, .selects RX0 yX0_mixRound yX0_mixRound, .code yX0_mixRound cX0_mixRound 2 none, .fieldLink RX0 46 "KeyedDigest$Chain" "PLACES" "[I", .methodLink RX0 49 yX0_mixFour, .instanceMethod yX0_mixFour, .selects RX0 yX0_mixFour yX0_mixFour, .code yX0_mixFour cX0_mixFour 7 none, .fieldLink RX0 13 "KeyedDigest$Chain" "m" "[I", .methodLink RX0 53 yX0_turnDown, .static yX0_turnDown, .code yX0_turnDown cX0_turnDown 2 (some .int)] ++ wsX00)
def wsX0_stateWord : List Cond := .code yX0_stateWord cX0_stateWord 2 (some .int) :: ([.fieldLink RX0 9 "KeyedDigest$Chain" "h" "[I"] ++ wsX00)
def wsX0_stateByte : List Cond := .code yX0_stateByte cX0_stateByte 2 (some .int) :: ([.fieldLink RX0 9 "KeyedDigest$Chain" "h" "[I"] ++ wsX00)
def wsX1_init : List Cond := .code yX1_init cX1_init 1 none :: ([.methodLink RX1 1 objectInit, .instanceMethod objectInit, .code objectInit ⟨#[0xb1]⟩ 1 none, .arrayClass .int, .fieldLink RX1 9 "KeyedDigest" "key" "[I", .classLink RX1 13 RX0, .instantiable RX0 5, .initialized RX0, .fieldLink RX1 16 "KeyedDigest" "chain" "LKeyedDigest$Chain;", .fieldLink RX1 20 "KeyedDigest" "state" "I", .fieldLink RX1 24 "KeyedDigest" "digestBytes" "I", .fieldLink RX1 27 "KeyedDigest" "messageBytes" "I", .methodLink RX1 15 yX0_init, .instanceMethod yX0_init, .code yX0_init cX0_init 1 none, .methodLink RX0 1 objectInit, .fieldLink RX0 9 "KeyedDigest$Chain" "h" "[I", .fieldLink RX0 13 "KeyedDigest$Chain" "m" "[I", .fieldLink RX0 16 "KeyedDigest$Chain" "v" "[I", .fieldLink RX0 19 "KeyedDigest$Chain" "blockBytes" "I", .fieldLink RX0 23 "KeyedDigest$Chain" "allBytes" "J"] ++ wsX10 ++ wsX00)
def wsX1_init_ : List Cond := .code yX1_init_ cX1_init_ 2 none :: ([.fieldLink RX1 9 "KeyedDigest" "key" "[I", .fieldLink RX1 20 "KeyedDigest" "state" "I"] ++ wsX10)
def wsX1_isByte : List Cond := .code yX1_isByte cX1_isByte 1 (some .boolean) :: ([])
def wsX1_setKeyByte : List Cond := .code yX1_setKeyByte cX1_setKeyByte 3 (some .boolean) :: ([.fieldLink RX1 20 "KeyedDigest" "state" "I", .fieldLink RX1 9 "KeyedDigest" "key" "[I", .methodLink RX1 30 yX1_isByte, .static yX1_isByte, .initialized RX1, .code yX1_isByte cX1_isByte 1 (some .boolean)] ++ wsX10)
def wsX1_start_r1 : List Cond := [Cond.fieldLink RX1 20 "KeyedDigest" "state" "I", Cond.fieldLink RX1 16 "KeyedDigest" "chain" "LKeyedDigest$Chain;", Cond.fieldLink RX1 9 "KeyedDigest" "key" "[I", Cond.fieldLink RX1 24 "KeyedDigest" "digestBytes" "I", Cond.fieldLink RX1 27 "KeyedDigest" "messageBytes" "I", Cond.methodLink RX1 34 yX0_begin, Cond.instanceMethod yX0_begin, Cond.selects RX0 yX0_begin yX0_begin, Cond.initialized RX0, Cond.code yX0_begin cX0_begin 4 none, Cond.fieldLink RX0 9 "KeyedDigest$Chain" "h" "[I", Cond.fieldLink RX0 27 "KeyedDigest$Chain" "IV" "[I", Cond.constant RX0 30 (16842752), Cond.fieldLink RX0 23 "KeyedDigest$Chain" "allBytes" "J", Cond.methodLink RX0 31 yX0_emptyBlock, Cond.instanceMethod yX0_emptyBlock, Cond.selects RX0 yX0_emptyBlock yX0_emptyBlock, Cond.code yX0_emptyBlock cX0_emptyBlock 2 none, Cond.fieldLink RX0 13 "KeyedDigest$Chain" "m" "[I", Cond.fieldLink RX0 19 "KeyedDigest$Chain" "blockBytes" "I", Cond.methodLink RX1 38 yX0_addKey, Cond.instanceMethod yX0_addKey, Cond.selects RX0 yX0_addKey yX0_addKey, Cond.code yX0_addKey cX0_addKey 4 none]
def wsX1_start_r2 : List Cond := [Cond.constantLong RX0 38 (64), Cond.methodLink RX0 34 yX0_addByte, Cond.instanceMethod yX0_addByte, Cond.selects RX0 yX0_addByte yX0_addByte, Cond.code yX0_addByte cX0_addByte 2 none, Cond.methodLink RX0 40 yX0_mix, Cond.instanceMethod yX0_mix, Cond.selects RX0 yX0_mix yX0_mix, Cond.code yX0_mix cX0_mix 3 none, Cond.fieldLink RX0 16 "KeyedDigest$Chain" "v" "[I", Cond.methodLink RX0 43 yX0_mixRound, Cond.instanceMethod yX0_mixRound, Cond.selects RX0 yX0_mixRound yX0_mixRound, Cond.code yX0_mixRound cX0_mixRound 2 none, Cond.fieldLink RX0 46 "KeyedDigest$Chain" "PLACES" "[I", Cond.methodLink RX0 49 yX0_mixFour, Cond.instanceMethod yX0_mixFour, Cond.selects RX0 yX0_mixFour yX0_mixFour, Cond.code yX0_mixFour cX0_mixFour 7 none, Cond.methodLink RX0 53 yX0_turnDown, Cond.static yX0_turnDown, Cond.code yX0_turnDown cX0_turnDown 2 (some .int)]
def wsX1_start : List Cond := .code yX1_start cX1_start 3 (some .boolean) :: ((wsX1_start_r1 ++ wsX1_start_r2) ++ wsX10 ++ wsX00)
def wsX1_addToMessage_r1 : List Cond := [Cond.fieldLink RX1 16 "KeyedDigest" "chain" "LKeyedDigest$Chain;", Cond.fieldLink RX1 27 "KeyedDigest" "messageBytes" "I", Cond.methodLink RX1 69 yX0_addByte, Cond.instanceMethod yX0_addByte, Cond.selects RX0 yX0_addByte yX0_addByte, Cond.initialized RX0, Cond.code yX0_addByte cX0_addByte 2 none, Cond.fieldLink RX0 19 "KeyedDigest$Chain" "blockBytes" "I", Cond.fieldLink RX0 13 "KeyedDigest$Chain" "m" "[I", Cond.fieldLink RX0 23 "KeyedDigest$Chain" "allBytes" "J", Cond.methodLink RX0 40 yX0_mix, Cond.instanceMethod yX0_mix, Cond.selects RX0 yX0_mix yX0_mix, Cond.code yX0_mix cX0_mix 3 none, Cond.fieldLink RX0 16 "KeyedDigest$Chain" "v" "[I", Cond.fieldLink RX0 9 "KeyedDigest$Chain" "h" "[I", Cond.fieldLink RX0 27 "KeyedDigest$Chain" "IV" "[I", Cond.methodLink RX0 43 yX0_mixRound, Cond.instanceMethod yX0_mixRound, Cond.selects RX0 yX0_mixRound yX0_mixRound, Cond.code yX0_mixRound cX0_mixRound 2 none, Cond.fieldLink RX0 46 "KeyedDigest$Chain" "PLACES" "[I", Cond.methodLink RX0 49 yX0_mixFour, Cond.instanceMethod yX0_mixFour]
def wsX1_addToMessage_r2 : List Cond := [Cond.selects RX0 yX0_mixFour yX0_mixFour, Cond.code yX0_mixFour cX0_mixFour 7 none, Cond.methodLink RX0 53 yX0_turnDown, Cond.static yX0_turnDown, Cond.code yX0_turnDown cX0_turnDown 2 (some .int), Cond.methodLink RX0 31 yX0_emptyBlock, Cond.instanceMethod yX0_emptyBlock, Cond.selects RX0 yX0_emptyBlock yX0_emptyBlock, Cond.code yX0_emptyBlock cX0_emptyBlock 2 none]
def wsX1_addToMessage : List Cond := .code yX1_addToMessage cX1_addToMessage 2 none :: ((wsX1_addToMessage_r1 ++ wsX1_addToMessage_r2) ++ wsX10 ++ wsX00)
def wsX1_update_r1 : List Cond := [Cond.fieldLink RX1 20 "KeyedDigest" "state" "I", Cond.methodLink RX1 30 yX1_isByte, Cond.static yX1_isByte, Cond.initialized RX1, Cond.code yX1_isByte cX1_isByte 1 (some .boolean), Cond.methodLink RX1 42 yX1_addToMessage, Cond.instanceMethod yX1_addToMessage, Cond.selects RX1 yX1_addToMessage yX1_addToMessage, Cond.code yX1_addToMessage cX1_addToMessage 2 none, Cond.fieldLink RX1 16 "KeyedDigest" "chain" "LKeyedDigest$Chain;", Cond.fieldLink RX1 27 "KeyedDigest" "messageBytes" "I", Cond.methodLink RX1 69 yX0_addByte, Cond.instanceMethod yX0_addByte, Cond.selects RX0 yX0_addByte yX0_addByte, Cond.initialized RX0, Cond.code yX0_addByte cX0_addByte 2 none, Cond.fieldLink RX0 19 "KeyedDigest$Chain" "blockBytes" "I", Cond.fieldLink RX0 13 "KeyedDigest$Chain" "m" "[I", Cond.fieldLink RX0 23 "KeyedDigest$Chain" "allBytes" "J", Cond.methodLink RX0 40 yX0_mix, Cond.instanceMethod yX0_mix, Cond.selects RX0 yX0_mix yX0_mix, Cond.code yX0_mix cX0_mix 3 none, Cond.fieldLink RX0 16 "KeyedDigest$Chain" "v" "[I"]
def wsX1_update_r2 : List Cond := [Cond.fieldLink RX0 9 "KeyedDigest$Chain" "h" "[I", Cond.fieldLink RX0 27 "KeyedDigest$Chain" "IV" "[I", Cond.methodLink RX0 43 yX0_mixRound, Cond.instanceMethod yX0_mixRound, Cond.selects RX0 yX0_mixRound yX0_mixRound, Cond.code yX0_mixRound cX0_mixRound 2 none, Cond.fieldLink RX0 46 "KeyedDigest$Chain" "PLACES" "[I", Cond.methodLink RX0 49 yX0_mixFour, Cond.instanceMethod yX0_mixFour, Cond.selects RX0 yX0_mixFour yX0_mixFour, Cond.code yX0_mixFour cX0_mixFour 7 none, Cond.methodLink RX0 53 yX0_turnDown, Cond.static yX0_turnDown, Cond.code yX0_turnDown cX0_turnDown 2 (some .int), Cond.methodLink RX0 31 yX0_emptyBlock, Cond.instanceMethod yX0_emptyBlock, Cond.selects RX0 yX0_emptyBlock yX0_emptyBlock, Cond.code yX0_emptyBlock cX0_emptyBlock 2 none]
def wsX1_update : List Cond := .code yX1_update cX1_update 2 (some .boolean) :: ((wsX1_update_r1 ++ wsX1_update_r2) ++ wsX10 ++ wsX00)
def wsX1_addHighestFirst_r1 : List Cond := [Cond.methodLink RX1 42 yX1_addToMessage, Cond.instanceMethod yX1_addToMessage, Cond.selects RX1 yX1_addToMessage yX1_addToMessage, Cond.initialized RX1, Cond.code yX1_addToMessage cX1_addToMessage 2 none, Cond.fieldLink RX1 16 "KeyedDigest" "chain" "LKeyedDigest$Chain;", Cond.fieldLink RX1 27 "KeyedDigest" "messageBytes" "I", Cond.methodLink RX1 69 yX0_addByte, Cond.instanceMethod yX0_addByte, Cond.selects RX0 yX0_addByte yX0_addByte, Cond.initialized RX0, Cond.code yX0_addByte cX0_addByte 2 none, Cond.fieldLink RX0 19 "KeyedDigest$Chain" "blockBytes" "I", Cond.fieldLink RX0 13 "KeyedDigest$Chain" "m" "[I", Cond.fieldLink RX0 23 "KeyedDigest$Chain" "allBytes" "J", Cond.methodLink RX0 40 yX0_mix, Cond.instanceMethod yX0_mix, Cond.selects RX0 yX0_mix yX0_mix, Cond.code yX0_mix cX0_mix 3 none, Cond.fieldLink RX0 16 "KeyedDigest$Chain" "v" "[I", Cond.fieldLink RX0 9 "KeyedDigest$Chain" "h" "[I", Cond.fieldLink RX0 27 "KeyedDigest$Chain" "IV" "[I", Cond.methodLink RX0 43 yX0_mixRound, Cond.instanceMethod yX0_mixRound]
def wsX1_addHighestFirst_r2 : List Cond := [Cond.selects RX0 yX0_mixRound yX0_mixRound, Cond.code yX0_mixRound cX0_mixRound 2 none, Cond.fieldLink RX0 46 "KeyedDigest$Chain" "PLACES" "[I", Cond.methodLink RX0 49 yX0_mixFour, Cond.instanceMethod yX0_mixFour, Cond.selects RX0 yX0_mixFour yX0_mixFour, Cond.code yX0_mixFour cX0_mixFour 7 none, Cond.methodLink RX0 53 yX0_turnDown, Cond.static yX0_turnDown, Cond.code yX0_turnDown cX0_turnDown 2 (some .int), Cond.methodLink RX0 31 yX0_emptyBlock, Cond.instanceMethod yX0_emptyBlock, Cond.selects RX0 yX0_emptyBlock yX0_emptyBlock, Cond.code yX0_emptyBlock cX0_emptyBlock 2 none]
def wsX1_addHighestFirst : List Cond := .code yX1_addHighestFirst cX1_addHighestFirst 4 none :: ((wsX1_addHighestFirst_r1 ++ wsX1_addHighestFirst_r2) ++ wsX10 ++ wsX00)
def wsX1_updates_r1 : List Cond := [Cond.fieldLink RX1 20 "KeyedDigest" "state" "I", Cond.methodLink RX1 46 Lib.Math.min.name, Cond.static Lib.Math.min.name, Cond.initialized "java/lang/Math", Cond.code Lib.Math.min.name Lib.Math.min.code 2 (some .int), Cond.methodLink RX1 52 yX1_addHighestFirst, Cond.instanceMethod yX1_addHighestFirst, Cond.selects RX1 yX1_addHighestFirst yX1_addHighestFirst, Cond.initialized RX1, Cond.code yX1_addHighestFirst cX1_addHighestFirst 4 none, Cond.methodLink RX1 42 yX1_addToMessage, Cond.instanceMethod yX1_addToMessage, Cond.selects RX1 yX1_addToMessage yX1_addToMessage, Cond.code yX1_addToMessage cX1_addToMessage 2 none, Cond.fieldLink RX1 16 "KeyedDigest" "chain" "LKeyedDigest$Chain;", Cond.fieldLink RX1 27 "KeyedDigest" "messageBytes" "I", Cond.methodLink RX1 69 yX0_addByte, Cond.instanceMethod yX0_addByte, Cond.selects RX0 yX0_addByte yX0_addByte, Cond.initialized RX0, Cond.code yX0_addByte cX0_addByte 2 none, Cond.fieldLink RX0 19 "KeyedDigest$Chain" "blockBytes" "I", Cond.fieldLink RX0 13 "KeyedDigest$Chain" "m" "[I", Cond.fieldLink RX0 23 "KeyedDigest$Chain" "allBytes" "J"]
def wsX1_updates_r2 : List Cond := [Cond.methodLink RX0 40 yX0_mix, Cond.instanceMethod yX0_mix, Cond.selects RX0 yX0_mix yX0_mix, Cond.code yX0_mix cX0_mix 3 none, Cond.fieldLink RX0 16 "KeyedDigest$Chain" "v" "[I", Cond.fieldLink RX0 9 "KeyedDigest$Chain" "h" "[I", Cond.fieldLink RX0 27 "KeyedDigest$Chain" "IV" "[I", Cond.methodLink RX0 43 yX0_mixRound, Cond.instanceMethod yX0_mixRound, Cond.selects RX0 yX0_mixRound yX0_mixRound, Cond.code yX0_mixRound cX0_mixRound 2 none, Cond.fieldLink RX0 46 "KeyedDigest$Chain" "PLACES" "[I", Cond.methodLink RX0 49 yX0_mixFour, Cond.instanceMethod yX0_mixFour, Cond.selects RX0 yX0_mixFour yX0_mixFour, Cond.code yX0_mixFour cX0_mixFour 7 none, Cond.methodLink RX0 53 yX0_turnDown, Cond.static yX0_turnDown, Cond.code yX0_turnDown cX0_turnDown 2 (some .int), Cond.methodLink RX0 31 yX0_emptyBlock, Cond.instanceMethod yX0_emptyBlock, Cond.selects RX0 yX0_emptyBlock yX0_emptyBlock, Cond.code yX0_emptyBlock cX0_emptyBlock 2 none]
def wsX1_updates : List Cond := .code yX1_updates cX1_updates 6 (some .boolean) :: ((wsX1_updates_r1 ++ wsX1_updates_r2) ++ wsX10 ++ wsX00)
def wsX1_fill_r1 : List Cond := [Cond.fieldLink RX1 20 "KeyedDigest" "state" "I", Cond.methodLink RX1 30 yX1_isByte, Cond.static yX1_isByte, Cond.initialized RX1, Cond.code yX1_isByte cX1_isByte 1 (some .boolean), Cond.methodLink RX1 42 yX1_addToMessage, Cond.instanceMethod yX1_addToMessage, Cond.selects RX1 yX1_addToMessage yX1_addToMessage, Cond.code yX1_addToMessage cX1_addToMessage 2 none, Cond.fieldLink RX1 16 "KeyedDigest" "chain" "LKeyedDigest$Chain;", Cond.fieldLink RX1 27 "KeyedDigest" "messageBytes" "I", Cond.methodLink RX1 69 yX0_addByte, Cond.instanceMethod yX0_addByte, Cond.selects RX0 yX0_addByte yX0_addByte, Cond.initialized RX0, Cond.code yX0_addByte cX0_addByte 2 none, Cond.fieldLink RX0 19 "KeyedDigest$Chain" "blockBytes" "I", Cond.fieldLink RX0 13 "KeyedDigest$Chain" "m" "[I", Cond.fieldLink RX0 23 "KeyedDigest$Chain" "allBytes" "J", Cond.methodLink RX0 40 yX0_mix, Cond.instanceMethod yX0_mix, Cond.selects RX0 yX0_mix yX0_mix, Cond.code yX0_mix cX0_mix 3 none, Cond.fieldLink RX0 16 "KeyedDigest$Chain" "v" "[I"]
def wsX1_fill_r2 : List Cond := [Cond.fieldLink RX0 9 "KeyedDigest$Chain" "h" "[I", Cond.fieldLink RX0 27 "KeyedDigest$Chain" "IV" "[I", Cond.methodLink RX0 43 yX0_mixRound, Cond.instanceMethod yX0_mixRound, Cond.selects RX0 yX0_mixRound yX0_mixRound, Cond.code yX0_mixRound cX0_mixRound 2 none, Cond.fieldLink RX0 46 "KeyedDigest$Chain" "PLACES" "[I", Cond.methodLink RX0 49 yX0_mixFour, Cond.instanceMethod yX0_mixFour, Cond.selects RX0 yX0_mixFour yX0_mixFour, Cond.code yX0_mixFour cX0_mixFour 7 none, Cond.methodLink RX0 53 yX0_turnDown, Cond.static yX0_turnDown, Cond.code yX0_turnDown cX0_turnDown 2 (some .int), Cond.methodLink RX0 31 yX0_emptyBlock, Cond.instanceMethod yX0_emptyBlock, Cond.selects RX0 yX0_emptyBlock yX0_emptyBlock, Cond.code yX0_emptyBlock cX0_emptyBlock 2 none]
def wsX1_fill : List Cond := .code yX1_fill cX1_fill 4 (some .boolean) :: ((wsX1_fill_r1 ++ wsX1_fill_r2) ++ wsX10 ++ wsX00)
def wsX1_finish_r1 : List Cond := [Cond.fieldLink RX1 20 "KeyedDigest" "state" "I", Cond.fieldLink RX1 16 "KeyedDigest" "chain" "LKeyedDigest$Chain;", Cond.methodLink RX1 55 yX0_mixLast, Cond.instanceMethod yX0_mixLast, Cond.selects RX0 yX0_mixLast yX0_mixLast, Cond.initialized RX0, Cond.code yX0_mixLast cX0_mixLast 1 none, Cond.methodLink RX0 40 yX0_mix, Cond.instanceMethod yX0_mix, Cond.selects RX0 yX0_mix yX0_mix, Cond.code yX0_mix cX0_mix 3 none, Cond.fieldLink RX0 16 "KeyedDigest$Chain" "v" "[I", Cond.fieldLink RX0 9 "KeyedDigest$Chain" "h" "[I", Cond.fieldLink RX0 27 "KeyedDigest$Chain" "IV" "[I", Cond.fieldLink RX0 23 "KeyedDigest$Chain" "allBytes" "J", Cond.methodLink RX0 43 yX0_mixRound, Cond.instanceMethod yX0_mixRound, Cond.selects RX0 yX0_mixRound yX0_mixRound, Cond.code yX0_mixRound cX0_mixRound 2 none, Cond.fieldLink RX0 46 "KeyedDigest$Chain" "PLACES" "[I", Cond.methodLink RX0 49 yX0_mixFour, Cond.instanceMethod yX0_mixFour, Cond.selects RX0 yX0_mixFour yX0_mixFour, Cond.code yX0_mixFour cX0_mixFour 7 none]
def wsX1_finish_r2 : List Cond := [Cond.fieldLink RX0 13 "KeyedDigest$Chain" "m" "[I", Cond.methodLink RX0 53 yX0_turnDown, Cond.static yX0_turnDown, Cond.code yX0_turnDown cX0_turnDown 2 (some .int)]
def wsX1_finish : List Cond := .code yX1_finish cX1_finish 1 (some .boolean) :: ((wsX1_finish_r1 ++ wsX1_finish_r2) ++ wsX10 ++ wsX00)
def wsX1_out : List Cond := .code yX1_out cX1_out 2 (some .int) :: ([.fieldLink RX1 20 "KeyedDigest" "state" "I", .fieldLink RX1 24 "KeyedDigest" "digestBytes" "I", .fieldLink RX1 16 "KeyedDigest" "chain" "LKeyedDigest$Chain;", .methodLink RX1 58 yX0_stateByte, .instanceMethod yX0_stateByte, .selects RX0 yX0_stateByte yX0_stateByte, .initialized RX0, .code yX0_stateByte cX0_stateByte 2 (some .int), .fieldLink RX0 9 "KeyedDigest$Chain" "h" "[I"] ++ wsX10 ++ wsX00)
def wsX1_hasMessage : List Cond := .code yX1_hasMessage cX1_hasMessage 1 (some .boolean) :: ([.fieldLink RX1 20 "KeyedDigest" "state" "I"] ++ wsX10)
def wsX1_length : List Cond := .code yX1_length cX1_length 1 (some .int) :: ([.fieldLink RX1 27 "KeyedDigest" "messageBytes" "I", .methodLink RX1 62 yX1_hasMessage, .instanceMethod yX1_hasMessage, .selects RX1 yX1_hasMessage yX1_hasMessage, .initialized RX1, .code yX1_hasMessage cX1_hasMessage 1 (some .boolean), .fieldLink RX1 20 "KeyedDigest" "state" "I"] ++ wsX10)
def wsX1_word : List Cond := .code yX1_word cX1_word 2 (some .int) :: ([.fieldLink RX1 16 "KeyedDigest" "chain" "LKeyedDigest$Chain;", .methodLink RX1 62 yX1_hasMessage, .instanceMethod yX1_hasMessage, .selects RX1 yX1_hasMessage yX1_hasMessage, .initialized RX1, .code yX1_hasMessage cX1_hasMessage 1 (some .boolean), .fieldLink RX1 20 "KeyedDigest" "state" "I", .methodLink RX1 66 yX0_stateWord, .instanceMethod yX0_stateWord, .selects RX0 yX0_stateWord yX0_stateWord, .initialized RX0, .code yX0_stateWord cX0_stateWord 2 (some .int), .fieldLink RX0 9 "KeyedDigest$Chain" "h" "[I"] ++ wsX10 ++ wsX00)
def wsX2_init : List Cond := .code yX2_init cX2_init 1 none :: ([.methodLink RX2 1 objectInit, .instanceMethod objectInit, .code objectInit ⟨#[0xb1]⟩ 1 none, .arrayClass .int, .fieldLink RX2 7 "KeyedDigestModel" "key" "[I", .fieldLink RX2 13 "KeyedDigestModel" "h" "[I", .fieldLink RX2 16 "KeyedDigestModel" "v" "[I", .fieldLink RX2 19 "KeyedDigestModel" "m" "[I", .fieldLink RX2 22 "KeyedDigestModel" "block" "[I", .fieldLink RX2 25 "KeyedDigestModel" "rows" "[I", .fieldLink RX2 28 "KeyedDigestModel" "ready" "Z"] ++ wsX20)
def wsX2_init_ : List Cond := .code yX2_init_ cX2_init_ 2 none :: ([.fieldLink RX2 28 "KeyedDigestModel" "ready" "Z", .fieldLink RX2 32 "KeyedDigestModel" "isOpen" "Z", .fieldLink RX2 35 "KeyedDigestModel" "isDone" "Z", .fieldLink RX2 7 "KeyedDigestModel" "key" "[I"] ++ wsX20)
def wsX2_setKeyByte : List Cond := .code yX2_setKeyByte cX2_setKeyByte 4 (some .boolean) :: ([.fieldLink RX2 32 "KeyedDigestModel" "isOpen" "Z", .fieldLink RX2 7 "KeyedDigestModel" "key" "[I"] ++ wsX20)
def wsX2_first : List Cond := .code yX2_first cX2_first 1 (some .int) :: ([.constant RX2 38 (1779033703), .constant RX2 39 (-1150833019), .constant RX2 40 (1013904242), .constant RX2 41 (-1521486534), .constant RX2 42 (1359893119), .constant RX2 43 (-1694144372), .constant RX2 44 (528734635), .constant RX2 45 (1541459225)])
def wsX2_down : List Cond := .code yX2_down cX2_down 2 (some .int) :: ([])
def wsX2_g : List Cond := .code yX2_g cX2_g 7 none :: ([.fieldLink RX2 16 "KeyedDigestModel" "v" "[I", .methodLink RX2 75 yX2_down, .static yX2_down, .initialized RX2, .code yX2_down cX2_down 2 (some .int)] ++ wsX20)
def wsX2_mix : List Cond := .code yX2_mix cX2_mix 5 none :: ([.fieldLink RX2 19 "KeyedDigestModel" "m" "[I", .fieldLink RX2 22 "KeyedDigestModel" "block" "[I", .fieldLink RX2 16 "KeyedDigestModel" "v" "[I", .fieldLink RX2 13 "KeyedDigestModel" "h" "[I", .fieldLink RX2 25 "KeyedDigestModel" "rows" "[I", .methodLink RX2 46 yX2_first, .static yX2_first, .initialized RX2, .code yX2_first cX2_first 1 (some .int), .constant RX2 38 (1779033703), .constant RX2 39 (-1150833019), .constant RX2 40 (1013904242), .constant RX2 41 (-1521486534), .constant RX2 42 (1359893119), .constant RX2 43 (-1694144372), .constant RX2 44 (528734635), .constant RX2 45 (1541459225), .methodLink RX2 79 yX2_g, .instanceMethod yX2_g, .selects RX2 yX2_g yX2_g, .code yX2_g cX2_g 7 none, .methodLink RX2 75 yX2_down, .static yX2_down, .code yX2_down cX2_down 2 (some .int)] ++ wsX20)
def wsX2_take_r1 : List Cond := [Cond.fieldLink RX2 55 "KeyedDigestModel" "filled" "I", Cond.fieldLink RX2 58 "KeyedDigestModel" "mixed" "J", Cond.constantLong RX2 69 (64), Cond.fieldLink RX2 22 "KeyedDigestModel" "block" "[I", Cond.methodLink RX2 71 yX2_mix, Cond.instanceMethod yX2_mix, Cond.selects RX2 yX2_mix yX2_mix, Cond.initialized RX2, Cond.code yX2_mix cX2_mix 5 none, Cond.fieldLink RX2 19 "KeyedDigestModel" "m" "[I", Cond.fieldLink RX2 16 "KeyedDigestModel" "v" "[I", Cond.fieldLink RX2 13 "KeyedDigestModel" "h" "[I", Cond.fieldLink RX2 25 "KeyedDigestModel" "rows" "[I", Cond.methodLink RX2 46 yX2_first, Cond.static yX2_first, Cond.code yX2_first cX2_first 1 (some .int), Cond.constant RX2 38 (1779033703), Cond.constant RX2 39 (-1150833019), Cond.constant RX2 40 (1013904242), Cond.constant RX2 41 (-1521486534), Cond.constant RX2 42 (1359893119), Cond.constant RX2 43 (-1694144372), Cond.constant RX2 44 (528734635), Cond.constant RX2 45 (1541459225)]
def wsX2_take_r2 : List Cond := [Cond.methodLink RX2 79 yX2_g, Cond.instanceMethod yX2_g, Cond.selects RX2 yX2_g yX2_g, Cond.code yX2_g cX2_g 7 none, Cond.methodLink RX2 75 yX2_down, Cond.static yX2_down, Cond.code yX2_down cX2_down 2 (some .int)]
def wsX2_take : List Cond := .code yX2_take cX2_take 2 none :: ((wsX2_take_r1 ++ wsX2_take_r2) ++ wsX20)
def wsX2_start_r1 : List Cond := [Cond.fieldLink RX2 28 "KeyedDigestModel" "ready" "Z", Cond.fieldLink RX2 13 "KeyedDigestModel" "h" "[I", Cond.constant RX2 50 (16842752), Cond.fieldLink RX2 51 "KeyedDigestModel" "size" "I", Cond.fieldLink RX2 55 "KeyedDigestModel" "filled" "I", Cond.fieldLink RX2 58 "KeyedDigestModel" "mixed" "J", Cond.fieldLink RX2 62 "KeyedDigestModel" "came" "I", Cond.fieldLink RX2 32 "KeyedDigestModel" "isOpen" "Z", Cond.fieldLink RX2 35 "KeyedDigestModel" "isDone" "Z", Cond.fieldLink RX2 7 "KeyedDigestModel" "key" "[I", Cond.methodLink RX2 46 yX2_first, Cond.static yX2_first, Cond.initialized RX2, Cond.code yX2_first cX2_first 1 (some .int), Cond.constant RX2 38 (1779033703), Cond.constant RX2 39 (-1150833019), Cond.constant RX2 40 (1013904242), Cond.constant RX2 41 (-1521486534), Cond.constant RX2 42 (1359893119), Cond.constant RX2 43 (-1694144372), Cond.constant RX2 44 (528734635), Cond.constant RX2 45 (1541459225), Cond.methodLink RX2 65 yX2_take, Cond.instanceMethod yX2_take]
def wsX2_start_r2 : List Cond := [Cond.selects RX2 yX2_take yX2_take, Cond.code yX2_take cX2_take 2 none, Cond.constantLong RX2 69 (64), Cond.fieldLink RX2 22 "KeyedDigestModel" "block" "[I", Cond.methodLink RX2 71 yX2_mix, Cond.instanceMethod yX2_mix, Cond.selects RX2 yX2_mix yX2_mix, Cond.code yX2_mix cX2_mix 5 none, Cond.fieldLink RX2 19 "KeyedDigestModel" "m" "[I", Cond.fieldLink RX2 16 "KeyedDigestModel" "v" "[I", Cond.fieldLink RX2 25 "KeyedDigestModel" "rows" "[I", Cond.methodLink RX2 79 yX2_g, Cond.instanceMethod yX2_g, Cond.selects RX2 yX2_g yX2_g, Cond.code yX2_g cX2_g 7 none, Cond.methodLink RX2 75 yX2_down, Cond.static yX2_down, Cond.code yX2_down cX2_down 2 (some .int)]
def wsX2_start : List Cond := .code yX2_start cX2_start 4 (some .boolean) :: ((wsX2_start_r1 ++ wsX2_start_r2) ++ wsX20)
def wsX2_update_r1 : List Cond := [Cond.fieldLink RX2 32 "KeyedDigestModel" "isOpen" "Z", Cond.fieldLink RX2 62 "KeyedDigestModel" "came" "I", Cond.methodLink RX2 65 yX2_take, Cond.instanceMethod yX2_take, Cond.selects RX2 yX2_take yX2_take, Cond.initialized RX2, Cond.code yX2_take cX2_take 2 none, Cond.fieldLink RX2 55 "KeyedDigestModel" "filled" "I", Cond.fieldLink RX2 58 "KeyedDigestModel" "mixed" "J", Cond.constantLong RX2 69 (64), Cond.fieldLink RX2 22 "KeyedDigestModel" "block" "[I", Cond.methodLink RX2 71 yX2_mix, Cond.instanceMethod yX2_mix, Cond.selects RX2 yX2_mix yX2_mix, Cond.code yX2_mix cX2_mix 5 none, Cond.fieldLink RX2 19 "KeyedDigestModel" "m" "[I", Cond.fieldLink RX2 16 "KeyedDigestModel" "v" "[I", Cond.fieldLink RX2 13 "KeyedDigestModel" "h" "[I", Cond.fieldLink RX2 25 "KeyedDigestModel" "rows" "[I", Cond.methodLink RX2 46 yX2_first, Cond.static yX2_first, Cond.code yX2_first cX2_first 1 (some .int), Cond.constant RX2 38 (1779033703), Cond.constant RX2 39 (-1150833019)]
def wsX2_update_r2 : List Cond := [Cond.constant RX2 40 (1013904242), Cond.constant RX2 41 (-1521486534), Cond.constant RX2 42 (1359893119), Cond.constant RX2 43 (-1694144372), Cond.constant RX2 44 (528734635), Cond.constant RX2 45 (1541459225), Cond.methodLink RX2 79 yX2_g, Cond.instanceMethod yX2_g, Cond.selects RX2 yX2_g yX2_g, Cond.code yX2_g cX2_g 7 none, Cond.methodLink RX2 75 yX2_down, Cond.static yX2_down, Cond.code yX2_down cX2_down 2 (some .int)]
def wsX2_update : List Cond := .code yX2_update cX2_update 3 (some .boolean) :: ((wsX2_update_r1 ++ wsX2_update_r2) ++ wsX20)
def wsX2_updates_r1 : List Cond := [Cond.fieldLink RX2 32 "KeyedDigestModel" "isOpen" "Z", Cond.fieldLink RX2 62 "KeyedDigestModel" "came" "I", Cond.methodLink RX2 65 yX2_take, Cond.instanceMethod yX2_take, Cond.selects RX2 yX2_take yX2_take, Cond.initialized RX2, Cond.code yX2_take cX2_take 2 none, Cond.fieldLink RX2 55 "KeyedDigestModel" "filled" "I", Cond.fieldLink RX2 58 "KeyedDigestModel" "mixed" "J", Cond.constantLong RX2 69 (64), Cond.fieldLink RX2 22 "KeyedDigestModel" "block" "[I", Cond.methodLink RX2 71 yX2_mix, Cond.instanceMethod yX2_mix, Cond.selects RX2 yX2_mix yX2_mix, Cond.code yX2_mix cX2_mix 5 none, Cond.fieldLink RX2 19 "KeyedDigestModel" "m" "[I", Cond.fieldLink RX2 16 "KeyedDigestModel" "v" "[I", Cond.fieldLink RX2 13 "KeyedDigestModel" "h" "[I", Cond.fieldLink RX2 25 "KeyedDigestModel" "rows" "[I", Cond.methodLink RX2 46 yX2_first, Cond.static yX2_first, Cond.code yX2_first cX2_first 1 (some .int), Cond.constant RX2 38 (1779033703), Cond.constant RX2 39 (-1150833019)]
def wsX2_updates_r2 : List Cond := [Cond.constant RX2 40 (1013904242), Cond.constant RX2 41 (-1521486534), Cond.constant RX2 42 (1359893119), Cond.constant RX2 43 (-1694144372), Cond.constant RX2 44 (528734635), Cond.constant RX2 45 (1541459225), Cond.methodLink RX2 79 yX2_g, Cond.instanceMethod yX2_g, Cond.selects RX2 yX2_g yX2_g, Cond.code yX2_g cX2_g 7 none, Cond.methodLink RX2 75 yX2_down, Cond.static yX2_down, Cond.code yX2_down cX2_down 2 (some .int)]
def wsX2_updates : List Cond := .code yX2_updates cX2_updates 9 (some .boolean) :: ((wsX2_updates_r1 ++ wsX2_updates_r2) ++ wsX20)
def wsX2_fill_r1 : List Cond := [Cond.fieldLink RX2 32 "KeyedDigestModel" "isOpen" "Z", Cond.fieldLink RX2 62 "KeyedDigestModel" "came" "I", Cond.methodLink RX2 65 yX2_take, Cond.instanceMethod yX2_take, Cond.selects RX2 yX2_take yX2_take, Cond.initialized RX2, Cond.code yX2_take cX2_take 2 none, Cond.fieldLink RX2 55 "KeyedDigestModel" "filled" "I", Cond.fieldLink RX2 58 "KeyedDigestModel" "mixed" "J", Cond.constantLong RX2 69 (64), Cond.fieldLink RX2 22 "KeyedDigestModel" "block" "[I", Cond.methodLink RX2 71 yX2_mix, Cond.instanceMethod yX2_mix, Cond.selects RX2 yX2_mix yX2_mix, Cond.code yX2_mix cX2_mix 5 none, Cond.fieldLink RX2 19 "KeyedDigestModel" "m" "[I", Cond.fieldLink RX2 16 "KeyedDigestModel" "v" "[I", Cond.fieldLink RX2 13 "KeyedDigestModel" "h" "[I", Cond.fieldLink RX2 25 "KeyedDigestModel" "rows" "[I", Cond.methodLink RX2 46 yX2_first, Cond.static yX2_first, Cond.code yX2_first cX2_first 1 (some .int), Cond.constant RX2 38 (1779033703), Cond.constant RX2 39 (-1150833019)]
def wsX2_fill_r2 : List Cond := [Cond.constant RX2 40 (1013904242), Cond.constant RX2 41 (-1521486534), Cond.constant RX2 42 (1359893119), Cond.constant RX2 43 (-1694144372), Cond.constant RX2 44 (528734635), Cond.constant RX2 45 (1541459225), Cond.methodLink RX2 79 yX2_g, Cond.instanceMethod yX2_g, Cond.selects RX2 yX2_g yX2_g, Cond.code yX2_g cX2_g 7 none, Cond.methodLink RX2 75 yX2_down, Cond.static yX2_down, Cond.code yX2_down cX2_down 2 (some .int)]
def wsX2_fill : List Cond := .code yX2_fill cX2_fill 5 (some .boolean) :: ((wsX2_fill_r1 ++ wsX2_fill_r2) ++ wsX20)
def wsX2_finish_r1 : List Cond := [Cond.fieldLink RX2 32 "KeyedDigestModel" "isOpen" "Z", Cond.fieldLink RX2 58 "KeyedDigestModel" "mixed" "J", Cond.fieldLink RX2 55 "KeyedDigestModel" "filled" "I", Cond.fieldLink RX2 22 "KeyedDigestModel" "block" "[I", Cond.fieldLink RX2 35 "KeyedDigestModel" "isDone" "Z", Cond.methodLink RX2 71 yX2_mix, Cond.instanceMethod yX2_mix, Cond.selects RX2 yX2_mix yX2_mix, Cond.initialized RX2, Cond.code yX2_mix cX2_mix 5 none, Cond.fieldLink RX2 19 "KeyedDigestModel" "m" "[I", Cond.fieldLink RX2 16 "KeyedDigestModel" "v" "[I", Cond.fieldLink RX2 13 "KeyedDigestModel" "h" "[I", Cond.fieldLink RX2 25 "KeyedDigestModel" "rows" "[I", Cond.methodLink RX2 46 yX2_first, Cond.static yX2_first, Cond.code yX2_first cX2_first 1 (some .int), Cond.constant RX2 38 (1779033703), Cond.constant RX2 39 (-1150833019), Cond.constant RX2 40 (1013904242), Cond.constant RX2 41 (-1521486534), Cond.constant RX2 42 (1359893119), Cond.constant RX2 43 (-1694144372), Cond.constant RX2 44 (528734635)]
def wsX2_finish_r2 : List Cond := [Cond.constant RX2 45 (1541459225), Cond.methodLink RX2 79 yX2_g, Cond.instanceMethod yX2_g, Cond.selects RX2 yX2_g yX2_g, Cond.code yX2_g cX2_g 7 none, Cond.methodLink RX2 75 yX2_down, Cond.static yX2_down, Cond.code yX2_down cX2_down 2 (some .int)]
def wsX2_finish : List Cond := .code yX2_finish cX2_finish 2 (some .boolean) :: ((wsX2_finish_r1 ++ wsX2_finish_r2) ++ wsX20)
def wsX2_out : List Cond := .code yX2_out cX2_out 2 (some .int) :: ([.fieldLink RX2 35 "KeyedDigestModel" "isDone" "Z", .fieldLink RX2 51 "KeyedDigestModel" "size" "I", .fieldLink RX2 13 "KeyedDigestModel" "h" "[I"] ++ wsX20)
def wsX2_length : List Cond := .code yX2_length cX2_length 1 (some .int) :: ([.fieldLink RX2 32 "KeyedDigestModel" "isOpen" "Z", .fieldLink RX2 35 "KeyedDigestModel" "isDone" "Z", .fieldLink RX2 62 "KeyedDigestModel" "came" "I"] ++ wsX20)
def wsX2_word : List Cond := .code yX2_word cX2_word 2 (some .int) :: ([.fieldLink RX2 32 "KeyedDigestModel" "isOpen" "Z", .fieldLink RX2 35 "KeyedDigestModel" "isDone" "Z", .fieldLink RX2 13 "KeyedDigestModel" "h" "[I"] ++ wsX20)
def wsJ9_min_7cf53 : List Cond := .code yJ9_min_7cf53 cJ9_min_7cf53 2 (some .int) :: ([])
def wsL_law_r1 : List Cond := [Cond.classLink RL 7 RX1, Cond.instantiable RX1 5, Cond.initialized RX1, Cond.classLink RL 10 RX2, Cond.instantiable RX2 13, Cond.initialized RX2, Cond.methodLink RL 9 yX1_init, Cond.instanceMethod yX1_init, Cond.code yX1_init cX1_init 1 none, Cond.methodLink RX1 1 objectInit, Cond.instanceMethod objectInit, Cond.code objectInit ⟨#[0xb1]⟩ 1 none, Cond.arrayClass .int, Cond.fieldLink RX1 9 "KeyedDigest" "key" "[I", Cond.classLink RX1 13 RX0, Cond.instantiable RX0 5, Cond.initialized RX0, Cond.fieldLink RX1 16 "KeyedDigest" "chain" "LKeyedDigest$Chain;", Cond.fieldLink RX1 20 "KeyedDigest" "state" "I", Cond.fieldLink RX1 24 "KeyedDigest" "digestBytes" "I", Cond.fieldLink RX1 27 "KeyedDigest" "messageBytes" "I", Cond.methodLink RX1 15 yX0_init, Cond.instanceMethod yX0_init, Cond.code yX0_init cX0_init 1 none]
def wsL_law_r2 : List Cond := [Cond.methodLink RX0 1 objectInit, Cond.fieldLink RX0 9 "KeyedDigest$Chain" "h" "[I", Cond.fieldLink RX0 13 "KeyedDigest$Chain" "m" "[I", Cond.fieldLink RX0 16 "KeyedDigest$Chain" "v" "[I", Cond.fieldLink RX0 19 "KeyedDigest$Chain" "blockBytes" "I", Cond.fieldLink RX0 23 "KeyedDigest$Chain" "allBytes" "J", Cond.methodLink RL 12 yX2_init, Cond.instanceMethod yX2_init, Cond.code yX2_init cX2_init 1 none, Cond.methodLink RX2 1 objectInit, Cond.fieldLink RX2 7 "KeyedDigestModel" "key" "[I", Cond.fieldLink RX2 13 "KeyedDigestModel" "h" "[I", Cond.fieldLink RX2 16 "KeyedDigestModel" "v" "[I", Cond.fieldLink RX2 19 "KeyedDigestModel" "m" "[I", Cond.fieldLink RX2 22 "KeyedDigestModel" "block" "[I", Cond.fieldLink RX2 25 "KeyedDigestModel" "rows" "[I", Cond.fieldLink RX2 28 "KeyedDigestModel" "ready" "Z", Cond.methodLink RL 13 yX1_init_, Cond.instanceMethod yX1_init_, Cond.selects RX1 yX1_init_ yX1_init_, Cond.code yX1_init_ cX1_init_ 2 none, Cond.methodLink RL 16 yX2_init_, Cond.instanceMethod yX2_init_, Cond.selects RX2 yX2_init_ yX2_init_]
def wsL_law_r3 : List Cond := [Cond.code yX2_init_ cX2_init_ 2 none, Cond.fieldLink RX2 32 "KeyedDigestModel" "isOpen" "Z", Cond.fieldLink RX2 35 "KeyedDigestModel" "isDone" "Z", Cond.methodLink RL 17 yX1_setKeyByte, Cond.instanceMethod yX1_setKeyByte, Cond.selects RX1 yX1_setKeyByte yX1_setKeyByte, Cond.code yX1_setKeyByte cX1_setKeyByte 3 (some .boolean), Cond.methodLink RX1 30 yX1_isByte, Cond.static yX1_isByte, Cond.code yX1_isByte cX1_isByte 1 (some .boolean), Cond.methodLink RL 21 yX2_setKeyByte, Cond.instanceMethod yX2_setKeyByte, Cond.selects RX2 yX2_setKeyByte yX2_setKeyByte, Cond.code yX2_setKeyByte cX2_setKeyByte 4 (some .boolean), Cond.methodLink RL 22 yX1_start, Cond.instanceMethod yX1_start, Cond.selects RX1 yX1_start yX1_start, Cond.code yX1_start cX1_start 3 (some .boolean), Cond.methodLink RX1 34 yX0_begin, Cond.instanceMethod yX0_begin, Cond.selects RX0 yX0_begin yX0_begin, Cond.code yX0_begin cX0_begin 4 none, Cond.fieldLink RX0 27 "KeyedDigest$Chain" "IV" "[I", Cond.constant RX0 30 (16842752)]
def wsL_law_r4 : List Cond := [Cond.methodLink RX0 31 yX0_emptyBlock, Cond.instanceMethod yX0_emptyBlock, Cond.selects RX0 yX0_emptyBlock yX0_emptyBlock, Cond.code yX0_emptyBlock cX0_emptyBlock 2 none, Cond.methodLink RX1 38 yX0_addKey, Cond.instanceMethod yX0_addKey, Cond.selects RX0 yX0_addKey yX0_addKey, Cond.code yX0_addKey cX0_addKey 4 none, Cond.constantLong RX0 38 (64), Cond.methodLink RX0 34 yX0_addByte, Cond.instanceMethod yX0_addByte, Cond.selects RX0 yX0_addByte yX0_addByte, Cond.code yX0_addByte cX0_addByte 2 none, Cond.methodLink RX0 40 yX0_mix, Cond.instanceMethod yX0_mix, Cond.selects RX0 yX0_mix yX0_mix, Cond.code yX0_mix cX0_mix 3 none, Cond.methodLink RX0 43 yX0_mixRound, Cond.instanceMethod yX0_mixRound, Cond.selects RX0 yX0_mixRound yX0_mixRound, Cond.code yX0_mixRound cX0_mixRound 2 none, Cond.fieldLink RX0 46 "KeyedDigest$Chain" "PLACES" "[I", Cond.methodLink RX0 49 yX0_mixFour, Cond.instanceMethod yX0_mixFour]
def wsL_law_r5 : List Cond := [Cond.selects RX0 yX0_mixFour yX0_mixFour, Cond.code yX0_mixFour cX0_mixFour 7 none, Cond.methodLink RX0 53 yX0_turnDown, Cond.static yX0_turnDown, Cond.code yX0_turnDown cX0_turnDown 2 (some .int), Cond.methodLink RL 25 yX2_start, Cond.instanceMethod yX2_start, Cond.selects RX2 yX2_start yX2_start, Cond.code yX2_start cX2_start 4 (some .boolean), Cond.constant RX2 50 (16842752), Cond.fieldLink RX2 51 "KeyedDigestModel" "size" "I", Cond.fieldLink RX2 55 "KeyedDigestModel" "filled" "I", Cond.fieldLink RX2 58 "KeyedDigestModel" "mixed" "J", Cond.fieldLink RX2 62 "KeyedDigestModel" "came" "I", Cond.methodLink RX2 46 yX2_first, Cond.static yX2_first, Cond.code yX2_first cX2_first 1 (some .int), Cond.constant RX2 38 (1779033703), Cond.constant RX2 39 (-1150833019), Cond.constant RX2 40 (1013904242), Cond.constant RX2 41 (-1521486534), Cond.constant RX2 42 (1359893119), Cond.constant RX2 43 (-1694144372), Cond.constant RX2 44 (528734635)]
def wsL_law_r6 : List Cond := [Cond.constant RX2 45 (1541459225), Cond.methodLink RX2 65 yX2_take, Cond.instanceMethod yX2_take, Cond.selects RX2 yX2_take yX2_take, Cond.code yX2_take cX2_take 2 none, Cond.constantLong RX2 69 (64), Cond.methodLink RX2 71 yX2_mix, Cond.instanceMethod yX2_mix, Cond.selects RX2 yX2_mix yX2_mix, Cond.code yX2_mix cX2_mix 5 none, Cond.methodLink RX2 79 yX2_g, Cond.instanceMethod yX2_g, Cond.selects RX2 yX2_g yX2_g, Cond.code yX2_g cX2_g 7 none, Cond.methodLink RX2 75 yX2_down, Cond.static yX2_down, Cond.code yX2_down cX2_down 2 (some .int), Cond.methodLink RL 26 yX1_update, Cond.instanceMethod yX1_update, Cond.selects RX1 yX1_update yX1_update, Cond.code yX1_update cX1_update 2 (some .boolean), Cond.methodLink RX1 42 yX1_addToMessage, Cond.instanceMethod yX1_addToMessage, Cond.selects RX1 yX1_addToMessage yX1_addToMessage]
def wsL_law_r7 : List Cond := [Cond.code yX1_addToMessage cX1_addToMessage 2 none, Cond.methodLink RX1 69 yX0_addByte, Cond.methodLink RL 30 yX2_update, Cond.instanceMethod yX2_update, Cond.selects RX2 yX2_update yX2_update, Cond.code yX2_update cX2_update 3 (some .boolean), Cond.methodLink RL 31 yX1_updates, Cond.instanceMethod yX1_updates, Cond.selects RX1 yX1_updates yX1_updates, Cond.code yX1_updates cX1_updates 6 (some .boolean), Cond.methodLink RX1 46 Lib.Math.min.name, Cond.static Lib.Math.min.name, Cond.initialized "java/lang/Math", Cond.code Lib.Math.min.name Lib.Math.min.code 2 (some .int), Cond.methodLink RX1 52 yX1_addHighestFirst, Cond.instanceMethod yX1_addHighestFirst, Cond.selects RX1 yX1_addHighestFirst yX1_addHighestFirst, Cond.code yX1_addHighestFirst cX1_addHighestFirst 4 none, Cond.methodLink RL 35 yX2_updates, Cond.instanceMethod yX2_updates, Cond.selects RX2 yX2_updates yX2_updates, Cond.code yX2_updates cX2_updates 9 (some .boolean), Cond.methodLink RL 36 yX1_fill, Cond.instanceMethod yX1_fill]
def wsL_law_r8 : List Cond := [Cond.selects RX1 yX1_fill yX1_fill, Cond.code yX1_fill cX1_fill 4 (some .boolean), Cond.methodLink RL 39 yX2_fill, Cond.instanceMethod yX2_fill, Cond.selects RX2 yX2_fill yX2_fill, Cond.code yX2_fill cX2_fill 5 (some .boolean), Cond.methodLink RL 40 yX1_finish, Cond.instanceMethod yX1_finish, Cond.selects RX1 yX1_finish yX1_finish, Cond.code yX1_finish cX1_finish 1 (some .boolean), Cond.methodLink RX1 55 yX0_mixLast, Cond.instanceMethod yX0_mixLast, Cond.selects RX0 yX0_mixLast yX0_mixLast, Cond.code yX0_mixLast cX0_mixLast 1 none, Cond.methodLink RL 44 yX2_finish, Cond.instanceMethod yX2_finish, Cond.selects RX2 yX2_finish yX2_finish, Cond.code yX2_finish cX2_finish 2 (some .boolean), Cond.methodLink RL 45 yX1_out, Cond.instanceMethod yX1_out, Cond.selects RX1 yX1_out yX1_out, Cond.code yX1_out cX1_out 2 (some .int), Cond.methodLink RX1 58 yX0_stateByte, Cond.instanceMethod yX0_stateByte]
def wsL_law_r9 : List Cond := [Cond.selects RX0 yX0_stateByte yX0_stateByte, Cond.code yX0_stateByte cX0_stateByte 2 (some .int), Cond.methodLink RL 49 yX2_out, Cond.instanceMethod yX2_out, Cond.selects RX2 yX2_out yX2_out, Cond.code yX2_out cX2_out 2 (some .int), Cond.methodLink RL 50 yX1_length, Cond.instanceMethod yX1_length, Cond.selects RX1 yX1_length yX1_length, Cond.code yX1_length cX1_length 1 (some .int), Cond.methodLink RX1 62 yX1_hasMessage, Cond.instanceMethod yX1_hasMessage, Cond.selects RX1 yX1_hasMessage yX1_hasMessage, Cond.code yX1_hasMessage cX1_hasMessage 1 (some .boolean), Cond.methodLink RL 54 yX2_length, Cond.instanceMethod yX2_length, Cond.selects RX2 yX2_length yX2_length, Cond.code yX2_length cX2_length 1 (some .int), Cond.methodLink RL 55 yX1_word, Cond.instanceMethod yX1_word, Cond.selects RX1 yX1_word yX1_word, Cond.code yX1_word cX1_word 2 (some .int), Cond.methodLink RX1 66 yX0_stateWord, Cond.instanceMethod yX0_stateWord]
def wsL_law_r10 : List Cond := [Cond.selects RX0 yX0_stateWord yX0_stateWord, Cond.code yX0_stateWord cX0_stateWord 2 (some .int), Cond.methodLink RL 58 yX2_word, Cond.instanceMethod yX2_word, Cond.selects RX2 yX2_word yX2_word, Cond.code yX2_word cX2_word 2 (some .int)]
def wsL_law : List Cond := (wsL_law_r1 ++ (wsL_law_r2 ++ (wsL_law_r3 ++ (wsL_law_r4 ++ (wsL_law_r5 ++ (wsL_law_r6 ++ (wsL_law_r7 ++ (wsL_law_r8 ++ (wsL_law_r9 ++ wsL_law_r10))))))))) ++ wsX10 ++ wsX20 ++ wsX00 ++ ([] : List Cond)
theorem kd_sub {big : List Cond} (ws : List Cond) (ps : List Nat) (hp : ps.filterMap (fun i => big[i]?) = ws) : ∀ w ∈ ws, w ∈ big := by
  intro w hw
  rw [← hp] at hw
  obtain ⟨i, -, hi⟩ := List.mem_filterMap.mp hw
  exact List.mem_of_getElem? hi
set_option maxRecDepth 100000 in
set_option maxHeartbeats 4000000 in
theorem wsL_law_r1_in : ∀ w ∈ wsL_law_r1, w ∈ lw_tbl := kd_sub _ [15, 16, 11, 170, 171, 13, 17, 18, 19, 20, 21, 22, 45, 46, 23, 24, 12, 47, 48, 49, 50, 25, 26, 27] rfl
set_option maxRecDepth 100000 in
set_option maxHeartbeats 4000000 in
theorem wsL_law_r2_in : ∀ w ∈ wsL_law_r2, w ∈ lw_tbl := kd_sub _ [28, 29, 30, 31, 32, 33, 172, 173, 174, 175, 179, 180, 181, 182, 183, 188, 176, 62, 63, 64, 65, 216, 217, 218] rfl
set_option maxRecDepth 100000 in
set_option maxHeartbeats 4000000 in
theorem wsL_law_r3_in : ∀ w ∈ wsL_law_r3, w ∈ lw_tbl := kd_sub _ [219, 177, 178, 66, 67, 68, 69, 70, 71, 72, 220, 221, 222, 223, 73, 74, 75, 76, 77, 78, 79, 80, 81, 83] rfl
set_option maxRecDepth 100000 in
set_option maxHeartbeats 4000000 in
theorem wsL_law_r4_in : ∀ w ∈ wsL_law_r4, w ∈ lw_tbl := kd_sub _ [84, 86, 0, 87, 88, 89, 90, 91, 113, 92, 93, 94, 95, 96, 98, 1, 99, 100, 102, 2, 103, 104, 106, 108] rfl
set_option maxRecDepth 100000 in
set_option maxHeartbeats 4000000 in
theorem wsL_law_r5_in : ∀ w ∈ wsL_law_r5, w ∈ lw_tbl := kd_sub _ [3, 109, 110, 111, 112, 224, 225, 226, 227, 239, 187, 184, 185, 186, 228, 229, 230, 231, 232, 233, 234, 235, 236, 237] rfl
set_option maxRecDepth 100000 in
set_option maxHeartbeats 4000000 in
theorem wsL_law_r6_in : ∀ w ∈ wsL_law_r6, w ∈ lw_tbl := kd_sub _ [238, 240, 242, 7, 243, 244, 245, 247, 8, 248, 249, 251, 9, 252, 253, 254, 255, 114, 115, 116, 117, 118, 120, 4] rfl
set_option maxRecDepth 100000 in
set_option maxHeartbeats 4000000 in
theorem wsL_law_r7_in : ∀ w ∈ wsL_law_r7, w ∈ lw_tbl := kd_sub _ [121, 122, 256, 257, 258, 259, 123, 124, 125, 126, 127, 128, 14, 129, 130, 132, 5, 133, 260, 261, 262, 263, 134, 135] rfl
set_option maxRecDepth 100000 in
set_option maxHeartbeats 4000000 in
theorem wsL_law_r8_in : ∀ w ∈ wsL_law_r8, w ∈ lw_tbl := kd_sub _ [136, 137, 264, 265, 266, 267, 138, 139, 140, 141, 142, 143, 144, 145, 268, 269, 270, 271, 146, 147, 148, 149, 150, 151] rfl
set_option maxRecDepth 100000 in
set_option maxHeartbeats 4000000 in
theorem wsL_law_r9_in : ∀ w ∈ wsL_law_r9, w ∈ lw_tbl := kd_sub _ [152, 153, 272, 273, 274, 275, 154, 155, 156, 157, 158, 160, 6, 161, 276, 277, 278, 279, 162, 163, 164, 165, 166, 167] rfl
set_option maxRecDepth 100000 in
set_option maxHeartbeats 4000000 in
theorem wsL_law_r10_in : ∀ w ∈ wsL_law_r10, w ∈ lw_tbl := kd_sub _ [168, 169, 280, 281, 282, 283] rfl
set_option maxRecDepth 100000 in
set_option maxHeartbeats 4000000 in
theorem wsX00_in : ∀ w ∈ wsX00, w ∈ lw_tbl := kd_sub _ [34, 36, 38, 40, 42] rfl
set_option maxRecDepth 100000 in
set_option maxHeartbeats 4000000 in
theorem wsX10_in : ∀ w ∈ wsX10, w ∈ lw_tbl := kd_sub _ [51, 53, 55, 57, 59] rfl
set_option maxRecDepth 100000 in
set_option maxHeartbeats 4000000 in
theorem wsX20_in : ∀ w ∈ wsX20, w ∈ lw_tbl := kd_sub _ [189, 191, 193, 195, 197, 199, 201, 203, 205, 207, 209, 211, 213] rfl
theorem kd_app {a b big : List Cond} (ha : ∀ w ∈ a, w ∈ big) (hb : ∀ w ∈ b, w ∈ big) : ∀ w ∈ a ++ b, w ∈ big := fun w h => (List.mem_append.mp h).elim (ha w) (hb w)
theorem wsL_law_in : ∀ w ∈ wsL_law, w ∈ lw_tbl := kd_app (kd_app (kd_app (kd_app (kd_app wsL_law_r1_in (kd_app wsL_law_r2_in (kd_app wsL_law_r3_in (kd_app wsL_law_r4_in (kd_app wsL_law_r5_in (kd_app wsL_law_r6_in (kd_app wsL_law_r7_in (kd_app wsL_law_r8_in (kd_app wsL_law_r9_in wsL_law_r10_in))))))))) wsX10_in) wsX20_in) wsX00_in) (fun _ h => absurd h List.not_mem_nil)
theorem inlX0 : ∀ w ∈ wsX00, w ∈ wsL_law := fun _ h => List.mem_append_left _ (List.mem_append_right _ h)
theorem inX0 : ∀ w ∈ wsX00, w ∈ lw_tbl := fun w h => wsL_law_in w (inlX0 w h)
theorem inlX1 : ∀ w ∈ wsX10, w ∈ wsL_law := fun _ h => List.mem_append_left _ (List.mem_append_left _ (List.mem_append_left _ (List.mem_append_right _ h)))
theorem inX1 : ∀ w ∈ wsX10, w ∈ lw_tbl := fun w h => wsL_law_in w (inlX1 w h)
theorem inlX2 : ∀ w ∈ wsX20, w ∈ wsL_law := fun _ h => List.mem_append_left _ (List.mem_append_left _ (List.mem_append_right _ h))
theorem inX2 : ∀ w ∈ wsX20, w ∈ lw_tbl := fun w h => wsL_law_in w (inlX2 w h)
theorem inJ9 : ∀ w ∈ wsJ90, w ∈ lw_tbl := by decide +kernel
end
section
theorem dX0_init_0 : decode cX0_init 0 = .ok (.aload_n 0, 1) := by decide +kernel
theorem dX0_init_1 : decode cX0_init 1 = .ok (.invokespecial 1, 3) := by decide +kernel
theorem dX0_init_4 : decode cX0_init 4 = .ok (.aload_n 0, 1) := by decide +kernel
theorem dX0_init_5 : decode cX0_init 5 = .ok (.bipush 8, 2) := by decide +kernel
theorem dX0_init_7 : decode cX0_init 7 = .ok (.newarray .int, 2) := by decide +kernel
theorem dX0_init_9 : decode cX0_init 9 = .ok (.putfield 9, 3) := by decide +kernel
theorem dX0_init_12 : decode cX0_init 12 = .ok (.aload_n 0, 1) := by decide +kernel
theorem dX0_init_13 : decode cX0_init 13 = .ok (.bipush 16, 2) := by decide +kernel
theorem dX0_init_15 : decode cX0_init 15 = .ok (.newarray .int, 2) := by decide +kernel
theorem dX0_init_17 : decode cX0_init 17 = .ok (.putfield 13, 3) := by decide +kernel
theorem dX0_init_20 : decode cX0_init 20 = .ok (.aload_n 0, 1) := by decide +kernel
theorem dX0_init_21 : decode cX0_init 21 = .ok (.bipush 16, 2) := by decide +kernel
theorem dX0_init_23 : decode cX0_init 23 = .ok (.newarray .int, 2) := by decide +kernel
theorem dX0_init_25 : decode cX0_init 25 = .ok (.putfield 16, 3) := by decide +kernel
theorem dX0_init_28 : decode cX0_init 28 = .ok (.aload_n 0, 1) := by decide +kernel
theorem dX0_init_29 : decode cX0_init 29 = .ok (.iconst 0, 1) := by decide +kernel
theorem dX0_init_30 : decode cX0_init 30 = .ok (.putfield 19, 3) := by decide +kernel
theorem dX0_init_33 : decode cX0_init 33 = .ok (.aload_n 0, 1) := by decide +kernel
theorem dX0_init_34 : decode cX0_init 34 = .ok (.lconst 0, 1) := by decide +kernel
theorem dX0_init_35 : decode cX0_init 35 = .ok (.putfield 23, 3) := by decide +kernel
theorem dX0_init_38 : decode cX0_init 38 = .ok (.return_, 1) := by decide +kernel
set_option maxRecDepth 20000 in
theorem ggX0_begin_X0_emptyBlock : GoodIn wsX0_begin wsX0_emptyBlock := goodIn_r _ [9, 10, 11, 12, 13, 14, 15, 16] (by decide +kernel) (by decide +kernel)
set_option maxRecDepth 20000 in
theorem gX0_begin_X0_emptyBlock : GoodIn wsX0_begin (wsV RX0 31 RX0 yX0_emptyBlock wsX0_emptyBlock) := goodIn_app (goodIn_of _ (by decide +kernel)) ggX0_begin_X0_emptyBlock
theorem dX0_begin_0 : decode cX0_begin 0 = .ok (.iconst 0, 1) := by decide +kernel
theorem dX0_begin_1 : decode cX0_begin 1 = .ok (.istore_n 3, 1) := by decide +kernel
theorem dX0_begin_2 : decode cX0_begin 2 = .ok (.iload_n 3, 1) := by decide +kernel
theorem dX0_begin_3 : decode cX0_begin 3 = .ok (.bipush 8, 2) := by decide +kernel
theorem dX0_begin_5 : decode cX0_begin 5 = .ok (.if_icmp .ge 20, 3) := by decide +kernel
theorem dX0_begin_8 : decode cX0_begin 8 = .ok (.aload_n 0, 1) := by decide +kernel
theorem dX0_begin_9 : decode cX0_begin 9 = .ok (.getfield 9, 3) := by decide +kernel
theorem dX0_begin_12 : decode cX0_begin 12 = .ok (.iload_n 3, 1) := by decide +kernel
theorem dX0_begin_13 : decode cX0_begin 13 = .ok (.getstatic 27, 3) := by decide +kernel
theorem dX0_begin_16 : decode cX0_begin 16 = .ok (.iload_n 3, 1) := by decide +kernel
theorem dX0_begin_17 : decode cX0_begin 17 = .ok (.iaload, 1) := by decide +kernel
theorem dX0_begin_18 : decode cX0_begin 18 = .ok (.iastore, 1) := by decide +kernel
theorem dX0_begin_19 : decode cX0_begin 19 = .ok (.iinc 3 1, 3) := by decide +kernel
theorem dX0_begin_22 : decode cX0_begin 22 = .ok (.goto (-20), 3) := by decide +kernel
theorem dX0_begin_25 : decode cX0_begin 25 = .ok (.aload_n 0, 1) := by decide +kernel
theorem dX0_begin_26 : decode cX0_begin 26 = .ok (.getfield 9, 3) := by decide +kernel
theorem dX0_begin_29 : decode cX0_begin 29 = .ok (.iconst 0, 1) := by decide +kernel
theorem dX0_begin_30 : decode cX0_begin 30 = .ok (.dup2, 1) := by decide +kernel
theorem dX0_begin_31 : decode cX0_begin 31 = .ok (.iaload, 1) := by decide +kernel
theorem dX0_begin_32 : decode cX0_begin 32 = .ok (.ldc 30, 2) := by decide +kernel
theorem dX0_begin_34 : decode cX0_begin 34 = .ok (.sipush 256, 3) := by decide +kernel
theorem dX0_begin_37 : decode cX0_begin 37 = .ok (.iload_n 2, 1) := by decide +kernel
theorem dX0_begin_38 : decode cX0_begin 38 = .ok (.imul, 1) := by decide +kernel
theorem dX0_begin_39 : decode cX0_begin 39 = .ok (.iadd, 1) := by decide +kernel
theorem dX0_begin_40 : decode cX0_begin 40 = .ok (.iload_n 1, 1) := by decide +kernel
theorem dX0_begin_41 : decode cX0_begin 41 = .ok (.iadd, 1) := by decide +kernel
theorem dX0_begin_42 : decode cX0_begin 42 = .ok (.ixor, 1) := by decide +kernel
theorem dX0_begin_43 : decode cX0_begin 43 = .ok (.iastore, 1) := by decide +kernel
theorem dX0_begin_44 : decode cX0_begin 44 = .ok (.aload_n 0, 1) := by decide +kernel
theorem dX0_begin_45 : decode cX0_begin 45 = .ok (.lconst 0, 1) := by decide +kernel
theorem dX0_begin_46 : decode cX0_begin 46 = .ok (.putfield 23, 3) := by decide +kernel
theorem dX0_begin_49 : decode cX0_begin 49 = .ok (.aload_n 0, 1) := by decide +kernel
theorem dX0_begin_50 : decode cX0_begin 50 = .ok (.invokevirtual 31, 3) := by decide +kernel
theorem dX0_begin_53 : decode cX0_begin 53 = .ok (.return_, 1) := by decide +kernel
set_option maxRecDepth 20000 in
theorem ggX0_addKey_X0_addByte : GoodIn wsX0_addKey wsX0_addByte := goodIn_r _ [8, 1, 9, 3, 10, 11, 12, 7, 13, 14, 15, 16, 17, 18, 19, 20, 21, 22, 23, 24, 25, 26, 27, 28, 29, 30, 31, 32, 33, 34, 35, 36, 37] (by decide +kernel) (by decide +kernel)
set_option maxRecDepth 20000 in
theorem gX0_addKey_X0_addByte : GoodIn wsX0_addKey (wsV RX0 34 RX0 yX0_addByte wsX0_addByte) := goodIn_app (goodIn_of _ (by decide +kernel)) ggX0_addKey_X0_addByte
theorem dX0_addKey_0 : decode cX0_addKey 0 = .ok (.iconst 0, 1) := by decide +kernel
theorem dX0_addKey_1 : decode cX0_addKey 1 = .ok (.istore_n 3, 1) := by decide +kernel
theorem dX0_addKey_2 : decode cX0_addKey 2 = .ok (.iload_n 3, 1) := by decide +kernel
theorem dX0_addKey_3 : decode cX0_addKey 3 = .ok (.iload_n 2, 1) := by decide +kernel
theorem dX0_addKey_4 : decode cX0_addKey 4 = .ok (.if_icmp .ge 22, 3) := by decide +kernel
theorem dX0_addKey_7 : decode cX0_addKey 7 = .ok (.iload_n 3, 1) := by decide +kernel
theorem dX0_addKey_8 : decode cX0_addKey 8 = .ok (.aload_n 1, 1) := by decide +kernel
theorem dX0_addKey_9 : decode cX0_addKey 9 = .ok (.arraylength, 1) := by decide +kernel
theorem dX0_addKey_10 : decode cX0_addKey 10 = .ok (.if_icmp .ge 16, 3) := by decide +kernel
theorem dX0_addKey_13 : decode cX0_addKey 13 = .ok (.aload_n 0, 1) := by decide +kernel
theorem dX0_addKey_14 : decode cX0_addKey 14 = .ok (.aload_n 1, 1) := by decide +kernel
theorem dX0_addKey_15 : decode cX0_addKey 15 = .ok (.iload_n 3, 1) := by decide +kernel
theorem dX0_addKey_16 : decode cX0_addKey 16 = .ok (.iaload, 1) := by decide +kernel
theorem dX0_addKey_17 : decode cX0_addKey 17 = .ok (.invokevirtual 34, 3) := by decide +kernel
theorem dX0_addKey_20 : decode cX0_addKey 20 = .ok (.iinc 3 1, 3) := by decide +kernel
theorem dX0_addKey_23 : decode cX0_addKey 23 = .ok (.goto (-21), 3) := by decide +kernel
theorem dX0_addKey_26 : decode cX0_addKey 26 = .ok (.aload_n 0, 1) := by decide +kernel
theorem dX0_addKey_27 : decode cX0_addKey 27 = .ok (.bipush 64, 2) := by decide +kernel
theorem dX0_addKey_29 : decode cX0_addKey 29 = .ok (.putfield 19, 3) := by decide +kernel
theorem dX0_addKey_32 : decode cX0_addKey 32 = .ok (.aload_n 0, 1) := by decide +kernel
theorem dX0_addKey_33 : decode cX0_addKey 33 = .ok (.ldc2_w 38, 3) := by decide +kernel
theorem dX0_addKey_36 : decode cX0_addKey 36 = .ok (.putfield 23, 3) := by decide +kernel
theorem dX0_addKey_39 : decode cX0_addKey 39 = .ok (.return_, 1) := by decide +kernel
set_option maxRecDepth 20000 in
theorem ggX0_addByte_X0_mix : GoodIn wsX0_addByte wsX0_mix := goodIn_r _ [8, 9, 10, 11, 3, 12, 13, 14, 7, 15, 16, 17, 18, 19, 20, 2, 21, 22, 23, 28, 29, 30, 31, 32] (by decide +kernel) (by decide +kernel)
set_option maxRecDepth 20000 in
theorem gX0_addByte_X0_mix : GoodIn wsX0_addByte (wsV RX0 40 RX0 yX0_mix wsX0_mix) := goodIn_app (goodIn_of _ (by decide +kernel)) ggX0_addByte_X0_mix
set_option maxRecDepth 20000 in
theorem ggX0_addByte_X0_emptyBlock : GoodIn wsX0_addByte wsX0_emptyBlock := goodIn_r _ [27, 2, 1, 28, 29, 30, 31, 32] (by decide +kernel) (by decide +kernel)
set_option maxRecDepth 20000 in
theorem gX0_addByte_X0_emptyBlock : GoodIn wsX0_addByte (wsV RX0 31 RX0 yX0_emptyBlock wsX0_emptyBlock) := goodIn_app (goodIn_of _ (by decide +kernel)) ggX0_addByte_X0_emptyBlock
theorem dX0_addByte_0 : decode cX0_addByte 0 = .ok (.aload_n 0, 1) := by decide +kernel
theorem dX0_addByte_1 : decode cX0_addByte 1 = .ok (.getfield 19, 3) := by decide +kernel
theorem dX0_addByte_4 : decode cX0_addByte 4 = .ok (.bipush 64, 2) := by decide +kernel
theorem dX0_addByte_6 : decode cX0_addByte 6 = .ok (.if_icmp .lt 12, 3) := by decide +kernel
theorem dX0_addByte_9 : decode cX0_addByte 9 = .ok (.aload_n 0, 1) := by decide +kernel
theorem dX0_addByte_10 : decode cX0_addByte 10 = .ok (.iconst 0, 1) := by decide +kernel
theorem dX0_addByte_11 : decode cX0_addByte 11 = .ok (.invokevirtual 40, 3) := by decide +kernel
theorem dX0_addByte_14 : decode cX0_addByte 14 = .ok (.aload_n 0, 1) := by decide +kernel
theorem dX0_addByte_15 : decode cX0_addByte 15 = .ok (.invokevirtual 31, 3) := by decide +kernel
theorem dX0_addByte_18 : decode cX0_addByte 18 = .ok (.aload_n 0, 1) := by decide +kernel
theorem dX0_addByte_19 : decode cX0_addByte 19 = .ok (.getfield 13, 3) := by decide +kernel
theorem dX0_addByte_22 : decode cX0_addByte 22 = .ok (.aload_n 0, 1) := by decide +kernel
theorem dX0_addByte_23 : decode cX0_addByte 23 = .ok (.getfield 19, 3) := by decide +kernel
theorem dX0_addByte_26 : decode cX0_addByte 26 = .ok (.iconst 2, 1) := by decide +kernel
theorem dX0_addByte_27 : decode cX0_addByte 27 = .ok (.ishr, 1) := by decide +kernel
theorem dX0_addByte_28 : decode cX0_addByte 28 = .ok (.dup2, 1) := by decide +kernel
theorem dX0_addByte_29 : decode cX0_addByte 29 = .ok (.iaload, 1) := by decide +kernel
theorem dX0_addByte_30 : decode cX0_addByte 30 = .ok (.iload_n 1, 1) := by decide +kernel
theorem dX0_addByte_31 : decode cX0_addByte 31 = .ok (.bipush 8, 2) := by decide +kernel
theorem dX0_addByte_33 : decode cX0_addByte 33 = .ok (.aload_n 0, 1) := by decide +kernel
theorem dX0_addByte_34 : decode cX0_addByte 34 = .ok (.getfield 19, 3) := by decide +kernel
theorem dX0_addByte_37 : decode cX0_addByte 37 = .ok (.iconst 3, 1) := by decide +kernel
theorem dX0_addByte_38 : decode cX0_addByte 38 = .ok (.iand, 1) := by decide +kernel
theorem dX0_addByte_39 : decode cX0_addByte 39 = .ok (.imul, 1) := by decide +kernel
theorem dX0_addByte_40 : decode cX0_addByte 40 = .ok (.ishl, 1) := by decide +kernel
theorem dX0_addByte_41 : decode cX0_addByte 41 = .ok (.ior, 1) := by decide +kernel
theorem dX0_addByte_42 : decode cX0_addByte 42 = .ok (.iastore, 1) := by decide +kernel
theorem dX0_addByte_43 : decode cX0_addByte 43 = .ok (.aload_n 0, 1) := by decide +kernel
theorem dX0_addByte_44 : decode cX0_addByte 44 = .ok (.dup, 1) := by decide +kernel
theorem dX0_addByte_45 : decode cX0_addByte 45 = .ok (.getfield 19, 3) := by decide +kernel
theorem dX0_addByte_48 : decode cX0_addByte 48 = .ok (.iconst 1, 1) := by decide +kernel
theorem dX0_addByte_49 : decode cX0_addByte 49 = .ok (.iadd, 1) := by decide +kernel
theorem dX0_addByte_50 : decode cX0_addByte 50 = .ok (.putfield 19, 3) := by decide +kernel
theorem dX0_addByte_53 : decode cX0_addByte 53 = .ok (.aload_n 0, 1) := by decide +kernel
theorem dX0_addByte_54 : decode cX0_addByte 54 = .ok (.dup, 1) := by decide +kernel
theorem dX0_addByte_55 : decode cX0_addByte 55 = .ok (.getfield 23, 3) := by decide +kernel
theorem dX0_addByte_58 : decode cX0_addByte 58 = .ok (.lconst 1, 1) := by decide +kernel
theorem dX0_addByte_59 : decode cX0_addByte 59 = .ok (.ladd, 1) := by decide +kernel
theorem dX0_addByte_60 : decode cX0_addByte 60 = .ok (.putfield 23, 3) := by decide +kernel
theorem dX0_addByte_63 : decode cX0_addByte 63 = .ok (.return_, 1) := by decide +kernel
set_option maxRecDepth 20000 in
theorem ggX0_mixLast_X0_mix : GoodIn wsX0_mixLast wsX0_mix := goodIn_r _ [5, 6, 7, 8, 9, 10, 11, 12, 4, 13, 14, 15, 16, 17, 18, 19, 20, 21, 22, 23, 24, 25, 26, 27] (by decide +kernel) (by decide +kernel)
set_option maxRecDepth 20000 in
theorem gX0_mixLast_X0_mix : GoodIn wsX0_mixLast (wsV RX0 40 RX0 yX0_mix wsX0_mix) := goodIn_app (goodIn_of _ (by decide +kernel)) ggX0_mixLast_X0_mix
theorem dX0_mixLast_0 : decode cX0_mixLast 0 = .ok (.aload_n 0, 1) := by decide +kernel
theorem dX0_mixLast_1 : decode cX0_mixLast 1 = .ok (.iconst (-1), 1) := by decide +kernel
theorem dX0_mixLast_2 : decode cX0_mixLast 2 = .ok (.invokevirtual 40, 3) := by decide +kernel
theorem dX0_mixLast_5 : decode cX0_mixLast 5 = .ok (.return_, 1) := by decide +kernel
theorem dX0_stateWord_0 : decode cX0_stateWord 0 = .ok (.aload_n 0, 1) := by decide +kernel
theorem dX0_stateWord_1 : decode cX0_stateWord 1 = .ok (.getfield 9, 3) := by decide +kernel
theorem dX0_stateWord_4 : decode cX0_stateWord 4 = .ok (.iload_n 1, 1) := by decide +kernel
theorem dX0_stateWord_5 : decode cX0_stateWord 5 = .ok (.iaload, 1) := by decide +kernel
theorem dX0_stateWord_6 : decode cX0_stateWord 6 = .ok (.ireturn, 1) := by decide +kernel
theorem dX0_stateByte_0 : decode cX0_stateByte 0 = .ok (.aload_n 0, 1) := by decide +kernel
theorem dX0_stateByte_1 : decode cX0_stateByte 1 = .ok (.getfield 9, 3) := by decide +kernel
theorem dX0_stateByte_4 : decode cX0_stateByte 4 = .ok (.iload_n 1, 1) := by decide +kernel
theorem dX0_stateByte_5 : decode cX0_stateByte 5 = .ok (.iconst 2, 1) := by decide +kernel
theorem dX0_stateByte_6 : decode cX0_stateByte 6 = .ok (.ishr, 1) := by decide +kernel
theorem dX0_stateByte_7 : decode cX0_stateByte 7 = .ok (.iaload, 1) := by decide +kernel
theorem dX0_stateByte_8 : decode cX0_stateByte 8 = .ok (.bipush 8, 2) := by decide +kernel
theorem dX0_stateByte_10 : decode cX0_stateByte 10 = .ok (.iload_n 1, 1) := by decide +kernel
theorem dX0_stateByte_11 : decode cX0_stateByte 11 = .ok (.iconst 3, 1) := by decide +kernel
theorem dX0_stateByte_12 : decode cX0_stateByte 12 = .ok (.iand, 1) := by decide +kernel
theorem dX0_stateByte_13 : decode cX0_stateByte 13 = .ok (.imul, 1) := by decide +kernel
theorem dX0_stateByte_14 : decode cX0_stateByte 14 = .ok (.iushr, 1) := by decide +kernel
theorem dX0_stateByte_15 : decode cX0_stateByte 15 = .ok (.sipush 255, 3) := by decide +kernel
theorem dX0_stateByte_18 : decode cX0_stateByte 18 = .ok (.iand, 1) := by decide +kernel
theorem dX0_stateByte_19 : decode cX0_stateByte 19 = .ok (.ireturn, 1) := by decide +kernel
theorem dX0_emptyBlock_0 : decode cX0_emptyBlock 0 = .ok (.iconst 0, 1) := by decide +kernel
theorem dX0_emptyBlock_1 : decode cX0_emptyBlock 1 = .ok (.istore_n 1, 1) := by decide +kernel
theorem dX0_emptyBlock_2 : decode cX0_emptyBlock 2 = .ok (.iload_n 1, 1) := by decide +kernel
theorem dX0_emptyBlock_3 : decode cX0_emptyBlock 3 = .ok (.bipush 16, 2) := by decide +kernel
theorem dX0_emptyBlock_5 : decode cX0_emptyBlock 5 = .ok (.if_icmp .ge 16, 3) := by decide +kernel
theorem dX0_emptyBlock_8 : decode cX0_emptyBlock 8 = .ok (.aload_n 0, 1) := by decide +kernel
theorem dX0_emptyBlock_9 : decode cX0_emptyBlock 9 = .ok (.getfield 13, 3) := by decide +kernel
theorem dX0_emptyBlock_12 : decode cX0_emptyBlock 12 = .ok (.iload_n 1, 1) := by decide +kernel
theorem dX0_emptyBlock_13 : decode cX0_emptyBlock 13 = .ok (.iconst 0, 1) := by decide +kernel
theorem dX0_emptyBlock_14 : decode cX0_emptyBlock 14 = .ok (.iastore, 1) := by decide +kernel
theorem dX0_emptyBlock_15 : decode cX0_emptyBlock 15 = .ok (.iinc 1 1, 3) := by decide +kernel
theorem dX0_emptyBlock_18 : decode cX0_emptyBlock 18 = .ok (.goto (-16), 3) := by decide +kernel
theorem dX0_emptyBlock_21 : decode cX0_emptyBlock 21 = .ok (.aload_n 0, 1) := by decide +kernel
theorem dX0_emptyBlock_22 : decode cX0_emptyBlock 22 = .ok (.iconst 0, 1) := by decide +kernel
theorem dX0_emptyBlock_23 : decode cX0_emptyBlock 23 = .ok (.putfield 19, 3) := by decide +kernel
theorem dX0_emptyBlock_26 : decode cX0_emptyBlock 26 = .ok (.return_, 1) := by decide +kernel
set_option maxRecDepth 20000 in
theorem ggX0_mix_X0_mixRound : GoodIn wsX0_mix wsX0_mixRound := goodIn_r _ [9, 10, 11, 12, 13, 8, 14, 1, 15, 16, 17, 18, 19, 20, 21, 22, 23] (by decide +kernel) (by decide +kernel)
set_option maxRecDepth 20000 in
theorem gX0_mix_X0_mixRound : GoodIn wsX0_mix (wsV RX0 43 RX0 yX0_mixRound wsX0_mixRound) := goodIn_app (goodIn_of _ (by decide +kernel)) ggX0_mix_X0_mixRound
theorem dX0_mix_0 : decode cX0_mix 0 = .ok (.iconst 0, 1) := by decide +kernel
theorem dX0_mix_1 : decode cX0_mix 1 = .ok (.istore_n 2, 1) := by decide +kernel
theorem dX0_mix_2 : decode cX0_mix 2 = .ok (.iload_n 2, 1) := by decide +kernel
theorem dX0_mix_3 : decode cX0_mix 3 = .ok (.bipush 8, 2) := by decide +kernel
theorem dX0_mix_5 : decode cX0_mix 5 = .ok (.if_icmp .ge 35, 3) := by decide +kernel
theorem dX0_mix_8 : decode cX0_mix 8 = .ok (.aload_n 0, 1) := by decide +kernel
theorem dX0_mix_9 : decode cX0_mix 9 = .ok (.getfield 16, 3) := by decide +kernel
theorem dX0_mix_12 : decode cX0_mix 12 = .ok (.iload_n 2, 1) := by decide +kernel
theorem dX0_mix_13 : decode cX0_mix 13 = .ok (.aload_n 0, 1) := by decide +kernel
theorem dX0_mix_14 : decode cX0_mix 14 = .ok (.getfield 9, 3) := by decide +kernel
theorem dX0_mix_17 : decode cX0_mix 17 = .ok (.iload_n 2, 1) := by decide +kernel
theorem dX0_mix_18 : decode cX0_mix 18 = .ok (.iaload, 1) := by decide +kernel
theorem dX0_mix_19 : decode cX0_mix 19 = .ok (.iastore, 1) := by decide +kernel
theorem dX0_mix_20 : decode cX0_mix 20 = .ok (.aload_n 0, 1) := by decide +kernel
theorem dX0_mix_21 : decode cX0_mix 21 = .ok (.getfield 16, 3) := by decide +kernel
theorem dX0_mix_24 : decode cX0_mix 24 = .ok (.iload_n 2, 1) := by decide +kernel
theorem dX0_mix_25 : decode cX0_mix 25 = .ok (.bipush 8, 2) := by decide +kernel
theorem dX0_mix_27 : decode cX0_mix 27 = .ok (.iadd, 1) := by decide +kernel
theorem dX0_mix_28 : decode cX0_mix 28 = .ok (.getstatic 27, 3) := by decide +kernel
theorem dX0_mix_31 : decode cX0_mix 31 = .ok (.iload_n 2, 1) := by decide +kernel
theorem dX0_mix_32 : decode cX0_mix 32 = .ok (.iaload, 1) := by decide +kernel
theorem dX0_mix_33 : decode cX0_mix 33 = .ok (.iastore, 1) := by decide +kernel
theorem dX0_mix_34 : decode cX0_mix 34 = .ok (.iinc 2 1, 3) := by decide +kernel
theorem dX0_mix_37 : decode cX0_mix 37 = .ok (.goto (-35), 3) := by decide +kernel
theorem dX0_mix_40 : decode cX0_mix 40 = .ok (.aload_n 0, 1) := by decide +kernel
theorem dX0_mix_41 : decode cX0_mix 41 = .ok (.getfield 16, 3) := by decide +kernel
theorem dX0_mix_44 : decode cX0_mix 44 = .ok (.bipush 12, 2) := by decide +kernel
theorem dX0_mix_46 : decode cX0_mix 46 = .ok (.dup2, 1) := by decide +kernel
theorem dX0_mix_47 : decode cX0_mix 47 = .ok (.iaload, 1) := by decide +kernel
theorem dX0_mix_48 : decode cX0_mix 48 = .ok (.aload_n 0, 1) := by decide +kernel
theorem dX0_mix_49 : decode cX0_mix 49 = .ok (.getfield 23, 3) := by decide +kernel
theorem dX0_mix_52 : decode cX0_mix 52 = .ok (.l2i, 1) := by decide +kernel
theorem dX0_mix_53 : decode cX0_mix 53 = .ok (.ixor, 1) := by decide +kernel
theorem dX0_mix_54 : decode cX0_mix 54 = .ok (.iastore, 1) := by decide +kernel
theorem dX0_mix_55 : decode cX0_mix 55 = .ok (.aload_n 0, 1) := by decide +kernel
theorem dX0_mix_56 : decode cX0_mix 56 = .ok (.getfield 16, 3) := by decide +kernel
theorem dX0_mix_59 : decode cX0_mix 59 = .ok (.bipush 13, 2) := by decide +kernel
theorem dX0_mix_61 : decode cX0_mix 61 = .ok (.dup2, 1) := by decide +kernel
theorem dX0_mix_62 : decode cX0_mix 62 = .ok (.iaload, 1) := by decide +kernel
theorem dX0_mix_63 : decode cX0_mix 63 = .ok (.aload_n 0, 1) := by decide +kernel
theorem dX0_mix_64 : decode cX0_mix 64 = .ok (.getfield 23, 3) := by decide +kernel
theorem dX0_mix_67 : decode cX0_mix 67 = .ok (.bipush 32, 2) := by decide +kernel
theorem dX0_mix_69 : decode cX0_mix 69 = .ok (.lushr, 1) := by decide +kernel
theorem dX0_mix_70 : decode cX0_mix 70 = .ok (.l2i, 1) := by decide +kernel
theorem dX0_mix_71 : decode cX0_mix 71 = .ok (.ixor, 1) := by decide +kernel
theorem dX0_mix_72 : decode cX0_mix 72 = .ok (.iastore, 1) := by decide +kernel
theorem dX0_mix_73 : decode cX0_mix 73 = .ok (.aload_n 0, 1) := by decide +kernel
theorem dX0_mix_74 : decode cX0_mix 74 = .ok (.getfield 16, 3) := by decide +kernel
theorem dX0_mix_77 : decode cX0_mix 77 = .ok (.bipush 14, 2) := by decide +kernel
theorem dX0_mix_79 : decode cX0_mix 79 = .ok (.dup2, 1) := by decide +kernel
theorem dX0_mix_80 : decode cX0_mix 80 = .ok (.iaload, 1) := by decide +kernel
theorem dX0_mix_81 : decode cX0_mix 81 = .ok (.iload_n 1, 1) := by decide +kernel
theorem dX0_mix_82 : decode cX0_mix 82 = .ok (.ixor, 1) := by decide +kernel
theorem dX0_mix_83 : decode cX0_mix 83 = .ok (.iastore, 1) := by decide +kernel
theorem dX0_mix_84 : decode cX0_mix 84 = .ok (.iconst 0, 1) := by decide +kernel
theorem dX0_mix_85 : decode cX0_mix 85 = .ok (.istore_n 2, 1) := by decide +kernel
theorem dX0_mix_86 : decode cX0_mix 86 = .ok (.iload_n 2, 1) := by decide +kernel
theorem dX0_mix_87 : decode cX0_mix 87 = .ok (.bipush 10, 2) := by decide +kernel
theorem dX0_mix_89 : decode cX0_mix 89 = .ok (.if_icmp .ge 17, 3) := by decide +kernel
theorem dX0_mix_92 : decode cX0_mix 92 = .ok (.aload_n 0, 1) := by decide +kernel
theorem dX0_mix_93 : decode cX0_mix 93 = .ok (.bipush 16, 2) := by decide +kernel
theorem dX0_mix_95 : decode cX0_mix 95 = .ok (.iload_n 2, 1) := by decide +kernel
theorem dX0_mix_96 : decode cX0_mix 96 = .ok (.imul, 1) := by decide +kernel
theorem dX0_mix_97 : decode cX0_mix 97 = .ok (.invokevirtual 43, 3) := by decide +kernel
theorem dX0_mix_100 : decode cX0_mix 100 = .ok (.iinc 2 1, 3) := by decide +kernel
theorem dX0_mix_103 : decode cX0_mix 103 = .ok (.goto (-17), 3) := by decide +kernel
theorem dX0_mix_106 : decode cX0_mix 106 = .ok (.iconst 0, 1) := by decide +kernel
theorem dX0_mix_107 : decode cX0_mix 107 = .ok (.istore_n 2, 1) := by decide +kernel
theorem dX0_mix_108 : decode cX0_mix 108 = .ok (.iload_n 2, 1) := by decide +kernel
theorem dX0_mix_109 : decode cX0_mix 109 = .ok (.bipush 8, 2) := by decide +kernel
theorem dX0_mix_111 : decode cX0_mix 111 = .ok (.if_icmp .ge 34, 3) := by decide +kernel
theorem dX0_mix_114 : decode cX0_mix 114 = .ok (.aload_n 0, 1) := by decide +kernel
theorem dX0_mix_115 : decode cX0_mix 115 = .ok (.getfield 9, 3) := by decide +kernel
theorem dX0_mix_118 : decode cX0_mix 118 = .ok (.iload_n 2, 1) := by decide +kernel
theorem dX0_mix_119 : decode cX0_mix 119 = .ok (.dup2, 1) := by decide +kernel
theorem dX0_mix_120 : decode cX0_mix 120 = .ok (.iaload, 1) := by decide +kernel
theorem dX0_mix_121 : decode cX0_mix 121 = .ok (.aload_n 0, 1) := by decide +kernel
theorem dX0_mix_122 : decode cX0_mix 122 = .ok (.getfield 16, 3) := by decide +kernel
theorem dX0_mix_125 : decode cX0_mix 125 = .ok (.iload_n 2, 1) := by decide +kernel
theorem dX0_mix_126 : decode cX0_mix 126 = .ok (.iaload, 1) := by decide +kernel
theorem dX0_mix_127 : decode cX0_mix 127 = .ok (.aload_n 0, 1) := by decide +kernel
theorem dX0_mix_128 : decode cX0_mix 128 = .ok (.getfield 16, 3) := by decide +kernel
theorem dX0_mix_131 : decode cX0_mix 131 = .ok (.iload_n 2, 1) := by decide +kernel
theorem dX0_mix_132 : decode cX0_mix 132 = .ok (.bipush 8, 2) := by decide +kernel
theorem dX0_mix_134 : decode cX0_mix 134 = .ok (.iadd, 1) := by decide +kernel
theorem dX0_mix_135 : decode cX0_mix 135 = .ok (.iaload, 1) := by decide +kernel
theorem dX0_mix_136 : decode cX0_mix 136 = .ok (.ixor, 1) := by decide +kernel
theorem dX0_mix_137 : decode cX0_mix 137 = .ok (.ixor, 1) := by decide +kernel
theorem dX0_mix_138 : decode cX0_mix 138 = .ok (.iastore, 1) := by decide +kernel
theorem dX0_mix_139 : decode cX0_mix 139 = .ok (.iinc 2 1, 3) := by decide +kernel
theorem dX0_mix_142 : decode cX0_mix 142 = .ok (.goto (-34), 3) := by decide +kernel
theorem dX0_mix_145 : decode cX0_mix 145 = .ok (.return_, 1) := by decide +kernel
set_option maxRecDepth 20000 in
theorem ggX0_mixRound_X0_mixFour : GoodIn wsX0_mixRound wsX0_mixFour := goodIn_r _ [6, 7, 8, 9, 10, 5, 11, 12, 13, 14, 15, 16] (by decide +kernel) (by decide +kernel)
set_option maxRecDepth 20000 in
theorem gX0_mixRound_X0_mixFour : GoodIn wsX0_mixRound (wsV RX0 49 RX0 yX0_mixFour wsX0_mixFour) := goodIn_app (goodIn_of _ (by decide +kernel)) ggX0_mixRound_X0_mixFour
theorem dX0_mixRound_0 : decode cX0_mixRound 0 = .ok (.aload_n 0, 1) := by decide +kernel
theorem dX0_mixRound_1 : decode cX0_mixRound 1 = .ok (.iconst 0, 1) := by decide +kernel
theorem dX0_mixRound_2 : decode cX0_mixRound 2 = .ok (.iconst 4, 1) := by decide +kernel
theorem dX0_mixRound_3 : decode cX0_mixRound 3 = .ok (.bipush 8, 2) := by decide +kernel
theorem dX0_mixRound_5 : decode cX0_mixRound 5 = .ok (.bipush 12, 2) := by decide +kernel
theorem dX0_mixRound_7 : decode cX0_mixRound 7 = .ok (.getstatic 46, 3) := by decide +kernel
theorem dX0_mixRound_10 : decode cX0_mixRound 10 = .ok (.iload_n 1, 1) := by decide +kernel
theorem dX0_mixRound_11 : decode cX0_mixRound 11 = .ok (.iaload, 1) := by decide +kernel
theorem dX0_mixRound_12 : decode cX0_mixRound 12 = .ok (.getstatic 46, 3) := by decide +kernel
theorem dX0_mixRound_15 : decode cX0_mixRound 15 = .ok (.iload_n 1, 1) := by decide +kernel
theorem dX0_mixRound_16 : decode cX0_mixRound 16 = .ok (.iconst 1, 1) := by decide +kernel
theorem dX0_mixRound_17 : decode cX0_mixRound 17 = .ok (.iadd, 1) := by decide +kernel
theorem dX0_mixRound_18 : decode cX0_mixRound 18 = .ok (.iaload, 1) := by decide +kernel
theorem dX0_mixRound_19 : decode cX0_mixRound 19 = .ok (.invokevirtual 49, 3) := by decide +kernel
theorem dX0_mixRound_22 : decode cX0_mixRound 22 = .ok (.aload_n 0, 1) := by decide +kernel
theorem dX0_mixRound_23 : decode cX0_mixRound 23 = .ok (.iconst 1, 1) := by decide +kernel
theorem dX0_mixRound_24 : decode cX0_mixRound 24 = .ok (.iconst 5, 1) := by decide +kernel
theorem dX0_mixRound_25 : decode cX0_mixRound 25 = .ok (.bipush 9, 2) := by decide +kernel
theorem dX0_mixRound_27 : decode cX0_mixRound 27 = .ok (.bipush 13, 2) := by decide +kernel
theorem dX0_mixRound_29 : decode cX0_mixRound 29 = .ok (.getstatic 46, 3) := by decide +kernel
theorem dX0_mixRound_32 : decode cX0_mixRound 32 = .ok (.iload_n 1, 1) := by decide +kernel
theorem dX0_mixRound_33 : decode cX0_mixRound 33 = .ok (.iconst 2, 1) := by decide +kernel
theorem dX0_mixRound_34 : decode cX0_mixRound 34 = .ok (.iadd, 1) := by decide +kernel
theorem dX0_mixRound_35 : decode cX0_mixRound 35 = .ok (.iaload, 1) := by decide +kernel
theorem dX0_mixRound_36 : decode cX0_mixRound 36 = .ok (.getstatic 46, 3) := by decide +kernel
theorem dX0_mixRound_39 : decode cX0_mixRound 39 = .ok (.iload_n 1, 1) := by decide +kernel
theorem dX0_mixRound_40 : decode cX0_mixRound 40 = .ok (.iconst 3, 1) := by decide +kernel
theorem dX0_mixRound_41 : decode cX0_mixRound 41 = .ok (.iadd, 1) := by decide +kernel
theorem dX0_mixRound_42 : decode cX0_mixRound 42 = .ok (.iaload, 1) := by decide +kernel
theorem dX0_mixRound_43 : decode cX0_mixRound 43 = .ok (.invokevirtual 49, 3) := by decide +kernel
theorem dX0_mixRound_46 : decode cX0_mixRound 46 = .ok (.aload_n 0, 1) := by decide +kernel
theorem dX0_mixRound_47 : decode cX0_mixRound 47 = .ok (.iconst 2, 1) := by decide +kernel
theorem dX0_mixRound_48 : decode cX0_mixRound 48 = .ok (.bipush 6, 2) := by decide +kernel
theorem dX0_mixRound_50 : decode cX0_mixRound 50 = .ok (.bipush 10, 2) := by decide +kernel
theorem dX0_mixRound_52 : decode cX0_mixRound 52 = .ok (.bipush 14, 2) := by decide +kernel
theorem dX0_mixRound_54 : decode cX0_mixRound 54 = .ok (.getstatic 46, 3) := by decide +kernel
theorem dX0_mixRound_57 : decode cX0_mixRound 57 = .ok (.iload_n 1, 1) := by decide +kernel
theorem dX0_mixRound_58 : decode cX0_mixRound 58 = .ok (.iconst 4, 1) := by decide +kernel
theorem dX0_mixRound_59 : decode cX0_mixRound 59 = .ok (.iadd, 1) := by decide +kernel
theorem dX0_mixRound_60 : decode cX0_mixRound 60 = .ok (.iaload, 1) := by decide +kernel
theorem dX0_mixRound_61 : decode cX0_mixRound 61 = .ok (.getstatic 46, 3) := by decide +kernel
theorem dX0_mixRound_64 : decode cX0_mixRound 64 = .ok (.iload_n 1, 1) := by decide +kernel
theorem dX0_mixRound_65 : decode cX0_mixRound 65 = .ok (.iconst 5, 1) := by decide +kernel
theorem dX0_mixRound_66 : decode cX0_mixRound 66 = .ok (.iadd, 1) := by decide +kernel
theorem dX0_mixRound_67 : decode cX0_mixRound 67 = .ok (.iaload, 1) := by decide +kernel
theorem dX0_mixRound_68 : decode cX0_mixRound 68 = .ok (.invokevirtual 49, 3) := by decide +kernel
theorem dX0_mixRound_71 : decode cX0_mixRound 71 = .ok (.aload_n 0, 1) := by decide +kernel
theorem dX0_mixRound_72 : decode cX0_mixRound 72 = .ok (.iconst 3, 1) := by decide +kernel
theorem dX0_mixRound_73 : decode cX0_mixRound 73 = .ok (.bipush 7, 2) := by decide +kernel
theorem dX0_mixRound_75 : decode cX0_mixRound 75 = .ok (.bipush 11, 2) := by decide +kernel
theorem dX0_mixRound_77 : decode cX0_mixRound 77 = .ok (.bipush 15, 2) := by decide +kernel
theorem dX0_mixRound_79 : decode cX0_mixRound 79 = .ok (.getstatic 46, 3) := by decide +kernel
theorem dX0_mixRound_82 : decode cX0_mixRound 82 = .ok (.iload_n 1, 1) := by decide +kernel
theorem dX0_mixRound_83 : decode cX0_mixRound 83 = .ok (.bipush 6, 2) := by decide +kernel
theorem dX0_mixRound_85 : decode cX0_mixRound 85 = .ok (.iadd, 1) := by decide +kernel
theorem dX0_mixRound_86 : decode cX0_mixRound 86 = .ok (.iaload, 1) := by decide +kernel
theorem dX0_mixRound_87 : decode cX0_mixRound 87 = .ok (.getstatic 46, 3) := by decide +kernel
theorem dX0_mixRound_90 : decode cX0_mixRound 90 = .ok (.iload_n 1, 1) := by decide +kernel
theorem dX0_mixRound_91 : decode cX0_mixRound 91 = .ok (.bipush 7, 2) := by decide +kernel
theorem dX0_mixRound_93 : decode cX0_mixRound 93 = .ok (.iadd, 1) := by decide +kernel
theorem dX0_mixRound_94 : decode cX0_mixRound 94 = .ok (.iaload, 1) := by decide +kernel
theorem dX0_mixRound_95 : decode cX0_mixRound 95 = .ok (.invokevirtual 49, 3) := by decide +kernel
theorem dX0_mixRound_98 : decode cX0_mixRound 98 = .ok (.aload_n 0, 1) := by decide +kernel
theorem dX0_mixRound_99 : decode cX0_mixRound 99 = .ok (.iconst 0, 1) := by decide +kernel
theorem dX0_mixRound_100 : decode cX0_mixRound 100 = .ok (.iconst 5, 1) := by decide +kernel
theorem dX0_mixRound_101 : decode cX0_mixRound 101 = .ok (.bipush 10, 2) := by decide +kernel
theorem dX0_mixRound_103 : decode cX0_mixRound 103 = .ok (.bipush 15, 2) := by decide +kernel
theorem dX0_mixRound_105 : decode cX0_mixRound 105 = .ok (.getstatic 46, 3) := by decide +kernel
theorem dX0_mixRound_108 : decode cX0_mixRound 108 = .ok (.iload_n 1, 1) := by decide +kernel
theorem dX0_mixRound_109 : decode cX0_mixRound 109 = .ok (.bipush 8, 2) := by decide +kernel
theorem dX0_mixRound_111 : decode cX0_mixRound 111 = .ok (.iadd, 1) := by decide +kernel
theorem dX0_mixRound_112 : decode cX0_mixRound 112 = .ok (.iaload, 1) := by decide +kernel
theorem dX0_mixRound_113 : decode cX0_mixRound 113 = .ok (.getstatic 46, 3) := by decide +kernel
theorem dX0_mixRound_116 : decode cX0_mixRound 116 = .ok (.iload_n 1, 1) := by decide +kernel
theorem dX0_mixRound_117 : decode cX0_mixRound 117 = .ok (.bipush 9, 2) := by decide +kernel
theorem dX0_mixRound_119 : decode cX0_mixRound 119 = .ok (.iadd, 1) := by decide +kernel
theorem dX0_mixRound_120 : decode cX0_mixRound 120 = .ok (.iaload, 1) := by decide +kernel
theorem dX0_mixRound_121 : decode cX0_mixRound 121 = .ok (.invokevirtual 49, 3) := by decide +kernel
theorem dX0_mixRound_124 : decode cX0_mixRound 124 = .ok (.aload_n 0, 1) := by decide +kernel
theorem dX0_mixRound_125 : decode cX0_mixRound 125 = .ok (.iconst 1, 1) := by decide +kernel
theorem dX0_mixRound_126 : decode cX0_mixRound 126 = .ok (.bipush 6, 2) := by decide +kernel
theorem dX0_mixRound_128 : decode cX0_mixRound 128 = .ok (.bipush 11, 2) := by decide +kernel
theorem dX0_mixRound_130 : decode cX0_mixRound 130 = .ok (.bipush 12, 2) := by decide +kernel
theorem dX0_mixRound_132 : decode cX0_mixRound 132 = .ok (.getstatic 46, 3) := by decide +kernel
theorem dX0_mixRound_135 : decode cX0_mixRound 135 = .ok (.iload_n 1, 1) := by decide +kernel
theorem dX0_mixRound_136 : decode cX0_mixRound 136 = .ok (.bipush 10, 2) := by decide +kernel
theorem dX0_mixRound_138 : decode cX0_mixRound 138 = .ok (.iadd, 1) := by decide +kernel
theorem dX0_mixRound_139 : decode cX0_mixRound 139 = .ok (.iaload, 1) := by decide +kernel
theorem dX0_mixRound_140 : decode cX0_mixRound 140 = .ok (.getstatic 46, 3) := by decide +kernel
theorem dX0_mixRound_143 : decode cX0_mixRound 143 = .ok (.iload_n 1, 1) := by decide +kernel
theorem dX0_mixRound_144 : decode cX0_mixRound 144 = .ok (.bipush 11, 2) := by decide +kernel
theorem dX0_mixRound_146 : decode cX0_mixRound 146 = .ok (.iadd, 1) := by decide +kernel
theorem dX0_mixRound_147 : decode cX0_mixRound 147 = .ok (.iaload, 1) := by decide +kernel
theorem dX0_mixRound_148 : decode cX0_mixRound 148 = .ok (.invokevirtual 49, 3) := by decide +kernel
theorem dX0_mixRound_151 : decode cX0_mixRound 151 = .ok (.aload_n 0, 1) := by decide +kernel
theorem dX0_mixRound_152 : decode cX0_mixRound 152 = .ok (.iconst 2, 1) := by decide +kernel
theorem dX0_mixRound_153 : decode cX0_mixRound 153 = .ok (.bipush 7, 2) := by decide +kernel
theorem dX0_mixRound_155 : decode cX0_mixRound 155 = .ok (.bipush 8, 2) := by decide +kernel
theorem dX0_mixRound_157 : decode cX0_mixRound 157 = .ok (.bipush 13, 2) := by decide +kernel
theorem dX0_mixRound_159 : decode cX0_mixRound 159 = .ok (.getstatic 46, 3) := by decide +kernel
theorem dX0_mixRound_162 : decode cX0_mixRound 162 = .ok (.iload_n 1, 1) := by decide +kernel
theorem dX0_mixRound_163 : decode cX0_mixRound 163 = .ok (.bipush 12, 2) := by decide +kernel
theorem dX0_mixRound_165 : decode cX0_mixRound 165 = .ok (.iadd, 1) := by decide +kernel
theorem dX0_mixRound_166 : decode cX0_mixRound 166 = .ok (.iaload, 1) := by decide +kernel
theorem dX0_mixRound_167 : decode cX0_mixRound 167 = .ok (.getstatic 46, 3) := by decide +kernel
theorem dX0_mixRound_170 : decode cX0_mixRound 170 = .ok (.iload_n 1, 1) := by decide +kernel
theorem dX0_mixRound_171 : decode cX0_mixRound 171 = .ok (.bipush 13, 2) := by decide +kernel
theorem dX0_mixRound_173 : decode cX0_mixRound 173 = .ok (.iadd, 1) := by decide +kernel
theorem dX0_mixRound_174 : decode cX0_mixRound 174 = .ok (.iaload, 1) := by decide +kernel
theorem dX0_mixRound_175 : decode cX0_mixRound 175 = .ok (.invokevirtual 49, 3) := by decide +kernel
theorem dX0_mixRound_178 : decode cX0_mixRound 178 = .ok (.aload_n 0, 1) := by decide +kernel
theorem dX0_mixRound_179 : decode cX0_mixRound 179 = .ok (.iconst 3, 1) := by decide +kernel
theorem dX0_mixRound_180 : decode cX0_mixRound 180 = .ok (.iconst 4, 1) := by decide +kernel
theorem dX0_mixRound_181 : decode cX0_mixRound 181 = .ok (.bipush 9, 2) := by decide +kernel
theorem dX0_mixRound_183 : decode cX0_mixRound 183 = .ok (.bipush 14, 2) := by decide +kernel
theorem dX0_mixRound_185 : decode cX0_mixRound 185 = .ok (.getstatic 46, 3) := by decide +kernel
theorem dX0_mixRound_188 : decode cX0_mixRound 188 = .ok (.iload_n 1, 1) := by decide +kernel
theorem dX0_mixRound_189 : decode cX0_mixRound 189 = .ok (.bipush 14, 2) := by decide +kernel
theorem dX0_mixRound_191 : decode cX0_mixRound 191 = .ok (.iadd, 1) := by decide +kernel
theorem dX0_mixRound_192 : decode cX0_mixRound 192 = .ok (.iaload, 1) := by decide +kernel
theorem dX0_mixRound_193 : decode cX0_mixRound 193 = .ok (.getstatic 46, 3) := by decide +kernel
theorem dX0_mixRound_196 : decode cX0_mixRound 196 = .ok (.iload_n 1, 1) := by decide +kernel
theorem dX0_mixRound_197 : decode cX0_mixRound 197 = .ok (.bipush 15, 2) := by decide +kernel
theorem dX0_mixRound_199 : decode cX0_mixRound 199 = .ok (.iadd, 1) := by decide +kernel
theorem dX0_mixRound_200 : decode cX0_mixRound 200 = .ok (.iaload, 1) := by decide +kernel
theorem dX0_mixRound_201 : decode cX0_mixRound 201 = .ok (.invokevirtual 49, 3) := by decide +kernel
theorem dX0_mixRound_204 : decode cX0_mixRound 204 = .ok (.return_, 1) := by decide +kernel
set_option maxRecDepth 20000 in
theorem ggX0_mixFour_X0_turnDown : GoodIn wsX0_mixFour wsX0_turnDown := goodIn_r _ [6] (by decide +kernel) (by decide +kernel)
set_option maxRecDepth 20000 in
theorem gX0_mixFour_X0_turnDown : GoodIn wsX0_mixFour (va_wsS RX0 53 yX0_turnDown wsX0_turnDown) := goodIn_app (goodIn_of _ (by decide +kernel)) ggX0_mixFour_X0_turnDown
theorem dX0_mixFour_0 : decode cX0_mixFour 0 = .ok (.aload_n 0, 1) := by decide +kernel
theorem dX0_mixFour_1 : decode cX0_mixFour 1 = .ok (.getfield 16, 3) := by decide +kernel
theorem dX0_mixFour_4 : decode cX0_mixFour 4 = .ok (.iload_n 1, 1) := by decide +kernel
theorem dX0_mixFour_5 : decode cX0_mixFour 5 = .ok (.aload_n 0, 1) := by decide +kernel
theorem dX0_mixFour_6 : decode cX0_mixFour 6 = .ok (.getfield 16, 3) := by decide +kernel
theorem dX0_mixFour_9 : decode cX0_mixFour 9 = .ok (.iload_n 1, 1) := by decide +kernel
theorem dX0_mixFour_10 : decode cX0_mixFour 10 = .ok (.iaload, 1) := by decide +kernel
theorem dX0_mixFour_11 : decode cX0_mixFour 11 = .ok (.aload_n 0, 1) := by decide +kernel
theorem dX0_mixFour_12 : decode cX0_mixFour 12 = .ok (.getfield 16, 3) := by decide +kernel
theorem dX0_mixFour_15 : decode cX0_mixFour 15 = .ok (.iload_n 2, 1) := by decide +kernel
theorem dX0_mixFour_16 : decode cX0_mixFour 16 = .ok (.iaload, 1) := by decide +kernel
theorem dX0_mixFour_17 : decode cX0_mixFour 17 = .ok (.iadd, 1) := by decide +kernel
theorem dX0_mixFour_18 : decode cX0_mixFour 18 = .ok (.aload_n 0, 1) := by decide +kernel
theorem dX0_mixFour_19 : decode cX0_mixFour 19 = .ok (.getfield 13, 3) := by decide +kernel
theorem dX0_mixFour_22 : decode cX0_mixFour 22 = .ok (.iload 5, 2) := by decide +kernel
theorem dX0_mixFour_24 : decode cX0_mixFour 24 = .ok (.iaload, 1) := by decide +kernel
theorem dX0_mixFour_25 : decode cX0_mixFour 25 = .ok (.iadd, 1) := by decide +kernel
theorem dX0_mixFour_26 : decode cX0_mixFour 26 = .ok (.iastore, 1) := by decide +kernel
theorem dX0_mixFour_27 : decode cX0_mixFour 27 = .ok (.aload_n 0, 1) := by decide +kernel
theorem dX0_mixFour_28 : decode cX0_mixFour 28 = .ok (.getfield 16, 3) := by decide +kernel
theorem dX0_mixFour_31 : decode cX0_mixFour 31 = .ok (.iload 4, 2) := by decide +kernel
theorem dX0_mixFour_33 : decode cX0_mixFour 33 = .ok (.aload_n 0, 1) := by decide +kernel
theorem dX0_mixFour_34 : decode cX0_mixFour 34 = .ok (.getfield 16, 3) := by decide +kernel
theorem dX0_mixFour_37 : decode cX0_mixFour 37 = .ok (.iload 4, 2) := by decide +kernel
theorem dX0_mixFour_39 : decode cX0_mixFour 39 = .ok (.iaload, 1) := by decide +kernel
theorem dX0_mixFour_40 : decode cX0_mixFour 40 = .ok (.aload_n 0, 1) := by decide +kernel
theorem dX0_mixFour_41 : decode cX0_mixFour 41 = .ok (.getfield 16, 3) := by decide +kernel
theorem dX0_mixFour_44 : decode cX0_mixFour 44 = .ok (.iload_n 1, 1) := by decide +kernel
theorem dX0_mixFour_45 : decode cX0_mixFour 45 = .ok (.iaload, 1) := by decide +kernel
theorem dX0_mixFour_46 : decode cX0_mixFour 46 = .ok (.ixor, 1) := by decide +kernel
theorem dX0_mixFour_47 : decode cX0_mixFour 47 = .ok (.bipush 16, 2) := by decide +kernel
theorem dX0_mixFour_49 : decode cX0_mixFour 49 = .ok (.invokestatic 53, 3) := by decide +kernel
theorem dX0_mixFour_52 : decode cX0_mixFour 52 = .ok (.iastore, 1) := by decide +kernel
theorem dX0_mixFour_53 : decode cX0_mixFour 53 = .ok (.aload_n 0, 1) := by decide +kernel
theorem dX0_mixFour_54 : decode cX0_mixFour 54 = .ok (.getfield 16, 3) := by decide +kernel
theorem dX0_mixFour_57 : decode cX0_mixFour 57 = .ok (.iload_n 3, 1) := by decide +kernel
theorem dX0_mixFour_58 : decode cX0_mixFour 58 = .ok (.aload_n 0, 1) := by decide +kernel
theorem dX0_mixFour_59 : decode cX0_mixFour 59 = .ok (.getfield 16, 3) := by decide +kernel
theorem dX0_mixFour_62 : decode cX0_mixFour 62 = .ok (.iload_n 3, 1) := by decide +kernel
theorem dX0_mixFour_63 : decode cX0_mixFour 63 = .ok (.iaload, 1) := by decide +kernel
theorem dX0_mixFour_64 : decode cX0_mixFour 64 = .ok (.aload_n 0, 1) := by decide +kernel
theorem dX0_mixFour_65 : decode cX0_mixFour 65 = .ok (.getfield 16, 3) := by decide +kernel
theorem dX0_mixFour_68 : decode cX0_mixFour 68 = .ok (.iload 4, 2) := by decide +kernel
theorem dX0_mixFour_70 : decode cX0_mixFour 70 = .ok (.iaload, 1) := by decide +kernel
theorem dX0_mixFour_71 : decode cX0_mixFour 71 = .ok (.iadd, 1) := by decide +kernel
theorem dX0_mixFour_72 : decode cX0_mixFour 72 = .ok (.iastore, 1) := by decide +kernel
theorem dX0_mixFour_73 : decode cX0_mixFour 73 = .ok (.aload_n 0, 1) := by decide +kernel
theorem dX0_mixFour_74 : decode cX0_mixFour 74 = .ok (.getfield 16, 3) := by decide +kernel
theorem dX0_mixFour_77 : decode cX0_mixFour 77 = .ok (.iload_n 2, 1) := by decide +kernel
theorem dX0_mixFour_78 : decode cX0_mixFour 78 = .ok (.aload_n 0, 1) := by decide +kernel
theorem dX0_mixFour_79 : decode cX0_mixFour 79 = .ok (.getfield 16, 3) := by decide +kernel
theorem dX0_mixFour_82 : decode cX0_mixFour 82 = .ok (.iload_n 2, 1) := by decide +kernel
theorem dX0_mixFour_83 : decode cX0_mixFour 83 = .ok (.iaload, 1) := by decide +kernel
theorem dX0_mixFour_84 : decode cX0_mixFour 84 = .ok (.aload_n 0, 1) := by decide +kernel
theorem dX0_mixFour_85 : decode cX0_mixFour 85 = .ok (.getfield 16, 3) := by decide +kernel
theorem dX0_mixFour_88 : decode cX0_mixFour 88 = .ok (.iload_n 3, 1) := by decide +kernel
theorem dX0_mixFour_89 : decode cX0_mixFour 89 = .ok (.iaload, 1) := by decide +kernel
theorem dX0_mixFour_90 : decode cX0_mixFour 90 = .ok (.ixor, 1) := by decide +kernel
theorem dX0_mixFour_91 : decode cX0_mixFour 91 = .ok (.bipush 12, 2) := by decide +kernel
theorem dX0_mixFour_93 : decode cX0_mixFour 93 = .ok (.invokestatic 53, 3) := by decide +kernel
theorem dX0_mixFour_96 : decode cX0_mixFour 96 = .ok (.iastore, 1) := by decide +kernel
theorem dX0_mixFour_97 : decode cX0_mixFour 97 = .ok (.aload_n 0, 1) := by decide +kernel
theorem dX0_mixFour_98 : decode cX0_mixFour 98 = .ok (.getfield 16, 3) := by decide +kernel
theorem dX0_mixFour_101 : decode cX0_mixFour 101 = .ok (.iload_n 1, 1) := by decide +kernel
theorem dX0_mixFour_102 : decode cX0_mixFour 102 = .ok (.aload_n 0, 1) := by decide +kernel
theorem dX0_mixFour_103 : decode cX0_mixFour 103 = .ok (.getfield 16, 3) := by decide +kernel
theorem dX0_mixFour_106 : decode cX0_mixFour 106 = .ok (.iload_n 1, 1) := by decide +kernel
theorem dX0_mixFour_107 : decode cX0_mixFour 107 = .ok (.iaload, 1) := by decide +kernel
theorem dX0_mixFour_108 : decode cX0_mixFour 108 = .ok (.aload_n 0, 1) := by decide +kernel
theorem dX0_mixFour_109 : decode cX0_mixFour 109 = .ok (.getfield 16, 3) := by decide +kernel
theorem dX0_mixFour_112 : decode cX0_mixFour 112 = .ok (.iload_n 2, 1) := by decide +kernel
theorem dX0_mixFour_113 : decode cX0_mixFour 113 = .ok (.iaload, 1) := by decide +kernel
theorem dX0_mixFour_114 : decode cX0_mixFour 114 = .ok (.iadd, 1) := by decide +kernel
theorem dX0_mixFour_115 : decode cX0_mixFour 115 = .ok (.aload_n 0, 1) := by decide +kernel
theorem dX0_mixFour_116 : decode cX0_mixFour 116 = .ok (.getfield 13, 3) := by decide +kernel
theorem dX0_mixFour_119 : decode cX0_mixFour 119 = .ok (.iload 6, 2) := by decide +kernel
theorem dX0_mixFour_121 : decode cX0_mixFour 121 = .ok (.iaload, 1) := by decide +kernel
theorem dX0_mixFour_122 : decode cX0_mixFour 122 = .ok (.iadd, 1) := by decide +kernel
theorem dX0_mixFour_123 : decode cX0_mixFour 123 = .ok (.iastore, 1) := by decide +kernel
theorem dX0_mixFour_124 : decode cX0_mixFour 124 = .ok (.aload_n 0, 1) := by decide +kernel
theorem dX0_mixFour_125 : decode cX0_mixFour 125 = .ok (.getfield 16, 3) := by decide +kernel
theorem dX0_mixFour_128 : decode cX0_mixFour 128 = .ok (.iload 4, 2) := by decide +kernel
theorem dX0_mixFour_130 : decode cX0_mixFour 130 = .ok (.aload_n 0, 1) := by decide +kernel
theorem dX0_mixFour_131 : decode cX0_mixFour 131 = .ok (.getfield 16, 3) := by decide +kernel
theorem dX0_mixFour_134 : decode cX0_mixFour 134 = .ok (.iload 4, 2) := by decide +kernel
theorem dX0_mixFour_136 : decode cX0_mixFour 136 = .ok (.iaload, 1) := by decide +kernel
theorem dX0_mixFour_137 : decode cX0_mixFour 137 = .ok (.aload_n 0, 1) := by decide +kernel
theorem dX0_mixFour_138 : decode cX0_mixFour 138 = .ok (.getfield 16, 3) := by decide +kernel
theorem dX0_mixFour_141 : decode cX0_mixFour 141 = .ok (.iload_n 1, 1) := by decide +kernel
theorem dX0_mixFour_142 : decode cX0_mixFour 142 = .ok (.iaload, 1) := by decide +kernel
theorem dX0_mixFour_143 : decode cX0_mixFour 143 = .ok (.ixor, 1) := by decide +kernel
theorem dX0_mixFour_144 : decode cX0_mixFour 144 = .ok (.bipush 8, 2) := by decide +kernel
theorem dX0_mixFour_146 : decode cX0_mixFour 146 = .ok (.invokestatic 53, 3) := by decide +kernel
theorem dX0_mixFour_149 : decode cX0_mixFour 149 = .ok (.iastore, 1) := by decide +kernel
theorem dX0_mixFour_150 : decode cX0_mixFour 150 = .ok (.aload_n 0, 1) := by decide +kernel
theorem dX0_mixFour_151 : decode cX0_mixFour 151 = .ok (.getfield 16, 3) := by decide +kernel
theorem dX0_mixFour_154 : decode cX0_mixFour 154 = .ok (.iload_n 3, 1) := by decide +kernel
theorem dX0_mixFour_155 : decode cX0_mixFour 155 = .ok (.aload_n 0, 1) := by decide +kernel
theorem dX0_mixFour_156 : decode cX0_mixFour 156 = .ok (.getfield 16, 3) := by decide +kernel
theorem dX0_mixFour_159 : decode cX0_mixFour 159 = .ok (.iload_n 3, 1) := by decide +kernel
theorem dX0_mixFour_160 : decode cX0_mixFour 160 = .ok (.iaload, 1) := by decide +kernel
theorem dX0_mixFour_161 : decode cX0_mixFour 161 = .ok (.aload_n 0, 1) := by decide +kernel
theorem dX0_mixFour_162 : decode cX0_mixFour 162 = .ok (.getfield 16, 3) := by decide +kernel
theorem dX0_mixFour_165 : decode cX0_mixFour 165 = .ok (.iload 4, 2) := by decide +kernel
theorem dX0_mixFour_167 : decode cX0_mixFour 167 = .ok (.iaload, 1) := by decide +kernel
theorem dX0_mixFour_168 : decode cX0_mixFour 168 = .ok (.iadd, 1) := by decide +kernel
theorem dX0_mixFour_169 : decode cX0_mixFour 169 = .ok (.iastore, 1) := by decide +kernel
theorem dX0_mixFour_170 : decode cX0_mixFour 170 = .ok (.aload_n 0, 1) := by decide +kernel
theorem dX0_mixFour_171 : decode cX0_mixFour 171 = .ok (.getfield 16, 3) := by decide +kernel
theorem dX0_mixFour_174 : decode cX0_mixFour 174 = .ok (.iload_n 2, 1) := by decide +kernel
theorem dX0_mixFour_175 : decode cX0_mixFour 175 = .ok (.aload_n 0, 1) := by decide +kernel
theorem dX0_mixFour_176 : decode cX0_mixFour 176 = .ok (.getfield 16, 3) := by decide +kernel
theorem dX0_mixFour_179 : decode cX0_mixFour 179 = .ok (.iload_n 2, 1) := by decide +kernel
theorem dX0_mixFour_180 : decode cX0_mixFour 180 = .ok (.iaload, 1) := by decide +kernel
theorem dX0_mixFour_181 : decode cX0_mixFour 181 = .ok (.aload_n 0, 1) := by decide +kernel
theorem dX0_mixFour_182 : decode cX0_mixFour 182 = .ok (.getfield 16, 3) := by decide +kernel
theorem dX0_mixFour_185 : decode cX0_mixFour 185 = .ok (.iload_n 3, 1) := by decide +kernel
theorem dX0_mixFour_186 : decode cX0_mixFour 186 = .ok (.iaload, 1) := by decide +kernel
theorem dX0_mixFour_187 : decode cX0_mixFour 187 = .ok (.ixor, 1) := by decide +kernel
theorem dX0_mixFour_188 : decode cX0_mixFour 188 = .ok (.bipush 7, 2) := by decide +kernel
theorem dX0_mixFour_190 : decode cX0_mixFour 190 = .ok (.invokestatic 53, 3) := by decide +kernel
theorem dX0_mixFour_193 : decode cX0_mixFour 193 = .ok (.iastore, 1) := by decide +kernel
theorem dX0_mixFour_194 : decode cX0_mixFour 194 = .ok (.return_, 1) := by decide +kernel
theorem dX0_turnDown_0 : decode cX0_turnDown 0 = .ok (.iload_n 0, 1) := by decide +kernel
theorem dX0_turnDown_1 : decode cX0_turnDown 1 = .ok (.iload_n 1, 1) := by decide +kernel
theorem dX0_turnDown_2 : decode cX0_turnDown 2 = .ok (.iushr, 1) := by decide +kernel
theorem dX0_turnDown_3 : decode cX0_turnDown 3 = .ok (.iload_n 0, 1) := by decide +kernel
theorem dX0_turnDown_4 : decode cX0_turnDown 4 = .ok (.bipush 32, 2) := by decide +kernel
theorem dX0_turnDown_6 : decode cX0_turnDown 6 = .ok (.iload_n 1, 1) := by decide +kernel
theorem dX0_turnDown_7 : decode cX0_turnDown 7 = .ok (.isub, 1) := by decide +kernel
theorem dX0_turnDown_8 : decode cX0_turnDown 8 = .ok (.ishl, 1) := by decide +kernel
theorem dX0_turnDown_9 : decode cX0_turnDown 9 = .ok (.ior, 1) := by decide +kernel
theorem dX0_turnDown_10 : decode cX0_turnDown 10 = .ok (.ireturn, 1) := by decide +kernel
set_option maxRecDepth 20000 in
theorem ggX1_init_X0_init : GoodIn wsX1_init wsX0_init := goodIn_r _ [15, 16, 2, 3, 4, 17, 18, 19, 20, 21, 27, 28, 29, 30, 31] (by decide +kernel) (by decide +kernel)
set_option maxRecDepth 20000 in
theorem gX1_init_X0_init : GoodIn wsX1_init (wsX0_init) := ggX1_init_X0_init
end
section
theorem dX1_init_0 : decode cX1_init 0 = .ok (.aload_n 0, 1) := by decide +kernel
theorem dX1_init_1 : decode cX1_init 1 = .ok (.invokespecial 1, 3) := by decide +kernel
theorem dX1_init_4 : decode cX1_init 4 = .ok (.aload_n 0, 1) := by decide +kernel
theorem dX1_init_5 : decode cX1_init 5 = .ok (.bipush 32, 2) := by decide +kernel
theorem dX1_init_7 : decode cX1_init 7 = .ok (.newarray .int, 2) := by decide +kernel
theorem dX1_init_9 : decode cX1_init 9 = .ok (.putfield 9, 3) := by decide +kernel
theorem dX1_init_12 : decode cX1_init 12 = .ok (.aload_n 0, 1) := by decide +kernel
theorem dX1_init_13 : decode cX1_init 13 = .ok (.new 13, 3) := by decide +kernel
theorem dX1_init_16 : decode cX1_init 16 = .ok (.dup, 1) := by decide +kernel
theorem dX1_init_17 : decode cX1_init 17 = .ok (.invokespecial 15, 3) := by decide +kernel
theorem dX1_init_20 : decode cX1_init 20 = .ok (.putfield 16, 3) := by decide +kernel
theorem dX1_init_23 : decode cX1_init 23 = .ok (.aload_n 0, 1) := by decide +kernel
theorem dX1_init_24 : decode cX1_init 24 = .ok (.iconst 0, 1) := by decide +kernel
theorem dX1_init_25 : decode cX1_init 25 = .ok (.putfield 20, 3) := by decide +kernel
theorem dX1_init_28 : decode cX1_init 28 = .ok (.aload_n 0, 1) := by decide +kernel
theorem dX1_init_29 : decode cX1_init 29 = .ok (.iconst 0, 1) := by decide +kernel
theorem dX1_init_30 : decode cX1_init 30 = .ok (.putfield 24, 3) := by decide +kernel
theorem dX1_init_33 : decode cX1_init 33 = .ok (.aload_n 0, 1) := by decide +kernel
theorem dX1_init_34 : decode cX1_init 34 = .ok (.iconst 0, 1) := by decide +kernel
theorem dX1_init_35 : decode cX1_init 35 = .ok (.putfield 27, 3) := by decide +kernel
theorem dX1_init_38 : decode cX1_init 38 = .ok (.return_, 1) := by decide +kernel
theorem dX1_init__0 : decode cX1_init_ 0 = .ok (.iconst 0, 1) := by decide +kernel
theorem dX1_init__1 : decode cX1_init_ 1 = .ok (.istore_n 1, 1) := by decide +kernel
theorem dX1_init__2 : decode cX1_init_ 2 = .ok (.iload_n 1, 1) := by decide +kernel
theorem dX1_init__3 : decode cX1_init_ 3 = .ok (.bipush 32, 2) := by decide +kernel
theorem dX1_init__5 : decode cX1_init_ 5 = .ok (.if_icmp .ge 16, 3) := by decide +kernel
theorem dX1_init__8 : decode cX1_init_ 8 = .ok (.aload_n 0, 1) := by decide +kernel
theorem dX1_init__9 : decode cX1_init_ 9 = .ok (.getfield 9, 3) := by decide +kernel
theorem dX1_init__12 : decode cX1_init_ 12 = .ok (.iload_n 1, 1) := by decide +kernel
theorem dX1_init__13 : decode cX1_init_ 13 = .ok (.iconst 0, 1) := by decide +kernel
theorem dX1_init__14 : decode cX1_init_ 14 = .ok (.iastore, 1) := by decide +kernel
theorem dX1_init__15 : decode cX1_init_ 15 = .ok (.iinc 1 1, 3) := by decide +kernel
theorem dX1_init__18 : decode cX1_init_ 18 = .ok (.goto (-16), 3) := by decide +kernel
theorem dX1_init__21 : decode cX1_init_ 21 = .ok (.aload_n 0, 1) := by decide +kernel
theorem dX1_init__22 : decode cX1_init_ 22 = .ok (.iconst 1, 1) := by decide +kernel
theorem dX1_init__23 : decode cX1_init_ 23 = .ok (.putfield 20, 3) := by decide +kernel
theorem dX1_init__26 : decode cX1_init_ 26 = .ok (.return_, 1) := by decide +kernel
set_option maxRecDepth 20000 in
theorem ggX1_setKeyByte_X1_isByte : GoodIn wsX1_setKeyByte wsX1_isByte := goodIn_r _ [6] (by decide +kernel) (by decide +kernel)
set_option maxRecDepth 20000 in
theorem gX1_setKeyByte_X1_isByte : GoodIn wsX1_setKeyByte (va_wsS RX1 30 yX1_isByte wsX1_isByte) := goodIn_app (goodIn_of _ (by decide +kernel)) ggX1_setKeyByte_X1_isByte
theorem dX1_setKeyByte_0 : decode cX1_setKeyByte 0 = .ok (.iload_n 1, 1) := by decide +kernel
theorem dX1_setKeyByte_1 : decode cX1_setKeyByte 1 = .ok (.ifCond .lt 24, 3) := by decide +kernel
theorem dX1_setKeyByte_4 : decode cX1_setKeyByte 4 = .ok (.iload_n 1, 1) := by decide +kernel
theorem dX1_setKeyByte_5 : decode cX1_setKeyByte 5 = .ok (.bipush 32, 2) := by decide +kernel
theorem dX1_setKeyByte_7 : decode cX1_setKeyByte 7 = .ok (.if_icmp .ge 18, 3) := by decide +kernel
theorem dX1_setKeyByte_10 : decode cX1_setKeyByte 10 = .ok (.iload_n 2, 1) := by decide +kernel
theorem dX1_setKeyByte_11 : decode cX1_setKeyByte 11 = .ok (.invokestatic 30, 3) := by decide +kernel
theorem dX1_setKeyByte_14 : decode cX1_setKeyByte 14 = .ok (.ifCond .eq 11, 3) := by decide +kernel
theorem dX1_setKeyByte_17 : decode cX1_setKeyByte 17 = .ok (.aload_n 0, 1) := by decide +kernel
theorem dX1_setKeyByte_18 : decode cX1_setKeyByte 18 = .ok (.getfield 20, 3) := by decide +kernel
theorem dX1_setKeyByte_21 : decode cX1_setKeyByte 21 = .ok (.iconst 2, 1) := by decide +kernel
theorem dX1_setKeyByte_22 : decode cX1_setKeyByte 22 = .ok (.if_icmp .ne 5, 3) := by decide +kernel
theorem dX1_setKeyByte_25 : decode cX1_setKeyByte 25 = .ok (.iconst 0, 1) := by decide +kernel
theorem dX1_setKeyByte_26 : decode cX1_setKeyByte 26 = .ok (.ireturn, 1) := by decide +kernel
theorem dX1_setKeyByte_27 : decode cX1_setKeyByte 27 = .ok (.aload_n 0, 1) := by decide +kernel
theorem dX1_setKeyByte_28 : decode cX1_setKeyByte 28 = .ok (.getfield 9, 3) := by decide +kernel
theorem dX1_setKeyByte_31 : decode cX1_setKeyByte 31 = .ok (.iload_n 1, 1) := by decide +kernel
theorem dX1_setKeyByte_32 : decode cX1_setKeyByte 32 = .ok (.iload_n 2, 1) := by decide +kernel
theorem dX1_setKeyByte_33 : decode cX1_setKeyByte 33 = .ok (.iastore, 1) := by decide +kernel
theorem dX1_setKeyByte_34 : decode cX1_setKeyByte 34 = .ok (.iconst 1, 1) := by decide +kernel
theorem dX1_setKeyByte_35 : decode cX1_setKeyByte 35 = .ok (.ireturn, 1) := by decide +kernel
set_option maxRecDepth 20000 in
theorem ggX1_start_X0_begin : GoodIn wsX1_start wsX0_begin := goodIn_r _ [10, 11, 12, 13, 14, 15, 16, 17, 9, 18, 19, 20, 52, 53, 54, 55, 56] (by decide +kernel) (by decide +kernel)
set_option maxRecDepth 20000 in
theorem gX1_start_X0_begin : GoodIn wsX1_start (wsV RX1 34 RX0 yX0_begin wsX0_begin) := goodIn_app (goodIn_of _ (by decide +kernel)) ggX1_start_X0_begin
set_option maxRecDepth 20000 in
theorem ggX1_start_X0_addKey : GoodIn wsX1_start wsX0_addKey := goodIn_r _ [24, 20, 25, 14, 26, 27, 28, 9, 29, 19, 30, 31, 32, 33, 34, 11, 12, 35, 36, 37, 38, 39, 40, 41, 42, 43, 44, 45, 46, 15, 16, 17, 18, 52, 53, 54, 55, 56] (by decide +kernel) (by decide +kernel)
set_option maxRecDepth 20000 in
theorem gX1_start_X0_addKey : GoodIn wsX1_start (wsV RX1 38 RX0 yX0_addKey wsX0_addKey) := goodIn_app (goodIn_of _ (by decide +kernel)) ggX1_start_X0_addKey
theorem dX1_start_0 : decode cX1_start 0 = .ok (.aload_n 0, 1) := by decide +kernel
theorem dX1_start_1 : decode cX1_start 1 = .ok (.getfield 20, 3) := by decide +kernel
theorem dX1_start_4 : decode cX1_start 4 = .ok (.ifCond .eq 24, 3) := by decide +kernel
theorem dX1_start_7 : decode cX1_start 7 = .ok (.iload_n 1, 1) := by decide +kernel
theorem dX1_start_8 : decode cX1_start 8 = .ok (.iconst 1, 1) := by decide +kernel
theorem dX1_start_9 : decode cX1_start 9 = .ok (.if_icmp .lt 19, 3) := by decide +kernel
theorem dX1_start_12 : decode cX1_start 12 = .ok (.iload_n 1, 1) := by decide +kernel
theorem dX1_start_13 : decode cX1_start 13 = .ok (.bipush 32, 2) := by decide +kernel
theorem dX1_start_15 : decode cX1_start 15 = .ok (.if_icmp .gt 13, 3) := by decide +kernel
theorem dX1_start_18 : decode cX1_start 18 = .ok (.iload_n 2, 1) := by decide +kernel
theorem dX1_start_19 : decode cX1_start 19 = .ok (.ifCond .lt 9, 3) := by decide +kernel
theorem dX1_start_22 : decode cX1_start 22 = .ok (.iload_n 2, 1) := by decide +kernel
theorem dX1_start_23 : decode cX1_start 23 = .ok (.bipush 32, 2) := by decide +kernel
theorem dX1_start_25 : decode cX1_start 25 = .ok (.if_icmp .le 5, 3) := by decide +kernel
theorem dX1_start_28 : decode cX1_start 28 = .ok (.iconst 0, 1) := by decide +kernel
theorem dX1_start_29 : decode cX1_start 29 = .ok (.ireturn, 1) := by decide +kernel
theorem dX1_start_30 : decode cX1_start 30 = .ok (.aload_n 0, 1) := by decide +kernel
theorem dX1_start_31 : decode cX1_start 31 = .ok (.getfield 16, 3) := by decide +kernel
theorem dX1_start_34 : decode cX1_start 34 = .ok (.iload_n 1, 1) := by decide +kernel
theorem dX1_start_35 : decode cX1_start 35 = .ok (.iload_n 2, 1) := by decide +kernel
theorem dX1_start_36 : decode cX1_start 36 = .ok (.invokevirtual 34, 3) := by decide +kernel
theorem dX1_start_39 : decode cX1_start 39 = .ok (.iload_n 2, 1) := by decide +kernel
theorem dX1_start_40 : decode cX1_start 40 = .ok (.ifCond .le 15, 3) := by decide +kernel
theorem dX1_start_43 : decode cX1_start 43 = .ok (.aload_n 0, 1) := by decide +kernel
theorem dX1_start_44 : decode cX1_start 44 = .ok (.getfield 16, 3) := by decide +kernel
theorem dX1_start_47 : decode cX1_start 47 = .ok (.aload_n 0, 1) := by decide +kernel
theorem dX1_start_48 : decode cX1_start 48 = .ok (.getfield 9, 3) := by decide +kernel
theorem dX1_start_51 : decode cX1_start 51 = .ok (.iload_n 2, 1) := by decide +kernel
theorem dX1_start_52 : decode cX1_start 52 = .ok (.invokevirtual 38, 3) := by decide +kernel
theorem dX1_start_55 : decode cX1_start 55 = .ok (.aload_n 0, 1) := by decide +kernel
theorem dX1_start_56 : decode cX1_start 56 = .ok (.iconst 2, 1) := by decide +kernel
theorem dX1_start_57 : decode cX1_start 57 = .ok (.putfield 20, 3) := by decide +kernel
theorem dX1_start_60 : decode cX1_start 60 = .ok (.aload_n 0, 1) := by decide +kernel
theorem dX1_start_61 : decode cX1_start 61 = .ok (.iload_n 1, 1) := by decide +kernel
theorem dX1_start_62 : decode cX1_start 62 = .ok (.putfield 24, 3) := by decide +kernel
theorem dX1_start_65 : decode cX1_start 65 = .ok (.aload_n 0, 1) := by decide +kernel
theorem dX1_start_66 : decode cX1_start 66 = .ok (.iconst 0, 1) := by decide +kernel
theorem dX1_start_67 : decode cX1_start 67 = .ok (.putfield 27, 3) := by decide +kernel
theorem dX1_start_70 : decode cX1_start 70 = .ok (.iconst 1, 1) := by decide +kernel
theorem dX1_start_71 : decode cX1_start 71 = .ok (.ireturn, 1) := by decide +kernel
set_option maxRecDepth 20000 in
theorem ggX1_update_X1_isByte : GoodIn wsX1_update wsX1_isByte := goodIn_r _ [5] (by decide +kernel) (by decide +kernel)
set_option maxRecDepth 20000 in
theorem gX1_update_X1_isByte : GoodIn wsX1_update (va_wsS RX1 30 yX1_isByte wsX1_isByte) := goodIn_app (goodIn_of _ (by decide +kernel)) ggX1_update_X1_isByte
set_option maxRecDepth 20000 in
theorem ggX1_update_X1_addToMessage : GoodIn wsX1_update wsX1_addToMessage := goodIn_r _ [9, 10, 11, 12, 13, 14, 15, 16, 17, 18, 19, 20, 21, 22, 23, 24, 25, 26, 27, 28, 29, 30, 31, 32, 33, 34, 35, 36, 37, 38, 39, 40, 41, 42, 43, 44, 45, 46, 47, 48, 49, 50, 51, 52] (by decide +kernel) (by decide +kernel)
set_option maxRecDepth 20000 in
theorem gX1_update_X1_addToMessage : GoodIn wsX1_update (wsV RX1 42 RX1 yX1_addToMessage wsX1_addToMessage) := goodIn_app (goodIn_of _ (by decide +kernel)) ggX1_update_X1_addToMessage
theorem dX1_update_0 : decode cX1_update 0 = .ok (.aload_n 0, 1) := by decide +kernel
theorem dX1_update_1 : decode cX1_update 1 = .ok (.getfield 20, 3) := by decide +kernel
theorem dX1_update_4 : decode cX1_update 4 = .ok (.iconst 2, 1) := by decide +kernel
theorem dX1_update_5 : decode cX1_update 5 = .ok (.if_icmp .ne 10, 3) := by decide +kernel
theorem dX1_update_8 : decode cX1_update 8 = .ok (.iload_n 1, 1) := by decide +kernel
theorem dX1_update_9 : decode cX1_update 9 = .ok (.invokestatic 30, 3) := by decide +kernel
theorem dX1_update_12 : decode cX1_update 12 = .ok (.ifCond .ne 5, 3) := by decide +kernel
theorem dX1_update_15 : decode cX1_update 15 = .ok (.iconst 0, 1) := by decide +kernel
theorem dX1_update_16 : decode cX1_update 16 = .ok (.ireturn, 1) := by decide +kernel
theorem dX1_update_17 : decode cX1_update 17 = .ok (.aload_n 0, 1) := by decide +kernel
theorem dX1_update_18 : decode cX1_update 18 = .ok (.iload_n 1, 1) := by decide +kernel
theorem dX1_update_19 : decode cX1_update 19 = .ok (.invokevirtual 42, 3) := by decide +kernel
theorem dX1_update_22 : decode cX1_update 22 = .ok (.iconst 1, 1) := by decide +kernel
theorem dX1_update_23 : decode cX1_update 23 = .ok (.ireturn, 1) := by decide +kernel
set_option maxRecDepth 20000 in
theorem ggX1_updates_X1_addHighestFirst : GoodIn wsX1_updates wsX1_addHighestFirst := goodIn_r _ [10, 11, 12, 13, 9, 14, 15, 16, 17, 18, 19, 20, 21, 22, 23, 24, 25, 26, 27, 28, 29, 30, 31, 32, 33, 34, 35, 36, 37, 38, 39, 40, 41, 42, 43, 44, 45, 46, 47, 48, 49, 50, 51, 52, 53, 54, 55, 56, 57] (by decide +kernel) (by decide +kernel)
set_option maxRecDepth 20000 in
theorem gX1_updates_X1_addHighestFirst : GoodIn wsX1_updates (wsV RX1 52 RX1 yX1_addHighestFirst wsX1_addHighestFirst) := goodIn_app (goodIn_of _ (by decide +kernel)) ggX1_updates_X1_addHighestFirst
theorem dX1_updates_0 : decode cX1_updates 0 = .ok (.aload_n 0, 1) := by decide +kernel
theorem dX1_updates_1 : decode cX1_updates 1 = .ok (.getfield 20, 3) := by decide +kernel
theorem dX1_updates_4 : decode cX1_updates 4 = .ok (.iconst 2, 1) := by decide +kernel
theorem dX1_updates_5 : decode cX1_updates 5 = .ok (.if_icmp .ne 16, 3) := by decide +kernel
theorem dX1_updates_8 : decode cX1_updates 8 = .ok (.iload 5, 2) := by decide +kernel
theorem dX1_updates_10 : decode cX1_updates 10 = .ok (.iconst 1, 1) := by decide +kernel
theorem dX1_updates_11 : decode cX1_updates 11 = .ok (.if_icmp .lt 10, 3) := by decide +kernel
theorem dX1_updates_14 : decode cX1_updates 14 = .ok (.iload 5, 2) := by decide +kernel
theorem dX1_updates_16 : decode cX1_updates 16 = .ok (.bipush 16, 2) := by decide +kernel
theorem dX1_updates_18 : decode cX1_updates 18 = .ok (.if_icmp .le 5, 3) := by decide +kernel
theorem dX1_updates_21 : decode cX1_updates 21 = .ok (.iconst 0, 1) := by decide +kernel
theorem dX1_updates_22 : decode cX1_updates 22 = .ok (.ireturn, 1) := by decide +kernel
theorem dX1_updates_23 : decode cX1_updates 23 = .ok (.aload_n 0, 1) := by decide +kernel
theorem dX1_updates_24 : decode cX1_updates 24 = .ok (.iload_n 1, 1) := by decide +kernel
theorem dX1_updates_25 : decode cX1_updates 25 = .ok (.iload 5, 2) := by decide +kernel
theorem dX1_updates_27 : decode cX1_updates 27 = .ok (.iconst 4, 1) := by decide +kernel
theorem dX1_updates_28 : decode cX1_updates 28 = .ok (.invokestatic 46, 3) := by decide +kernel
theorem dX1_updates_31 : decode cX1_updates 31 = .ok (.invokevirtual 52, 3) := by decide +kernel
theorem dX1_updates_34 : decode cX1_updates 34 = .ok (.aload_n 0, 1) := by decide +kernel
theorem dX1_updates_35 : decode cX1_updates 35 = .ok (.iload_n 2, 1) := by decide +kernel
theorem dX1_updates_36 : decode cX1_updates 36 = .ok (.iload 5, 2) := by decide +kernel
theorem dX1_updates_38 : decode cX1_updates 38 = .ok (.iconst 4, 1) := by decide +kernel
theorem dX1_updates_39 : decode cX1_updates 39 = .ok (.isub, 1) := by decide +kernel
theorem dX1_updates_40 : decode cX1_updates 40 = .ok (.iconst 4, 1) := by decide +kernel
theorem dX1_updates_41 : decode cX1_updates 41 = .ok (.invokestatic 46, 3) := by decide +kernel
theorem dX1_updates_44 : decode cX1_updates 44 = .ok (.invokevirtual 52, 3) := by decide +kernel
theorem dX1_updates_47 : decode cX1_updates 47 = .ok (.aload_n 0, 1) := by decide +kernel
theorem dX1_updates_48 : decode cX1_updates 48 = .ok (.iload_n 3, 1) := by decide +kernel
theorem dX1_updates_49 : decode cX1_updates 49 = .ok (.iload 5, 2) := by decide +kernel
theorem dX1_updates_51 : decode cX1_updates 51 = .ok (.bipush 8, 2) := by decide +kernel
theorem dX1_updates_53 : decode cX1_updates 53 = .ok (.isub, 1) := by decide +kernel
theorem dX1_updates_54 : decode cX1_updates 54 = .ok (.iconst 4, 1) := by decide +kernel
theorem dX1_updates_55 : decode cX1_updates 55 = .ok (.invokestatic 46, 3) := by decide +kernel
theorem dX1_updates_58 : decode cX1_updates 58 = .ok (.invokevirtual 52, 3) := by decide +kernel
theorem dX1_updates_61 : decode cX1_updates 61 = .ok (.aload_n 0, 1) := by decide +kernel
theorem dX1_updates_62 : decode cX1_updates 62 = .ok (.iload 4, 2) := by decide +kernel
theorem dX1_updates_64 : decode cX1_updates 64 = .ok (.iload 5, 2) := by decide +kernel
theorem dX1_updates_66 : decode cX1_updates 66 = .ok (.bipush 12, 2) := by decide +kernel
theorem dX1_updates_68 : decode cX1_updates 68 = .ok (.isub, 1) := by decide +kernel
theorem dX1_updates_69 : decode cX1_updates 69 = .ok (.iconst 4, 1) := by decide +kernel
theorem dX1_updates_70 : decode cX1_updates 70 = .ok (.invokestatic 46, 3) := by decide +kernel
theorem dX1_updates_73 : decode cX1_updates 73 = .ok (.invokevirtual 52, 3) := by decide +kernel
theorem dX1_updates_76 : decode cX1_updates 76 = .ok (.iconst 1, 1) := by decide +kernel
theorem dX1_updates_77 : decode cX1_updates 77 = .ok (.ireturn, 1) := by decide +kernel
set_option maxRecDepth 20000 in
theorem ggX1_fill_X1_isByte : GoodIn wsX1_fill wsX1_isByte := goodIn_r _ [5] (by decide +kernel) (by decide +kernel)
set_option maxRecDepth 20000 in
theorem gX1_fill_X1_isByte : GoodIn wsX1_fill (va_wsS RX1 30 yX1_isByte wsX1_isByte) := goodIn_app (goodIn_of _ (by decide +kernel)) ggX1_fill_X1_isByte
set_option maxRecDepth 20000 in
theorem ggX1_fill_X1_addToMessage : GoodIn wsX1_fill wsX1_addToMessage := goodIn_r _ [9, 10, 11, 12, 13, 14, 15, 16, 17, 18, 19, 20, 21, 22, 23, 24, 25, 26, 27, 28, 29, 30, 31, 32, 33, 34, 35, 36, 37, 38, 39, 40, 41, 42, 43, 44, 45, 46, 47, 48, 49, 50, 51, 52] (by decide +kernel) (by decide +kernel)
set_option maxRecDepth 20000 in
theorem gX1_fill_X1_addToMessage : GoodIn wsX1_fill (wsV RX1 42 RX1 yX1_addToMessage wsX1_addToMessage) := goodIn_app (goodIn_of _ (by decide +kernel)) ggX1_fill_X1_addToMessage
theorem dX1_fill_0 : decode cX1_fill 0 = .ok (.aload_n 0, 1) := by decide +kernel
theorem dX1_fill_1 : decode cX1_fill 1 = .ok (.getfield 20, 3) := by decide +kernel
theorem dX1_fill_4 : decode cX1_fill 4 = .ok (.iconst 2, 1) := by decide +kernel
theorem dX1_fill_5 : decode cX1_fill 5 = .ok (.if_icmp .ne 21, 3) := by decide +kernel
theorem dX1_fill_8 : decode cX1_fill 8 = .ok (.iload_n 1, 1) := by decide +kernel
theorem dX1_fill_9 : decode cX1_fill 9 = .ok (.invokestatic 30, 3) := by decide +kernel
theorem dX1_fill_12 : decode cX1_fill 12 = .ok (.ifCond .eq 14, 3) := by decide +kernel
theorem dX1_fill_15 : decode cX1_fill 15 = .ok (.iload_n 2, 1) := by decide +kernel
theorem dX1_fill_16 : decode cX1_fill 16 = .ok (.ifCond .lt 10, 3) := by decide +kernel
theorem dX1_fill_19 : decode cX1_fill 19 = .ok (.iload_n 2, 1) := by decide +kernel
theorem dX1_fill_20 : decode cX1_fill 20 = .ok (.sipush 10000, 3) := by decide +kernel
theorem dX1_fill_23 : decode cX1_fill 23 = .ok (.if_icmp .le 5, 3) := by decide +kernel
theorem dX1_fill_26 : decode cX1_fill 26 = .ok (.iconst 0, 1) := by decide +kernel
theorem dX1_fill_27 : decode cX1_fill 27 = .ok (.ireturn, 1) := by decide +kernel
theorem dX1_fill_28 : decode cX1_fill 28 = .ok (.iconst 0, 1) := by decide +kernel
theorem dX1_fill_29 : decode cX1_fill 29 = .ok (.istore_n 3, 1) := by decide +kernel
theorem dX1_fill_30 : decode cX1_fill 30 = .ok (.iload_n 3, 1) := by decide +kernel
theorem dX1_fill_31 : decode cX1_fill 31 = .ok (.iload_n 2, 1) := by decide +kernel
theorem dX1_fill_32 : decode cX1_fill 32 = .ok (.if_icmp .ge 14, 3) := by decide +kernel
theorem dX1_fill_35 : decode cX1_fill 35 = .ok (.aload_n 0, 1) := by decide +kernel
theorem dX1_fill_36 : decode cX1_fill 36 = .ok (.iload_n 1, 1) := by decide +kernel
theorem dX1_fill_37 : decode cX1_fill 37 = .ok (.invokevirtual 42, 3) := by decide +kernel
theorem dX1_fill_40 : decode cX1_fill 40 = .ok (.iinc 3 1, 3) := by decide +kernel
theorem dX1_fill_43 : decode cX1_fill 43 = .ok (.goto (-13), 3) := by decide +kernel
theorem dX1_fill_46 : decode cX1_fill 46 = .ok (.iconst 1, 1) := by decide +kernel
theorem dX1_fill_47 : decode cX1_fill 47 = .ok (.ireturn, 1) := by decide +kernel
set_option maxRecDepth 20000 in
theorem ggX1_finish_X0_mixLast : GoodIn wsX1_finish wsX0_mixLast := goodIn_r _ [7, 8, 9, 10, 6, 11, 12, 13, 14, 15, 16, 17, 18, 19, 20, 21, 22, 23, 24, 25, 26, 27, 28, 34, 35, 36, 37, 38] (by decide +kernel) (by decide +kernel)
set_option maxRecDepth 20000 in
theorem gX1_finish_X0_mixLast : GoodIn wsX1_finish (wsV RX1 55 RX0 yX0_mixLast wsX0_mixLast) := goodIn_app (goodIn_of _ (by decide +kernel)) ggX1_finish_X0_mixLast
theorem dX1_finish_0 : decode cX1_finish 0 = .ok (.aload_n 0, 1) := by decide +kernel
theorem dX1_finish_1 : decode cX1_finish 1 = .ok (.getfield 20, 3) := by decide +kernel
theorem dX1_finish_4 : decode cX1_finish 4 = .ok (.iconst 2, 1) := by decide +kernel
theorem dX1_finish_5 : decode cX1_finish 5 = .ok (.if_icmp .eq 5, 3) := by decide +kernel
theorem dX1_finish_8 : decode cX1_finish 8 = .ok (.iconst 0, 1) := by decide +kernel
theorem dX1_finish_9 : decode cX1_finish 9 = .ok (.ireturn, 1) := by decide +kernel
theorem dX1_finish_10 : decode cX1_finish 10 = .ok (.aload_n 0, 1) := by decide +kernel
theorem dX1_finish_11 : decode cX1_finish 11 = .ok (.getfield 16, 3) := by decide +kernel
theorem dX1_finish_14 : decode cX1_finish 14 = .ok (.invokevirtual 55, 3) := by decide +kernel
theorem dX1_finish_17 : decode cX1_finish 17 = .ok (.aload_n 0, 1) := by decide +kernel
theorem dX1_finish_18 : decode cX1_finish 18 = .ok (.iconst 3, 1) := by decide +kernel
theorem dX1_finish_19 : decode cX1_finish 19 = .ok (.putfield 20, 3) := by decide +kernel
theorem dX1_finish_22 : decode cX1_finish 22 = .ok (.iconst 1, 1) := by decide +kernel
theorem dX1_finish_23 : decode cX1_finish 23 = .ok (.ireturn, 1) := by decide +kernel
set_option maxRecDepth 20000 in
theorem ggX1_out_X0_stateByte : GoodIn wsX1_out wsX0_stateByte := goodIn_r _ [8, 9, 15, 16, 17, 18, 19] (by decide +kernel) (by decide +kernel)
set_option maxRecDepth 20000 in
theorem gX1_out_X0_stateByte : GoodIn wsX1_out (wsV RX1 58 RX0 yX0_stateByte wsX0_stateByte) := goodIn_app (goodIn_of _ (by decide +kernel)) ggX1_out_X0_stateByte
theorem dX1_out_0 : decode cX1_out 0 = .ok (.aload_n 0, 1) := by decide +kernel
theorem dX1_out_1 : decode cX1_out 1 = .ok (.getfield 20, 3) := by decide +kernel
theorem dX1_out_4 : decode cX1_out 4 = .ok (.iconst 3, 1) := by decide +kernel
theorem dX1_out_5 : decode cX1_out 5 = .ok (.if_icmp .ne 15, 3) := by decide +kernel
theorem dX1_out_8 : decode cX1_out 8 = .ok (.iload_n 1, 1) := by decide +kernel
theorem dX1_out_9 : decode cX1_out 9 = .ok (.ifCond .lt 11, 3) := by decide +kernel
theorem dX1_out_12 : decode cX1_out 12 = .ok (.iload_n 1, 1) := by decide +kernel
theorem dX1_out_13 : decode cX1_out 13 = .ok (.aload_n 0, 1) := by decide +kernel
theorem dX1_out_14 : decode cX1_out 14 = .ok (.getfield 24, 3) := by decide +kernel
theorem dX1_out_17 : decode cX1_out 17 = .ok (.if_icmp .lt 5, 3) := by decide +kernel
theorem dX1_out_20 : decode cX1_out 20 = .ok (.iconst (-1), 1) := by decide +kernel
theorem dX1_out_21 : decode cX1_out 21 = .ok (.ireturn, 1) := by decide +kernel
theorem dX1_out_22 : decode cX1_out 22 = .ok (.aload_n 0, 1) := by decide +kernel
theorem dX1_out_23 : decode cX1_out 23 = .ok (.getfield 16, 3) := by decide +kernel
theorem dX1_out_26 : decode cX1_out 26 = .ok (.iload_n 1, 1) := by decide +kernel
theorem dX1_out_27 : decode cX1_out 27 = .ok (.invokevirtual 58, 3) := by decide +kernel
theorem dX1_out_30 : decode cX1_out 30 = .ok (.ireturn, 1) := by decide +kernel
set_option maxRecDepth 20000 in
theorem ggX1_length_X1_hasMessage : GoodIn wsX1_length wsX1_hasMessage := goodIn_r _ [6, 7, 8, 9, 10, 11, 12] (by decide +kernel) (by decide +kernel)
set_option maxRecDepth 20000 in
theorem gX1_length_X1_hasMessage : GoodIn wsX1_length (wsV RX1 62 RX1 yX1_hasMessage wsX1_hasMessage) := goodIn_app (goodIn_of _ (by decide +kernel)) ggX1_length_X1_hasMessage
theorem dX1_length_0 : decode cX1_length 0 = .ok (.aload_n 0, 1) := by decide +kernel
theorem dX1_length_1 : decode cX1_length 1 = .ok (.invokevirtual 62, 3) := by decide +kernel
theorem dX1_length_4 : decode cX1_length 4 = .ok (.ifCond .eq 10, 3) := by decide +kernel
theorem dX1_length_7 : decode cX1_length 7 = .ok (.aload_n 0, 1) := by decide +kernel
theorem dX1_length_8 : decode cX1_length 8 = .ok (.getfield 27, 3) := by decide +kernel
theorem dX1_length_11 : decode cX1_length 11 = .ok (.goto 4, 3) := by decide +kernel
theorem dX1_length_14 : decode cX1_length 14 = .ok (.iconst (-1), 1) := by decide +kernel
theorem dX1_length_15 : decode cX1_length 15 = .ok (.ireturn, 1) := by decide +kernel
set_option maxRecDepth 20000 in
theorem ggX1_word_X1_hasMessage : GoodIn wsX1_word wsX1_hasMessage := goodIn_r _ [6, 7, 14, 15, 16, 17, 18] (by decide +kernel) (by decide +kernel)
set_option maxRecDepth 20000 in
theorem gX1_word_X1_hasMessage : GoodIn wsX1_word (wsV RX1 62 RX1 yX1_hasMessage wsX1_hasMessage) := goodIn_app (goodIn_of _ (by decide +kernel)) ggX1_word_X1_hasMessage
set_option maxRecDepth 20000 in
theorem ggX1_word_X0_stateWord : GoodIn wsX1_word wsX0_stateWord := goodIn_r _ [12, 13, 19, 20, 21, 22, 23] (by decide +kernel) (by decide +kernel)
set_option maxRecDepth 20000 in
theorem gX1_word_X0_stateWord : GoodIn wsX1_word (wsV RX1 66 RX0 yX0_stateWord wsX0_stateWord) := goodIn_app (goodIn_of _ (by decide +kernel)) ggX1_word_X0_stateWord
theorem dX1_word_0 : decode cX1_word 0 = .ok (.aload_n 0, 1) := by decide +kernel
theorem dX1_word_1 : decode cX1_word 1 = .ok (.invokevirtual 62, 3) := by decide +kernel
theorem dX1_word_4 : decode cX1_word 4 = .ok (.ifCond .eq 13, 3) := by decide +kernel
theorem dX1_word_7 : decode cX1_word 7 = .ok (.iload_n 1, 1) := by decide +kernel
theorem dX1_word_8 : decode cX1_word 8 = .ok (.ifCond .lt 9, 3) := by decide +kernel
theorem dX1_word_11 : decode cX1_word 11 = .ok (.iload_n 1, 1) := by decide +kernel
theorem dX1_word_12 : decode cX1_word 12 = .ok (.bipush 8, 2) := by decide +kernel
theorem dX1_word_14 : decode cX1_word 14 = .ok (.if_icmp .lt 5, 3) := by decide +kernel
theorem dX1_word_17 : decode cX1_word 17 = .ok (.iconst 0, 1) := by decide +kernel
theorem dX1_word_18 : decode cX1_word 18 = .ok (.ireturn, 1) := by decide +kernel
theorem dX1_word_19 : decode cX1_word 19 = .ok (.aload_n 0, 1) := by decide +kernel
theorem dX1_word_20 : decode cX1_word 20 = .ok (.getfield 16, 3) := by decide +kernel
theorem dX1_word_23 : decode cX1_word 23 = .ok (.iload_n 1, 1) := by decide +kernel
theorem dX1_word_24 : decode cX1_word 24 = .ok (.invokevirtual 66, 3) := by decide +kernel
theorem dX1_word_27 : decode cX1_word 27 = .ok (.ireturn, 1) := by decide +kernel
theorem dX1_hasMessage_0 : decode cX1_hasMessage 0 = .ok (.aload_n 0, 1) := by decide +kernel
theorem dX1_hasMessage_1 : decode cX1_hasMessage 1 = .ok (.getfield 20, 3) := by decide +kernel
theorem dX1_hasMessage_4 : decode cX1_hasMessage 4 = .ok (.iconst 2, 1) := by decide +kernel
theorem dX1_hasMessage_5 : decode cX1_hasMessage 5 = .ok (.if_icmp .eq 11, 3) := by decide +kernel
theorem dX1_hasMessage_8 : decode cX1_hasMessage 8 = .ok (.aload_n 0, 1) := by decide +kernel
theorem dX1_hasMessage_9 : decode cX1_hasMessage 9 = .ok (.getfield 20, 3) := by decide +kernel
theorem dX1_hasMessage_12 : decode cX1_hasMessage 12 = .ok (.iconst 3, 1) := by decide +kernel
theorem dX1_hasMessage_13 : decode cX1_hasMessage 13 = .ok (.if_icmp .ne 7, 3) := by decide +kernel
theorem dX1_hasMessage_16 : decode cX1_hasMessage 16 = .ok (.iconst 1, 1) := by decide +kernel
theorem dX1_hasMessage_17 : decode cX1_hasMessage 17 = .ok (.goto 4, 3) := by decide +kernel
theorem dX1_hasMessage_20 : decode cX1_hasMessage 20 = .ok (.iconst 0, 1) := by decide +kernel
theorem dX1_hasMessage_21 : decode cX1_hasMessage 21 = .ok (.ireturn, 1) := by decide +kernel
set_option maxRecDepth 20000 in
theorem ggX1_addToMessage_X0_addByte : GoodIn wsX1_addToMessage wsX0_addByte := goodIn_r _ [7, 8, 9, 10, 11, 12, 13, 6, 14, 15, 16, 17, 18, 19, 20, 21, 22, 23, 24, 25, 26, 27, 28, 29, 30, 31, 32, 33, 39, 40, 41, 42, 43] (by decide +kernel) (by decide +kernel)
set_option maxRecDepth 20000 in
theorem gX1_addToMessage_X0_addByte : GoodIn wsX1_addToMessage (wsV RX1 69 RX0 yX0_addByte wsX0_addByte) := goodIn_app (goodIn_of _ (by decide +kernel)) ggX1_addToMessage_X0_addByte
theorem dX1_addToMessage_0 : decode cX1_addToMessage 0 = .ok (.aload_n 0, 1) := by decide +kernel
theorem dX1_addToMessage_1 : decode cX1_addToMessage 1 = .ok (.getfield 16, 3) := by decide +kernel
theorem dX1_addToMessage_4 : decode cX1_addToMessage 4 = .ok (.iload_n 1, 1) := by decide +kernel
theorem dX1_addToMessage_5 : decode cX1_addToMessage 5 = .ok (.invokevirtual 69, 3) := by decide +kernel
theorem dX1_addToMessage_8 : decode cX1_addToMessage 8 = .ok (.aload_n 0, 1) := by decide +kernel
theorem dX1_addToMessage_9 : decode cX1_addToMessage 9 = .ok (.dup, 1) := by decide +kernel
theorem dX1_addToMessage_10 : decode cX1_addToMessage 10 = .ok (.getfield 27, 3) := by decide +kernel
theorem dX1_addToMessage_13 : decode cX1_addToMessage 13 = .ok (.iconst 1, 1) := by decide +kernel
theorem dX1_addToMessage_14 : decode cX1_addToMessage 14 = .ok (.iadd, 1) := by decide +kernel
theorem dX1_addToMessage_15 : decode cX1_addToMessage 15 = .ok (.putfield 27, 3) := by decide +kernel
theorem dX1_addToMessage_18 : decode cX1_addToMessage 18 = .ok (.return_, 1) := by decide +kernel
set_option maxRecDepth 20000 in
theorem ggX1_addHighestFirst_X1_addToMessage : GoodIn wsX1_addHighestFirst wsX1_addToMessage := goodIn_r _ [5, 6, 7, 8, 9, 10, 11, 12, 13, 14, 15, 16, 17, 18, 19, 20, 21, 22, 23, 24, 25, 26, 27, 28, 29, 30, 31, 32, 33, 34, 35, 36, 37, 38, 39, 40, 41, 42, 43, 44, 45, 46, 47, 48] (by decide +kernel) (by decide +kernel)
set_option maxRecDepth 20000 in
theorem gX1_addHighestFirst_X1_addToMessage : GoodIn wsX1_addHighestFirst (wsV RX1 42 RX1 yX1_addToMessage wsX1_addToMessage) := goodIn_app (goodIn_of _ (by decide +kernel)) ggX1_addHighestFirst_X1_addToMessage
theorem dX1_addHighestFirst_0 : decode cX1_addHighestFirst 0 = .ok (.iconst 0, 1) := by decide +kernel
theorem dX1_addHighestFirst_1 : decode cX1_addHighestFirst 1 = .ok (.istore_n 3, 1) := by decide +kernel
theorem dX1_addHighestFirst_2 : decode cX1_addHighestFirst 2 = .ok (.iload_n 3, 1) := by decide +kernel
theorem dX1_addHighestFirst_3 : decode cX1_addHighestFirst 3 = .ok (.iload_n 2, 1) := by decide +kernel
theorem dX1_addHighestFirst_4 : decode cX1_addHighestFirst 4 = .ok (.if_icmp .ge 26, 3) := by decide +kernel
theorem dX1_addHighestFirst_7 : decode cX1_addHighestFirst 7 = .ok (.aload_n 0, 1) := by decide +kernel
theorem dX1_addHighestFirst_8 : decode cX1_addHighestFirst 8 = .ok (.iload_n 1, 1) := by decide +kernel
theorem dX1_addHighestFirst_9 : decode cX1_addHighestFirst 9 = .ok (.bipush 24, 2) := by decide +kernel
theorem dX1_addHighestFirst_11 : decode cX1_addHighestFirst 11 = .ok (.bipush 8, 2) := by decide +kernel
theorem dX1_addHighestFirst_13 : decode cX1_addHighestFirst 13 = .ok (.iload_n 3, 1) := by decide +kernel
theorem dX1_addHighestFirst_14 : decode cX1_addHighestFirst 14 = .ok (.imul, 1) := by decide +kernel
theorem dX1_addHighestFirst_15 : decode cX1_addHighestFirst 15 = .ok (.isub, 1) := by decide +kernel
theorem dX1_addHighestFirst_16 : decode cX1_addHighestFirst 16 = .ok (.iushr, 1) := by decide +kernel
theorem dX1_addHighestFirst_17 : decode cX1_addHighestFirst 17 = .ok (.sipush 255, 3) := by decide +kernel
theorem dX1_addHighestFirst_20 : decode cX1_addHighestFirst 20 = .ok (.iand, 1) := by decide +kernel
theorem dX1_addHighestFirst_21 : decode cX1_addHighestFirst 21 = .ok (.invokevirtual 42, 3) := by decide +kernel
theorem dX1_addHighestFirst_24 : decode cX1_addHighestFirst 24 = .ok (.iinc 3 1, 3) := by decide +kernel
theorem dX1_addHighestFirst_27 : decode cX1_addHighestFirst 27 = .ok (.goto (-25), 3) := by decide +kernel
theorem dX1_addHighestFirst_30 : decode cX1_addHighestFirst 30 = .ok (.return_, 1) := by decide +kernel
theorem dX1_isByte_0 : decode cX1_isByte 0 = .ok (.iload_n 0, 1) := by decide +kernel
theorem dX1_isByte_1 : decode cX1_isByte 1 = .ok (.ifCond .lt 14, 3) := by decide +kernel
theorem dX1_isByte_4 : decode cX1_isByte 4 = .ok (.iload_n 0, 1) := by decide +kernel
theorem dX1_isByte_5 : decode cX1_isByte 5 = .ok (.sipush 255, 3) := by decide +kernel
theorem dX1_isByte_8 : decode cX1_isByte 8 = .ok (.if_icmp .gt 7, 3) := by decide +kernel
theorem dX1_isByte_11 : decode cX1_isByte 11 = .ok (.iconst 1, 1) := by decide +kernel
theorem dX1_isByte_12 : decode cX1_isByte 12 = .ok (.goto 4, 3) := by decide +kernel
theorem dX1_isByte_15 : decode cX1_isByte 15 = .ok (.iconst 0, 1) := by decide +kernel
theorem dX1_isByte_16 : decode cX1_isByte 16 = .ok (.ireturn, 1) := by decide +kernel
end
section
theorem dX2_init_0 : decode cX2_init 0 = .ok (.aload_n 0, 1) := by decide +kernel
theorem dX2_init_1 : decode cX2_init 1 = .ok (.invokespecial 1, 3) := by decide +kernel
theorem dX2_init_4 : decode cX2_init 4 = .ok (.aload_n 0, 1) := by decide +kernel
theorem dX2_init_5 : decode cX2_init 5 = .ok (.bipush 32, 2) := by decide +kernel
theorem dX2_init_7 : decode cX2_init 7 = .ok (.newarray .int, 2) := by decide +kernel
theorem dX2_init_9 : decode cX2_init 9 = .ok (.putfield 7, 3) := by decide +kernel
theorem dX2_init_12 : decode cX2_init 12 = .ok (.aload_n 0, 1) := by decide +kernel
theorem dX2_init_13 : decode cX2_init 13 = .ok (.bipush 8, 2) := by decide +kernel
theorem dX2_init_15 : decode cX2_init 15 = .ok (.newarray .int, 2) := by decide +kernel
theorem dX2_init_17 : decode cX2_init 17 = .ok (.putfield 13, 3) := by decide +kernel
theorem dX2_init_20 : decode cX2_init 20 = .ok (.aload_n 0, 1) := by decide +kernel
theorem dX2_init_21 : decode cX2_init 21 = .ok (.bipush 16, 2) := by decide +kernel
theorem dX2_init_23 : decode cX2_init 23 = .ok (.newarray .int, 2) := by decide +kernel
theorem dX2_init_25 : decode cX2_init 25 = .ok (.putfield 16, 3) := by decide +kernel
theorem dX2_init_28 : decode cX2_init 28 = .ok (.aload_n 0, 1) := by decide +kernel
theorem dX2_init_29 : decode cX2_init 29 = .ok (.bipush 16, 2) := by decide +kernel
theorem dX2_init_31 : decode cX2_init 31 = .ok (.newarray .int, 2) := by decide +kernel
theorem dX2_init_33 : decode cX2_init 33 = .ok (.putfield 19, 3) := by decide +kernel
theorem dX2_init_36 : decode cX2_init 36 = .ok (.aload_n 0, 1) := by decide +kernel
theorem dX2_init_37 : decode cX2_init 37 = .ok (.bipush 64, 2) := by decide +kernel
theorem dX2_init_39 : decode cX2_init 39 = .ok (.newarray .int, 2) := by decide +kernel
theorem dX2_init_41 : decode cX2_init 41 = .ok (.putfield 22, 3) := by decide +kernel
theorem dX2_init_44 : decode cX2_init 44 = .ok (.aload_n 0, 1) := by decide +kernel
theorem dX2_init_45 : decode cX2_init 45 = .ok (.sipush 160, 3) := by decide +kernel
theorem dX2_init_48 : decode cX2_init 48 = .ok (.newarray .int, 2) := by decide +kernel
theorem dX2_init_50 : decode cX2_init 50 = .ok (.dup, 1) := by decide +kernel
theorem dX2_init_51 : decode cX2_init 51 = .ok (.iconst 0, 1) := by decide +kernel
theorem dX2_init_52 : decode cX2_init 52 = .ok (.iconst 0, 1) := by decide +kernel
theorem dX2_init_53 : decode cX2_init 53 = .ok (.iastore, 1) := by decide +kernel
theorem dX2_init_54 : decode cX2_init 54 = .ok (.dup, 1) := by decide +kernel
theorem dX2_init_55 : decode cX2_init 55 = .ok (.iconst 1, 1) := by decide +kernel
theorem dX2_init_56 : decode cX2_init 56 = .ok (.iconst 1, 1) := by decide +kernel
theorem dX2_init_57 : decode cX2_init 57 = .ok (.iastore, 1) := by decide +kernel
theorem dX2_init_58 : decode cX2_init 58 = .ok (.dup, 1) := by decide +kernel
theorem dX2_init_59 : decode cX2_init 59 = .ok (.iconst 2, 1) := by decide +kernel
theorem dX2_init_60 : decode cX2_init 60 = .ok (.iconst 2, 1) := by decide +kernel
theorem dX2_init_61 : decode cX2_init 61 = .ok (.iastore, 1) := by decide +kernel
theorem dX2_init_62 : decode cX2_init 62 = .ok (.dup, 1) := by decide +kernel
theorem dX2_init_63 : decode cX2_init 63 = .ok (.iconst 3, 1) := by decide +kernel
theorem dX2_init_64 : decode cX2_init 64 = .ok (.iconst 3, 1) := by decide +kernel
theorem dX2_init_65 : decode cX2_init 65 = .ok (.iastore, 1) := by decide +kernel
theorem dX2_init_66 : decode cX2_init 66 = .ok (.dup, 1) := by decide +kernel
theorem dX2_init_67 : decode cX2_init 67 = .ok (.iconst 4, 1) := by decide +kernel
theorem dX2_init_68 : decode cX2_init 68 = .ok (.iconst 4, 1) := by decide +kernel
theorem dX2_init_69 : decode cX2_init 69 = .ok (.iastore, 1) := by decide +kernel
theorem dX2_init_70 : decode cX2_init 70 = .ok (.dup, 1) := by decide +kernel
theorem dX2_init_71 : decode cX2_init 71 = .ok (.iconst 5, 1) := by decide +kernel
theorem dX2_init_72 : decode cX2_init 72 = .ok (.iconst 5, 1) := by decide +kernel
theorem dX2_init_73 : decode cX2_init 73 = .ok (.iastore, 1) := by decide +kernel
theorem dX2_init_74 : decode cX2_init 74 = .ok (.dup, 1) := by decide +kernel
theorem dX2_init_75 : decode cX2_init 75 = .ok (.bipush 6, 2) := by decide +kernel
theorem dX2_init_77 : decode cX2_init 77 = .ok (.bipush 6, 2) := by decide +kernel
theorem dX2_init_79 : decode cX2_init 79 = .ok (.iastore, 1) := by decide +kernel
theorem dX2_init_80 : decode cX2_init 80 = .ok (.dup, 1) := by decide +kernel
theorem dX2_init_81 : decode cX2_init 81 = .ok (.bipush 7, 2) := by decide +kernel
theorem dX2_init_83 : decode cX2_init 83 = .ok (.bipush 7, 2) := by decide +kernel
theorem dX2_init_85 : decode cX2_init 85 = .ok (.iastore, 1) := by decide +kernel
theorem dX2_init_86 : decode cX2_init 86 = .ok (.dup, 1) := by decide +kernel
theorem dX2_init_87 : decode cX2_init 87 = .ok (.bipush 8, 2) := by decide +kernel
theorem dX2_init_89 : decode cX2_init 89 = .ok (.bipush 8, 2) := by decide +kernel
theorem dX2_init_91 : decode cX2_init 91 = .ok (.iastore, 1) := by decide +kernel
theorem dX2_init_92 : decode cX2_init 92 = .ok (.dup, 1) := by decide +kernel
theorem dX2_init_93 : decode cX2_init 93 = .ok (.bipush 9, 2) := by decide +kernel
theorem dX2_init_95 : decode cX2_init 95 = .ok (.bipush 9, 2) := by decide +kernel
theorem dX2_init_97 : decode cX2_init 97 = .ok (.iastore, 1) := by decide +kernel
theorem dX2_init_98 : decode cX2_init 98 = .ok (.dup, 1) := by decide +kernel
theorem dX2_init_99 : decode cX2_init 99 = .ok (.bipush 10, 2) := by decide +kernel
theorem dX2_init_101 : decode cX2_init 101 = .ok (.bipush 10, 2) := by decide +kernel
theorem dX2_init_103 : decode cX2_init 103 = .ok (.iastore, 1) := by decide +kernel
theorem dX2_init_104 : decode cX2_init 104 = .ok (.dup, 1) := by decide +kernel
theorem dX2_init_105 : decode cX2_init 105 = .ok (.bipush 11, 2) := by decide +kernel
theorem dX2_init_107 : decode cX2_init 107 = .ok (.bipush 11, 2) := by decide +kernel
theorem dX2_init_109 : decode cX2_init 109 = .ok (.iastore, 1) := by decide +kernel
theorem dX2_init_110 : decode cX2_init 110 = .ok (.dup, 1) := by decide +kernel
theorem dX2_init_111 : decode cX2_init 111 = .ok (.bipush 12, 2) := by decide +kernel
theorem dX2_init_113 : decode cX2_init 113 = .ok (.bipush 12, 2) := by decide +kernel
theorem dX2_init_115 : decode cX2_init 115 = .ok (.iastore, 1) := by decide +kernel
theorem dX2_init_116 : decode cX2_init 116 = .ok (.dup, 1) := by decide +kernel
theorem dX2_init_117 : decode cX2_init 117 = .ok (.bipush 13, 2) := by decide +kernel
theorem dX2_init_119 : decode cX2_init 119 = .ok (.bipush 13, 2) := by decide +kernel
theorem dX2_init_121 : decode cX2_init 121 = .ok (.iastore, 1) := by decide +kernel
theorem dX2_init_122 : decode cX2_init 122 = .ok (.dup, 1) := by decide +kernel
theorem dX2_init_123 : decode cX2_init 123 = .ok (.bipush 14, 2) := by decide +kernel
theorem dX2_init_125 : decode cX2_init 125 = .ok (.bipush 14, 2) := by decide +kernel
theorem dX2_init_127 : decode cX2_init 127 = .ok (.iastore, 1) := by decide +kernel
theorem dX2_init_128 : decode cX2_init 128 = .ok (.dup, 1) := by decide +kernel
theorem dX2_init_129 : decode cX2_init 129 = .ok (.bipush 15, 2) := by decide +kernel
theorem dX2_init_131 : decode cX2_init 131 = .ok (.bipush 15, 2) := by decide +kernel
theorem dX2_init_133 : decode cX2_init 133 = .ok (.iastore, 1) := by decide +kernel
theorem dX2_init_134 : decode cX2_init 134 = .ok (.dup, 1) := by decide +kernel
theorem dX2_init_135 : decode cX2_init 135 = .ok (.bipush 16, 2) := by decide +kernel
theorem dX2_init_137 : decode cX2_init 137 = .ok (.bipush 14, 2) := by decide +kernel
theorem dX2_init_139 : decode cX2_init 139 = .ok (.iastore, 1) := by decide +kernel
theorem dX2_init_140 : decode cX2_init 140 = .ok (.dup, 1) := by decide +kernel
theorem dX2_init_141 : decode cX2_init 141 = .ok (.bipush 17, 2) := by decide +kernel
theorem dX2_init_143 : decode cX2_init 143 = .ok (.bipush 10, 2) := by decide +kernel
theorem dX2_init_145 : decode cX2_init 145 = .ok (.iastore, 1) := by decide +kernel
theorem dX2_init_146 : decode cX2_init 146 = .ok (.dup, 1) := by decide +kernel
theorem dX2_init_147 : decode cX2_init 147 = .ok (.bipush 18, 2) := by decide +kernel
theorem dX2_init_149 : decode cX2_init 149 = .ok (.iconst 4, 1) := by decide +kernel
theorem dX2_init_150 : decode cX2_init 150 = .ok (.iastore, 1) := by decide +kernel
theorem dX2_init_151 : decode cX2_init 151 = .ok (.dup, 1) := by decide +kernel
theorem dX2_init_152 : decode cX2_init 152 = .ok (.bipush 19, 2) := by decide +kernel
theorem dX2_init_154 : decode cX2_init 154 = .ok (.bipush 8, 2) := by decide +kernel
theorem dX2_init_156 : decode cX2_init 156 = .ok (.iastore, 1) := by decide +kernel
theorem dX2_init_157 : decode cX2_init 157 = .ok (.dup, 1) := by decide +kernel
theorem dX2_init_158 : decode cX2_init 158 = .ok (.bipush 20, 2) := by decide +kernel
theorem dX2_init_160 : decode cX2_init 160 = .ok (.bipush 9, 2) := by decide +kernel
theorem dX2_init_162 : decode cX2_init 162 = .ok (.iastore, 1) := by decide +kernel
theorem dX2_init_163 : decode cX2_init 163 = .ok (.dup, 1) := by decide +kernel
theorem dX2_init_164 : decode cX2_init 164 = .ok (.bipush 21, 2) := by decide +kernel
theorem dX2_init_166 : decode cX2_init 166 = .ok (.bipush 15, 2) := by decide +kernel
theorem dX2_init_168 : decode cX2_init 168 = .ok (.iastore, 1) := by decide +kernel
theorem dX2_init_169 : decode cX2_init 169 = .ok (.dup, 1) := by decide +kernel
theorem dX2_init_170 : decode cX2_init 170 = .ok (.bipush 22, 2) := by decide +kernel
theorem dX2_init_172 : decode cX2_init 172 = .ok (.bipush 13, 2) := by decide +kernel
theorem dX2_init_174 : decode cX2_init 174 = .ok (.iastore, 1) := by decide +kernel
theorem dX2_init_175 : decode cX2_init 175 = .ok (.dup, 1) := by decide +kernel
theorem dX2_init_176 : decode cX2_init 176 = .ok (.bipush 23, 2) := by decide +kernel
theorem dX2_init_178 : decode cX2_init 178 = .ok (.bipush 6, 2) := by decide +kernel
theorem dX2_init_180 : decode cX2_init 180 = .ok (.iastore, 1) := by decide +kernel
theorem dX2_init_181 : decode cX2_init 181 = .ok (.dup, 1) := by decide +kernel
theorem dX2_init_182 : decode cX2_init 182 = .ok (.bipush 24, 2) := by decide +kernel
theorem dX2_init_184 : decode cX2_init 184 = .ok (.iconst 1, 1) := by decide +kernel
theorem dX2_init_185 : decode cX2_init 185 = .ok (.iastore, 1) := by decide +kernel
theorem dX2_init_186 : decode cX2_init 186 = .ok (.dup, 1) := by decide +kernel
theorem dX2_init_187 : decode cX2_init 187 = .ok (.bipush 25, 2) := by decide +kernel
theorem dX2_init_189 : decode cX2_init 189 = .ok (.bipush 12, 2) := by decide +kernel
theorem dX2_init_191 : decode cX2_init 191 = .ok (.iastore, 1) := by decide +kernel
theorem dX2_init_192 : decode cX2_init 192 = .ok (.dup, 1) := by decide +kernel
theorem dX2_init_193 : decode cX2_init 193 = .ok (.bipush 26, 2) := by decide +kernel
theorem dX2_init_195 : decode cX2_init 195 = .ok (.iconst 0, 1) := by decide +kernel
theorem dX2_init_196 : decode cX2_init 196 = .ok (.iastore, 1) := by decide +kernel
theorem dX2_init_197 : decode cX2_init 197 = .ok (.dup, 1) := by decide +kernel
theorem dX2_init_198 : decode cX2_init 198 = .ok (.bipush 27, 2) := by decide +kernel
theorem dX2_init_200 : decode cX2_init 200 = .ok (.iconst 2, 1) := by decide +kernel
theorem dX2_init_201 : decode cX2_init 201 = .ok (.iastore, 1) := by decide +kernel
theorem dX2_init_202 : decode cX2_init 202 = .ok (.dup, 1) := by decide +kernel
theorem dX2_init_203 : decode cX2_init 203 = .ok (.bipush 28, 2) := by decide +kernel
theorem dX2_init_205 : decode cX2_init 205 = .ok (.bipush 11, 2) := by decide +kernel
theorem dX2_init_207 : decode cX2_init 207 = .ok (.iastore, 1) := by decide +kernel
theorem dX2_init_208 : decode cX2_init 208 = .ok (.dup, 1) := by decide +kernel
theorem dX2_init_209 : decode cX2_init 209 = .ok (.bipush 29, 2) := by decide +kernel
theorem dX2_init_211 : decode cX2_init 211 = .ok (.bipush 7, 2) := by decide +kernel
theorem dX2_init_213 : decode cX2_init 213 = .ok (.iastore, 1) := by decide +kernel
theorem dX2_init_214 : decode cX2_init 214 = .ok (.dup, 1) := by decide +kernel
theorem dX2_init_215 : decode cX2_init 215 = .ok (.bipush 30, 2) := by decide +kernel
theorem dX2_init_217 : decode cX2_init 217 = .ok (.iconst 5, 1) := by decide +kernel
theorem dX2_init_218 : decode cX2_init 218 = .ok (.iastore, 1) := by decide +kernel
theorem dX2_init_219 : decode cX2_init 219 = .ok (.dup, 1) := by decide +kernel
theorem dX2_init_220 : decode cX2_init 220 = .ok (.bipush 31, 2) := by decide +kernel
theorem dX2_init_222 : decode cX2_init 222 = .ok (.iconst 3, 1) := by decide +kernel
theorem dX2_init_223 : decode cX2_init 223 = .ok (.iastore, 1) := by decide +kernel
theorem dX2_init_224 : decode cX2_init 224 = .ok (.dup, 1) := by decide +kernel
theorem dX2_init_225 : decode cX2_init 225 = .ok (.bipush 32, 2) := by decide +kernel
theorem dX2_init_227 : decode cX2_init 227 = .ok (.bipush 11, 2) := by decide +kernel
theorem dX2_init_229 : decode cX2_init 229 = .ok (.iastore, 1) := by decide +kernel
theorem dX2_init_230 : decode cX2_init 230 = .ok (.dup, 1) := by decide +kernel
theorem dX2_init_231 : decode cX2_init 231 = .ok (.bipush 33, 2) := by decide +kernel
theorem dX2_init_233 : decode cX2_init 233 = .ok (.bipush 8, 2) := by decide +kernel
theorem dX2_init_235 : decode cX2_init 235 = .ok (.iastore, 1) := by decide +kernel
theorem dX2_init_236 : decode cX2_init 236 = .ok (.dup, 1) := by decide +kernel
theorem dX2_init_237 : decode cX2_init 237 = .ok (.bipush 34, 2) := by decide +kernel
theorem dX2_init_239 : decode cX2_init 239 = .ok (.bipush 12, 2) := by decide +kernel
theorem dX2_init_241 : decode cX2_init 241 = .ok (.iastore, 1) := by decide +kernel
theorem dX2_init_242 : decode cX2_init 242 = .ok (.dup, 1) := by decide +kernel
theorem dX2_init_243 : decode cX2_init 243 = .ok (.bipush 35, 2) := by decide +kernel
theorem dX2_init_245 : decode cX2_init 245 = .ok (.iconst 0, 1) := by decide +kernel
theorem dX2_init_246 : decode cX2_init 246 = .ok (.iastore, 1) := by decide +kernel
theorem dX2_init_247 : decode cX2_init 247 = .ok (.dup, 1) := by decide +kernel
theorem dX2_init_248 : decode cX2_init 248 = .ok (.bipush 36, 2) := by decide +kernel
theorem dX2_init_250 : decode cX2_init 250 = .ok (.iconst 5, 1) := by decide +kernel
theorem dX2_init_251 : decode cX2_init 251 = .ok (.iastore, 1) := by decide +kernel
theorem dX2_init_252 : decode cX2_init 252 = .ok (.dup, 1) := by decide +kernel
theorem dX2_init_253 : decode cX2_init 253 = .ok (.bipush 37, 2) := by decide +kernel
theorem dX2_init_255 : decode cX2_init 255 = .ok (.iconst 2, 1) := by decide +kernel
theorem dX2_init_256 : decode cX2_init 256 = .ok (.iastore, 1) := by decide +kernel
theorem dX2_init_257 : decode cX2_init 257 = .ok (.dup, 1) := by decide +kernel
theorem dX2_init_258 : decode cX2_init 258 = .ok (.bipush 38, 2) := by decide +kernel
theorem dX2_init_260 : decode cX2_init 260 = .ok (.bipush 15, 2) := by decide +kernel
theorem dX2_init_262 : decode cX2_init 262 = .ok (.iastore, 1) := by decide +kernel
theorem dX2_init_263 : decode cX2_init 263 = .ok (.dup, 1) := by decide +kernel
theorem dX2_init_264 : decode cX2_init 264 = .ok (.bipush 39, 2) := by decide +kernel
theorem dX2_init_266 : decode cX2_init 266 = .ok (.bipush 13, 2) := by decide +kernel
theorem dX2_init_268 : decode cX2_init 268 = .ok (.iastore, 1) := by decide +kernel
theorem dX2_init_269 : decode cX2_init 269 = .ok (.dup, 1) := by decide +kernel
theorem dX2_init_270 : decode cX2_init 270 = .ok (.bipush 40, 2) := by decide +kernel
theorem dX2_init_272 : decode cX2_init 272 = .ok (.bipush 10, 2) := by decide +kernel
theorem dX2_init_274 : decode cX2_init 274 = .ok (.iastore, 1) := by decide +kernel
theorem dX2_init_275 : decode cX2_init 275 = .ok (.dup, 1) := by decide +kernel
theorem dX2_init_276 : decode cX2_init 276 = .ok (.bipush 41, 2) := by decide +kernel
theorem dX2_init_278 : decode cX2_init 278 = .ok (.bipush 14, 2) := by decide +kernel
theorem dX2_init_280 : decode cX2_init 280 = .ok (.iastore, 1) := by decide +kernel
theorem dX2_init_281 : decode cX2_init 281 = .ok (.dup, 1) := by decide +kernel
theorem dX2_init_282 : decode cX2_init 282 = .ok (.bipush 42, 2) := by decide +kernel
theorem dX2_init_284 : decode cX2_init 284 = .ok (.iconst 3, 1) := by decide +kernel
theorem dX2_init_285 : decode cX2_init 285 = .ok (.iastore, 1) := by decide +kernel
theorem dX2_init_286 : decode cX2_init 286 = .ok (.dup, 1) := by decide +kernel
theorem dX2_init_287 : decode cX2_init 287 = .ok (.bipush 43, 2) := by decide +kernel
theorem dX2_init_289 : decode cX2_init 289 = .ok (.bipush 6, 2) := by decide +kernel
theorem dX2_init_291 : decode cX2_init 291 = .ok (.iastore, 1) := by decide +kernel
theorem dX2_init_292 : decode cX2_init 292 = .ok (.dup, 1) := by decide +kernel
theorem dX2_init_293 : decode cX2_init 293 = .ok (.bipush 44, 2) := by decide +kernel
theorem dX2_init_295 : decode cX2_init 295 = .ok (.bipush 7, 2) := by decide +kernel
theorem dX2_init_297 : decode cX2_init 297 = .ok (.iastore, 1) := by decide +kernel
theorem dX2_init_298 : decode cX2_init 298 = .ok (.dup, 1) := by decide +kernel
theorem dX2_init_299 : decode cX2_init 299 = .ok (.bipush 45, 2) := by decide +kernel
theorem dX2_init_301 : decode cX2_init 301 = .ok (.iconst 1, 1) := by decide +kernel
theorem dX2_init_302 : decode cX2_init 302 = .ok (.iastore, 1) := by decide +kernel
theorem dX2_init_303 : decode cX2_init 303 = .ok (.dup, 1) := by decide +kernel
theorem dX2_init_304 : decode cX2_init 304 = .ok (.bipush 46, 2) := by decide +kernel
theorem dX2_init_306 : decode cX2_init 306 = .ok (.bipush 9, 2) := by decide +kernel
theorem dX2_init_308 : decode cX2_init 308 = .ok (.iastore, 1) := by decide +kernel
theorem dX2_init_309 : decode cX2_init 309 = .ok (.dup, 1) := by decide +kernel
theorem dX2_init_310 : decode cX2_init 310 = .ok (.bipush 47, 2) := by decide +kernel
theorem dX2_init_312 : decode cX2_init 312 = .ok (.iconst 4, 1) := by decide +kernel
theorem dX2_init_313 : decode cX2_init 313 = .ok (.iastore, 1) := by decide +kernel
theorem dX2_init_314 : decode cX2_init 314 = .ok (.dup, 1) := by decide +kernel
theorem dX2_init_315 : decode cX2_init 315 = .ok (.bipush 48, 2) := by decide +kernel
theorem dX2_init_317 : decode cX2_init 317 = .ok (.bipush 7, 2) := by decide +kernel
theorem dX2_init_319 : decode cX2_init 319 = .ok (.iastore, 1) := by decide +kernel
theorem dX2_init_320 : decode cX2_init 320 = .ok (.dup, 1) := by decide +kernel
theorem dX2_init_321 : decode cX2_init 321 = .ok (.bipush 49, 2) := by decide +kernel
theorem dX2_init_323 : decode cX2_init 323 = .ok (.bipush 9, 2) := by decide +kernel
theorem dX2_init_325 : decode cX2_init 325 = .ok (.iastore, 1) := by decide +kernel
theorem dX2_init_326 : decode cX2_init 326 = .ok (.dup, 1) := by decide +kernel
theorem dX2_init_327 : decode cX2_init 327 = .ok (.bipush 50, 2) := by decide +kernel
theorem dX2_init_329 : decode cX2_init 329 = .ok (.iconst 3, 1) := by decide +kernel
theorem dX2_init_330 : decode cX2_init 330 = .ok (.iastore, 1) := by decide +kernel
theorem dX2_init_331 : decode cX2_init 331 = .ok (.dup, 1) := by decide +kernel
theorem dX2_init_332 : decode cX2_init 332 = .ok (.bipush 51, 2) := by decide +kernel
theorem dX2_init_334 : decode cX2_init 334 = .ok (.iconst 1, 1) := by decide +kernel
theorem dX2_init_335 : decode cX2_init 335 = .ok (.iastore, 1) := by decide +kernel
theorem dX2_init_336 : decode cX2_init 336 = .ok (.dup, 1) := by decide +kernel
theorem dX2_init_337 : decode cX2_init 337 = .ok (.bipush 52, 2) := by decide +kernel
theorem dX2_init_339 : decode cX2_init 339 = .ok (.bipush 13, 2) := by decide +kernel
theorem dX2_init_341 : decode cX2_init 341 = .ok (.iastore, 1) := by decide +kernel
theorem dX2_init_342 : decode cX2_init 342 = .ok (.dup, 1) := by decide +kernel
theorem dX2_init_343 : decode cX2_init 343 = .ok (.bipush 53, 2) := by decide +kernel
theorem dX2_init_345 : decode cX2_init 345 = .ok (.bipush 12, 2) := by decide +kernel
theorem dX2_init_347 : decode cX2_init 347 = .ok (.iastore, 1) := by decide +kernel
theorem dX2_init_348 : decode cX2_init 348 = .ok (.dup, 1) := by decide +kernel
theorem dX2_init_349 : decode cX2_init 349 = .ok (.bipush 54, 2) := by decide +kernel
theorem dX2_init_351 : decode cX2_init 351 = .ok (.bipush 11, 2) := by decide +kernel
theorem dX2_init_353 : decode cX2_init 353 = .ok (.iastore, 1) := by decide +kernel
theorem dX2_init_354 : decode cX2_init 354 = .ok (.dup, 1) := by decide +kernel
theorem dX2_init_355 : decode cX2_init 355 = .ok (.bipush 55, 2) := by decide +kernel
theorem dX2_init_357 : decode cX2_init 357 = .ok (.bipush 14, 2) := by decide +kernel
theorem dX2_init_359 : decode cX2_init 359 = .ok (.iastore, 1) := by decide +kernel
theorem dX2_init_360 : decode cX2_init 360 = .ok (.dup, 1) := by decide +kernel
theorem dX2_init_361 : decode cX2_init 361 = .ok (.bipush 56, 2) := by decide +kernel
theorem dX2_init_363 : decode cX2_init 363 = .ok (.iconst 2, 1) := by decide +kernel
theorem dX2_init_364 : decode cX2_init 364 = .ok (.iastore, 1) := by decide +kernel
theorem dX2_init_365 : decode cX2_init 365 = .ok (.dup, 1) := by decide +kernel
theorem dX2_init_366 : decode cX2_init 366 = .ok (.bipush 57, 2) := by decide +kernel
theorem dX2_init_368 : decode cX2_init 368 = .ok (.bipush 6, 2) := by decide +kernel
theorem dX2_init_370 : decode cX2_init 370 = .ok (.iastore, 1) := by decide +kernel
theorem dX2_init_371 : decode cX2_init 371 = .ok (.dup, 1) := by decide +kernel
theorem dX2_init_372 : decode cX2_init 372 = .ok (.bipush 58, 2) := by decide +kernel
theorem dX2_init_374 : decode cX2_init 374 = .ok (.iconst 5, 1) := by decide +kernel
theorem dX2_init_375 : decode cX2_init 375 = .ok (.iastore, 1) := by decide +kernel
theorem dX2_init_376 : decode cX2_init 376 = .ok (.dup, 1) := by decide +kernel
theorem dX2_init_377 : decode cX2_init 377 = .ok (.bipush 59, 2) := by decide +kernel
theorem dX2_init_379 : decode cX2_init 379 = .ok (.bipush 10, 2) := by decide +kernel
theorem dX2_init_381 : decode cX2_init 381 = .ok (.iastore, 1) := by decide +kernel
theorem dX2_init_382 : decode cX2_init 382 = .ok (.dup, 1) := by decide +kernel
theorem dX2_init_383 : decode cX2_init 383 = .ok (.bipush 60, 2) := by decide +kernel
theorem dX2_init_385 : decode cX2_init 385 = .ok (.iconst 4, 1) := by decide +kernel
theorem dX2_init_386 : decode cX2_init 386 = .ok (.iastore, 1) := by decide +kernel
theorem dX2_init_387 : decode cX2_init 387 = .ok (.dup, 1) := by decide +kernel
theorem dX2_init_388 : decode cX2_init 388 = .ok (.bipush 61, 2) := by decide +kernel
theorem dX2_init_390 : decode cX2_init 390 = .ok (.iconst 0, 1) := by decide +kernel
theorem dX2_init_391 : decode cX2_init 391 = .ok (.iastore, 1) := by decide +kernel
theorem dX2_init_392 : decode cX2_init 392 = .ok (.dup, 1) := by decide +kernel
theorem dX2_init_393 : decode cX2_init 393 = .ok (.bipush 62, 2) := by decide +kernel
theorem dX2_init_395 : decode cX2_init 395 = .ok (.bipush 15, 2) := by decide +kernel
theorem dX2_init_397 : decode cX2_init 397 = .ok (.iastore, 1) := by decide +kernel
theorem dX2_init_398 : decode cX2_init 398 = .ok (.dup, 1) := by decide +kernel
theorem dX2_init_399 : decode cX2_init 399 = .ok (.bipush 63, 2) := by decide +kernel
theorem dX2_init_401 : decode cX2_init 401 = .ok (.bipush 8, 2) := by decide +kernel
theorem dX2_init_403 : decode cX2_init 403 = .ok (.iastore, 1) := by decide +kernel
theorem dX2_init_404 : decode cX2_init 404 = .ok (.dup, 1) := by decide +kernel
theorem dX2_init_405 : decode cX2_init 405 = .ok (.bipush 64, 2) := by decide +kernel
theorem dX2_init_407 : decode cX2_init 407 = .ok (.bipush 9, 2) := by decide +kernel
theorem dX2_init_409 : decode cX2_init 409 = .ok (.iastore, 1) := by decide +kernel
theorem dX2_init_410 : decode cX2_init 410 = .ok (.dup, 1) := by decide +kernel
theorem dX2_init_411 : decode cX2_init 411 = .ok (.bipush 65, 2) := by decide +kernel
theorem dX2_init_413 : decode cX2_init 413 = .ok (.iconst 0, 1) := by decide +kernel
theorem dX2_init_414 : decode cX2_init 414 = .ok (.iastore, 1) := by decide +kernel
theorem dX2_init_415 : decode cX2_init 415 = .ok (.dup, 1) := by decide +kernel
theorem dX2_init_416 : decode cX2_init 416 = .ok (.bipush 66, 2) := by decide +kernel
theorem dX2_init_418 : decode cX2_init 418 = .ok (.iconst 5, 1) := by decide +kernel
theorem dX2_init_419 : decode cX2_init 419 = .ok (.iastore, 1) := by decide +kernel
theorem dX2_init_420 : decode cX2_init 420 = .ok (.dup, 1) := by decide +kernel
theorem dX2_init_421 : decode cX2_init 421 = .ok (.bipush 67, 2) := by decide +kernel
theorem dX2_init_423 : decode cX2_init 423 = .ok (.bipush 7, 2) := by decide +kernel
theorem dX2_init_425 : decode cX2_init 425 = .ok (.iastore, 1) := by decide +kernel
theorem dX2_init_426 : decode cX2_init 426 = .ok (.dup, 1) := by decide +kernel
theorem dX2_init_427 : decode cX2_init 427 = .ok (.bipush 68, 2) := by decide +kernel
theorem dX2_init_429 : decode cX2_init 429 = .ok (.iconst 2, 1) := by decide +kernel
theorem dX2_init_430 : decode cX2_init 430 = .ok (.iastore, 1) := by decide +kernel
theorem dX2_init_431 : decode cX2_init 431 = .ok (.dup, 1) := by decide +kernel
theorem dX2_init_432 : decode cX2_init 432 = .ok (.bipush 69, 2) := by decide +kernel
theorem dX2_init_434 : decode cX2_init 434 = .ok (.iconst 4, 1) := by decide +kernel
theorem dX2_init_435 : decode cX2_init 435 = .ok (.iastore, 1) := by decide +kernel
theorem dX2_init_436 : decode cX2_init 436 = .ok (.dup, 1) := by decide +kernel
theorem dX2_init_437 : decode cX2_init 437 = .ok (.bipush 70, 2) := by decide +kernel
theorem dX2_init_439 : decode cX2_init 439 = .ok (.bipush 10, 2) := by decide +kernel
theorem dX2_init_441 : decode cX2_init 441 = .ok (.iastore, 1) := by decide +kernel
theorem dX2_init_442 : decode cX2_init 442 = .ok (.dup, 1) := by decide +kernel
theorem dX2_init_443 : decode cX2_init 443 = .ok (.bipush 71, 2) := by decide +kernel
theorem dX2_init_445 : decode cX2_init 445 = .ok (.bipush 15, 2) := by decide +kernel
theorem dX2_init_447 : decode cX2_init 447 = .ok (.iastore, 1) := by decide +kernel
theorem dX2_init_448 : decode cX2_init 448 = .ok (.dup, 1) := by decide +kernel
theorem dX2_init_449 : decode cX2_init 449 = .ok (.bipush 72, 2) := by decide +kernel
theorem dX2_init_451 : decode cX2_init 451 = .ok (.bipush 14, 2) := by decide +kernel
theorem dX2_init_453 : decode cX2_init 453 = .ok (.iastore, 1) := by decide +kernel
theorem dX2_init_454 : decode cX2_init 454 = .ok (.dup, 1) := by decide +kernel
theorem dX2_init_455 : decode cX2_init 455 = .ok (.bipush 73, 2) := by decide +kernel
theorem dX2_init_457 : decode cX2_init 457 = .ok (.iconst 1, 1) := by decide +kernel
theorem dX2_init_458 : decode cX2_init 458 = .ok (.iastore, 1) := by decide +kernel
theorem dX2_init_459 : decode cX2_init 459 = .ok (.dup, 1) := by decide +kernel
theorem dX2_init_460 : decode cX2_init 460 = .ok (.bipush 74, 2) := by decide +kernel
theorem dX2_init_462 : decode cX2_init 462 = .ok (.bipush 11, 2) := by decide +kernel
theorem dX2_init_464 : decode cX2_init 464 = .ok (.iastore, 1) := by decide +kernel
theorem dX2_init_465 : decode cX2_init 465 = .ok (.dup, 1) := by decide +kernel
theorem dX2_init_466 : decode cX2_init 466 = .ok (.bipush 75, 2) := by decide +kernel
theorem dX2_init_468 : decode cX2_init 468 = .ok (.bipush 12, 2) := by decide +kernel
theorem dX2_init_470 : decode cX2_init 470 = .ok (.iastore, 1) := by decide +kernel
theorem dX2_init_471 : decode cX2_init 471 = .ok (.dup, 1) := by decide +kernel
theorem dX2_init_472 : decode cX2_init 472 = .ok (.bipush 76, 2) := by decide +kernel
theorem dX2_init_474 : decode cX2_init 474 = .ok (.bipush 6, 2) := by decide +kernel
theorem dX2_init_476 : decode cX2_init 476 = .ok (.iastore, 1) := by decide +kernel
theorem dX2_init_477 : decode cX2_init 477 = .ok (.dup, 1) := by decide +kernel
theorem dX2_init_478 : decode cX2_init 478 = .ok (.bipush 77, 2) := by decide +kernel
end
section
theorem dX2_init_480 : decode cX2_init 480 = .ok (.bipush 8, 2) := by decide +kernel
theorem dX2_init_482 : decode cX2_init 482 = .ok (.iastore, 1) := by decide +kernel
theorem dX2_init_483 : decode cX2_init 483 = .ok (.dup, 1) := by decide +kernel
theorem dX2_init_484 : decode cX2_init 484 = .ok (.bipush 78, 2) := by decide +kernel
theorem dX2_init_486 : decode cX2_init 486 = .ok (.iconst 3, 1) := by decide +kernel
theorem dX2_init_487 : decode cX2_init 487 = .ok (.iastore, 1) := by decide +kernel
theorem dX2_init_488 : decode cX2_init 488 = .ok (.dup, 1) := by decide +kernel
theorem dX2_init_489 : decode cX2_init 489 = .ok (.bipush 79, 2) := by decide +kernel
theorem dX2_init_491 : decode cX2_init 491 = .ok (.bipush 13, 2) := by decide +kernel
theorem dX2_init_493 : decode cX2_init 493 = .ok (.iastore, 1) := by decide +kernel
theorem dX2_init_494 : decode cX2_init 494 = .ok (.dup, 1) := by decide +kernel
theorem dX2_init_495 : decode cX2_init 495 = .ok (.bipush 80, 2) := by decide +kernel
theorem dX2_init_497 : decode cX2_init 497 = .ok (.iconst 2, 1) := by decide +kernel
theorem dX2_init_498 : decode cX2_init 498 = .ok (.iastore, 1) := by decide +kernel
theorem dX2_init_499 : decode cX2_init 499 = .ok (.dup, 1) := by decide +kernel
theorem dX2_init_500 : decode cX2_init 500 = .ok (.bipush 81, 2) := by decide +kernel
theorem dX2_init_502 : decode cX2_init 502 = .ok (.bipush 12, 2) := by decide +kernel
theorem dX2_init_504 : decode cX2_init 504 = .ok (.iastore, 1) := by decide +kernel
theorem dX2_init_505 : decode cX2_init 505 = .ok (.dup, 1) := by decide +kernel
theorem dX2_init_506 : decode cX2_init 506 = .ok (.bipush 82, 2) := by decide +kernel
theorem dX2_init_508 : decode cX2_init 508 = .ok (.bipush 6, 2) := by decide +kernel
theorem dX2_init_510 : decode cX2_init 510 = .ok (.iastore, 1) := by decide +kernel
theorem dX2_init_511 : decode cX2_init 511 = .ok (.dup, 1) := by decide +kernel
theorem dX2_init_512 : decode cX2_init 512 = .ok (.bipush 83, 2) := by decide +kernel
theorem dX2_init_514 : decode cX2_init 514 = .ok (.bipush 10, 2) := by decide +kernel
theorem dX2_init_516 : decode cX2_init 516 = .ok (.iastore, 1) := by decide +kernel
theorem dX2_init_517 : decode cX2_init 517 = .ok (.dup, 1) := by decide +kernel
theorem dX2_init_518 : decode cX2_init 518 = .ok (.bipush 84, 2) := by decide +kernel
theorem dX2_init_520 : decode cX2_init 520 = .ok (.iconst 0, 1) := by decide +kernel
theorem dX2_init_521 : decode cX2_init 521 = .ok (.iastore, 1) := by decide +kernel
theorem dX2_init_522 : decode cX2_init 522 = .ok (.dup, 1) := by decide +kernel
theorem dX2_init_523 : decode cX2_init 523 = .ok (.bipush 85, 2) := by decide +kernel
theorem dX2_init_525 : decode cX2_init 525 = .ok (.bipush 11, 2) := by decide +kernel
theorem dX2_init_527 : decode cX2_init 527 = .ok (.iastore, 1) := by decide +kernel
theorem dX2_init_528 : decode cX2_init 528 = .ok (.dup, 1) := by decide +kernel
theorem dX2_init_529 : decode cX2_init 529 = .ok (.bipush 86, 2) := by decide +kernel
theorem dX2_init_531 : decode cX2_init 531 = .ok (.bipush 8, 2) := by decide +kernel
theorem dX2_init_533 : decode cX2_init 533 = .ok (.iastore, 1) := by decide +kernel
theorem dX2_init_534 : decode cX2_init 534 = .ok (.dup, 1) := by decide +kernel
theorem dX2_init_535 : decode cX2_init 535 = .ok (.bipush 87, 2) := by decide +kernel
theorem dX2_init_537 : decode cX2_init 537 = .ok (.iconst 3, 1) := by decide +kernel
theorem dX2_init_538 : decode cX2_init 538 = .ok (.iastore, 1) := by decide +kernel
theorem dX2_init_539 : decode cX2_init 539 = .ok (.dup, 1) := by decide +kernel
theorem dX2_init_540 : decode cX2_init 540 = .ok (.bipush 88, 2) := by decide +kernel
theorem dX2_init_542 : decode cX2_init 542 = .ok (.iconst 4, 1) := by decide +kernel
theorem dX2_init_543 : decode cX2_init 543 = .ok (.iastore, 1) := by decide +kernel
theorem dX2_init_544 : decode cX2_init 544 = .ok (.dup, 1) := by decide +kernel
theorem dX2_init_545 : decode cX2_init 545 = .ok (.bipush 89, 2) := by decide +kernel
theorem dX2_init_547 : decode cX2_init 547 = .ok (.bipush 13, 2) := by decide +kernel
theorem dX2_init_549 : decode cX2_init 549 = .ok (.iastore, 1) := by decide +kernel
theorem dX2_init_550 : decode cX2_init 550 = .ok (.dup, 1) := by decide +kernel
theorem dX2_init_551 : decode cX2_init 551 = .ok (.bipush 90, 2) := by decide +kernel
theorem dX2_init_553 : decode cX2_init 553 = .ok (.bipush 7, 2) := by decide +kernel
theorem dX2_init_555 : decode cX2_init 555 = .ok (.iastore, 1) := by decide +kernel
theorem dX2_init_556 : decode cX2_init 556 = .ok (.dup, 1) := by decide +kernel
theorem dX2_init_557 : decode cX2_init 557 = .ok (.bipush 91, 2) := by decide +kernel
theorem dX2_init_559 : decode cX2_init 559 = .ok (.iconst 5, 1) := by decide +kernel
theorem dX2_init_560 : decode cX2_init 560 = .ok (.iastore, 1) := by decide +kernel
theorem dX2_init_561 : decode cX2_init 561 = .ok (.dup, 1) := by decide +kernel
theorem dX2_init_562 : decode cX2_init 562 = .ok (.bipush 92, 2) := by decide +kernel
theorem dX2_init_564 : decode cX2_init 564 = .ok (.bipush 15, 2) := by decide +kernel
theorem dX2_init_566 : decode cX2_init 566 = .ok (.iastore, 1) := by decide +kernel
theorem dX2_init_567 : decode cX2_init 567 = .ok (.dup, 1) := by decide +kernel
theorem dX2_init_568 : decode cX2_init 568 = .ok (.bipush 93, 2) := by decide +kernel
theorem dX2_init_570 : decode cX2_init 570 = .ok (.bipush 14, 2) := by decide +kernel
theorem dX2_init_572 : decode cX2_init 572 = .ok (.iastore, 1) := by decide +kernel
theorem dX2_init_573 : decode cX2_init 573 = .ok (.dup, 1) := by decide +kernel
theorem dX2_init_574 : decode cX2_init 574 = .ok (.bipush 94, 2) := by decide +kernel
theorem dX2_init_576 : decode cX2_init 576 = .ok (.iconst 1, 1) := by decide +kernel
theorem dX2_init_577 : decode cX2_init 577 = .ok (.iastore, 1) := by decide +kernel
theorem dX2_init_578 : decode cX2_init 578 = .ok (.dup, 1) := by decide +kernel
theorem dX2_init_579 : decode cX2_init 579 = .ok (.bipush 95, 2) := by decide +kernel
theorem dX2_init_581 : decode cX2_init 581 = .ok (.bipush 9, 2) := by decide +kernel
theorem dX2_init_583 : decode cX2_init 583 = .ok (.iastore, 1) := by decide +kernel
theorem dX2_init_584 : decode cX2_init 584 = .ok (.dup, 1) := by decide +kernel
theorem dX2_init_585 : decode cX2_init 585 = .ok (.bipush 96, 2) := by decide +kernel
theorem dX2_init_587 : decode cX2_init 587 = .ok (.bipush 12, 2) := by decide +kernel
theorem dX2_init_589 : decode cX2_init 589 = .ok (.iastore, 1) := by decide +kernel
theorem dX2_init_590 : decode cX2_init 590 = .ok (.dup, 1) := by decide +kernel
theorem dX2_init_591 : decode cX2_init 591 = .ok (.bipush 97, 2) := by decide +kernel
theorem dX2_init_593 : decode cX2_init 593 = .ok (.iconst 5, 1) := by decide +kernel
theorem dX2_init_594 : decode cX2_init 594 = .ok (.iastore, 1) := by decide +kernel
theorem dX2_init_595 : decode cX2_init 595 = .ok (.dup, 1) := by decide +kernel
theorem dX2_init_596 : decode cX2_init 596 = .ok (.bipush 98, 2) := by decide +kernel
theorem dX2_init_598 : decode cX2_init 598 = .ok (.iconst 1, 1) := by decide +kernel
theorem dX2_init_599 : decode cX2_init 599 = .ok (.iastore, 1) := by decide +kernel
theorem dX2_init_600 : decode cX2_init 600 = .ok (.dup, 1) := by decide +kernel
theorem dX2_init_601 : decode cX2_init 601 = .ok (.bipush 99, 2) := by decide +kernel
theorem dX2_init_603 : decode cX2_init 603 = .ok (.bipush 15, 2) := by decide +kernel
theorem dX2_init_605 : decode cX2_init 605 = .ok (.iastore, 1) := by decide +kernel
theorem dX2_init_606 : decode cX2_init 606 = .ok (.dup, 1) := by decide +kernel
theorem dX2_init_607 : decode cX2_init 607 = .ok (.bipush 100, 2) := by decide +kernel
theorem dX2_init_609 : decode cX2_init 609 = .ok (.bipush 14, 2) := by decide +kernel
theorem dX2_init_611 : decode cX2_init 611 = .ok (.iastore, 1) := by decide +kernel
theorem dX2_init_612 : decode cX2_init 612 = .ok (.dup, 1) := by decide +kernel
theorem dX2_init_613 : decode cX2_init 613 = .ok (.bipush 101, 2) := by decide +kernel
theorem dX2_init_615 : decode cX2_init 615 = .ok (.bipush 13, 2) := by decide +kernel
theorem dX2_init_617 : decode cX2_init 617 = .ok (.iastore, 1) := by decide +kernel
theorem dX2_init_618 : decode cX2_init 618 = .ok (.dup, 1) := by decide +kernel
theorem dX2_init_619 : decode cX2_init 619 = .ok (.bipush 102, 2) := by decide +kernel
theorem dX2_init_621 : decode cX2_init 621 = .ok (.iconst 4, 1) := by decide +kernel
theorem dX2_init_622 : decode cX2_init 622 = .ok (.iastore, 1) := by decide +kernel
theorem dX2_init_623 : decode cX2_init 623 = .ok (.dup, 1) := by decide +kernel
theorem dX2_init_624 : decode cX2_init 624 = .ok (.bipush 103, 2) := by decide +kernel
theorem dX2_init_626 : decode cX2_init 626 = .ok (.bipush 10, 2) := by decide +kernel
theorem dX2_init_628 : decode cX2_init 628 = .ok (.iastore, 1) := by decide +kernel
theorem dX2_init_629 : decode cX2_init 629 = .ok (.dup, 1) := by decide +kernel
theorem dX2_init_630 : decode cX2_init 630 = .ok (.bipush 104, 2) := by decide +kernel
theorem dX2_init_632 : decode cX2_init 632 = .ok (.iconst 0, 1) := by decide +kernel
theorem dX2_init_633 : decode cX2_init 633 = .ok (.iastore, 1) := by decide +kernel
theorem dX2_init_634 : decode cX2_init 634 = .ok (.dup, 1) := by decide +kernel
theorem dX2_init_635 : decode cX2_init 635 = .ok (.bipush 105, 2) := by decide +kernel
theorem dX2_init_637 : decode cX2_init 637 = .ok (.bipush 7, 2) := by decide +kernel
theorem dX2_init_639 : decode cX2_init 639 = .ok (.iastore, 1) := by decide +kernel
theorem dX2_init_640 : decode cX2_init 640 = .ok (.dup, 1) := by decide +kernel
theorem dX2_init_641 : decode cX2_init 641 = .ok (.bipush 106, 2) := by decide +kernel
theorem dX2_init_643 : decode cX2_init 643 = .ok (.bipush 6, 2) := by decide +kernel
theorem dX2_init_645 : decode cX2_init 645 = .ok (.iastore, 1) := by decide +kernel
theorem dX2_init_646 : decode cX2_init 646 = .ok (.dup, 1) := by decide +kernel
theorem dX2_init_647 : decode cX2_init 647 = .ok (.bipush 107, 2) := by decide +kernel
theorem dX2_init_649 : decode cX2_init 649 = .ok (.iconst 3, 1) := by decide +kernel
theorem dX2_init_650 : decode cX2_init 650 = .ok (.iastore, 1) := by decide +kernel
theorem dX2_init_651 : decode cX2_init 651 = .ok (.dup, 1) := by decide +kernel
theorem dX2_init_652 : decode cX2_init 652 = .ok (.bipush 108, 2) := by decide +kernel
theorem dX2_init_654 : decode cX2_init 654 = .ok (.bipush 9, 2) := by decide +kernel
theorem dX2_init_656 : decode cX2_init 656 = .ok (.iastore, 1) := by decide +kernel
theorem dX2_init_657 : decode cX2_init 657 = .ok (.dup, 1) := by decide +kernel
theorem dX2_init_658 : decode cX2_init 658 = .ok (.bipush 109, 2) := by decide +kernel
theorem dX2_init_660 : decode cX2_init 660 = .ok (.iconst 2, 1) := by decide +kernel
theorem dX2_init_661 : decode cX2_init 661 = .ok (.iastore, 1) := by decide +kernel
theorem dX2_init_662 : decode cX2_init 662 = .ok (.dup, 1) := by decide +kernel
theorem dX2_init_663 : decode cX2_init 663 = .ok (.bipush 110, 2) := by decide +kernel
theorem dX2_init_665 : decode cX2_init 665 = .ok (.bipush 8, 2) := by decide +kernel
theorem dX2_init_667 : decode cX2_init 667 = .ok (.iastore, 1) := by decide +kernel
theorem dX2_init_668 : decode cX2_init 668 = .ok (.dup, 1) := by decide +kernel
theorem dX2_init_669 : decode cX2_init 669 = .ok (.bipush 111, 2) := by decide +kernel
theorem dX2_init_671 : decode cX2_init 671 = .ok (.bipush 11, 2) := by decide +kernel
theorem dX2_init_673 : decode cX2_init 673 = .ok (.iastore, 1) := by decide +kernel
theorem dX2_init_674 : decode cX2_init 674 = .ok (.dup, 1) := by decide +kernel
theorem dX2_init_675 : decode cX2_init 675 = .ok (.bipush 112, 2) := by decide +kernel
theorem dX2_init_677 : decode cX2_init 677 = .ok (.bipush 13, 2) := by decide +kernel
theorem dX2_init_679 : decode cX2_init 679 = .ok (.iastore, 1) := by decide +kernel
theorem dX2_init_680 : decode cX2_init 680 = .ok (.dup, 1) := by decide +kernel
theorem dX2_init_681 : decode cX2_init 681 = .ok (.bipush 113, 2) := by decide +kernel
theorem dX2_init_683 : decode cX2_init 683 = .ok (.bipush 11, 2) := by decide +kernel
theorem dX2_init_685 : decode cX2_init 685 = .ok (.iastore, 1) := by decide +kernel
theorem dX2_init_686 : decode cX2_init 686 = .ok (.dup, 1) := by decide +kernel
theorem dX2_init_687 : decode cX2_init 687 = .ok (.bipush 114, 2) := by decide +kernel
theorem dX2_init_689 : decode cX2_init 689 = .ok (.bipush 7, 2) := by decide +kernel
theorem dX2_init_691 : decode cX2_init 691 = .ok (.iastore, 1) := by decide +kernel
theorem dX2_init_692 : decode cX2_init 692 = .ok (.dup, 1) := by decide +kernel
theorem dX2_init_693 : decode cX2_init 693 = .ok (.bipush 115, 2) := by decide +kernel
theorem dX2_init_695 : decode cX2_init 695 = .ok (.bipush 14, 2) := by decide +kernel
theorem dX2_init_697 : decode cX2_init 697 = .ok (.iastore, 1) := by decide +kernel
theorem dX2_init_698 : decode cX2_init 698 = .ok (.dup, 1) := by decide +kernel
theorem dX2_init_699 : decode cX2_init 699 = .ok (.bipush 116, 2) := by decide +kernel
theorem dX2_init_701 : decode cX2_init 701 = .ok (.bipush 12, 2) := by decide +kernel
theorem dX2_init_703 : decode cX2_init 703 = .ok (.iastore, 1) := by decide +kernel
theorem dX2_init_704 : decode cX2_init 704 = .ok (.dup, 1) := by decide +kernel
theorem dX2_init_705 : decode cX2_init 705 = .ok (.bipush 117, 2) := by decide +kernel
theorem dX2_init_707 : decode cX2_init 707 = .ok (.iconst 1, 1) := by decide +kernel
theorem dX2_init_708 : decode cX2_init 708 = .ok (.iastore, 1) := by decide +kernel
theorem dX2_init_709 : decode cX2_init 709 = .ok (.dup, 1) := by decide +kernel
theorem dX2_init_710 : decode cX2_init 710 = .ok (.bipush 118, 2) := by decide +kernel
theorem dX2_init_712 : decode cX2_init 712 = .ok (.iconst 3, 1) := by decide +kernel
theorem dX2_init_713 : decode cX2_init 713 = .ok (.iastore, 1) := by decide +kernel
theorem dX2_init_714 : decode cX2_init 714 = .ok (.dup, 1) := by decide +kernel
theorem dX2_init_715 : decode cX2_init 715 = .ok (.bipush 119, 2) := by decide +kernel
theorem dX2_init_717 : decode cX2_init 717 = .ok (.bipush 9, 2) := by decide +kernel
theorem dX2_init_719 : decode cX2_init 719 = .ok (.iastore, 1) := by decide +kernel
theorem dX2_init_720 : decode cX2_init 720 = .ok (.dup, 1) := by decide +kernel
theorem dX2_init_721 : decode cX2_init 721 = .ok (.bipush 120, 2) := by decide +kernel
theorem dX2_init_723 : decode cX2_init 723 = .ok (.iconst 5, 1) := by decide +kernel
theorem dX2_init_724 : decode cX2_init 724 = .ok (.iastore, 1) := by decide +kernel
theorem dX2_init_725 : decode cX2_init 725 = .ok (.dup, 1) := by decide +kernel
theorem dX2_init_726 : decode cX2_init 726 = .ok (.bipush 121, 2) := by decide +kernel
theorem dX2_init_728 : decode cX2_init 728 = .ok (.iconst 0, 1) := by decide +kernel
theorem dX2_init_729 : decode cX2_init 729 = .ok (.iastore, 1) := by decide +kernel
theorem dX2_init_730 : decode cX2_init 730 = .ok (.dup, 1) := by decide +kernel
theorem dX2_init_731 : decode cX2_init 731 = .ok (.bipush 122, 2) := by decide +kernel
theorem dX2_init_733 : decode cX2_init 733 = .ok (.bipush 15, 2) := by decide +kernel
theorem dX2_init_735 : decode cX2_init 735 = .ok (.iastore, 1) := by decide +kernel
theorem dX2_init_736 : decode cX2_init 736 = .ok (.dup, 1) := by decide +kernel
theorem dX2_init_737 : decode cX2_init 737 = .ok (.bipush 123, 2) := by decide +kernel
theorem dX2_init_739 : decode cX2_init 739 = .ok (.iconst 4, 1) := by decide +kernel
theorem dX2_init_740 : decode cX2_init 740 = .ok (.iastore, 1) := by decide +kernel
theorem dX2_init_741 : decode cX2_init 741 = .ok (.dup, 1) := by decide +kernel
theorem dX2_init_742 : decode cX2_init 742 = .ok (.bipush 124, 2) := by decide +kernel
theorem dX2_init_744 : decode cX2_init 744 = .ok (.bipush 8, 2) := by decide +kernel
theorem dX2_init_746 : decode cX2_init 746 = .ok (.iastore, 1) := by decide +kernel
theorem dX2_init_747 : decode cX2_init 747 = .ok (.dup, 1) := by decide +kernel
theorem dX2_init_748 : decode cX2_init 748 = .ok (.bipush 125, 2) := by decide +kernel
theorem dX2_init_750 : decode cX2_init 750 = .ok (.bipush 6, 2) := by decide +kernel
theorem dX2_init_752 : decode cX2_init 752 = .ok (.iastore, 1) := by decide +kernel
theorem dX2_init_753 : decode cX2_init 753 = .ok (.dup, 1) := by decide +kernel
theorem dX2_init_754 : decode cX2_init 754 = .ok (.bipush 126, 2) := by decide +kernel
theorem dX2_init_756 : decode cX2_init 756 = .ok (.iconst 2, 1) := by decide +kernel
theorem dX2_init_757 : decode cX2_init 757 = .ok (.iastore, 1) := by decide +kernel
theorem dX2_init_758 : decode cX2_init 758 = .ok (.dup, 1) := by decide +kernel
theorem dX2_init_759 : decode cX2_init 759 = .ok (.bipush 127, 2) := by decide +kernel
theorem dX2_init_761 : decode cX2_init 761 = .ok (.bipush 10, 2) := by decide +kernel
theorem dX2_init_763 : decode cX2_init 763 = .ok (.iastore, 1) := by decide +kernel
theorem dX2_init_764 : decode cX2_init 764 = .ok (.dup, 1) := by decide +kernel
theorem dX2_init_765 : decode cX2_init 765 = .ok (.sipush 128, 3) := by decide +kernel
theorem dX2_init_768 : decode cX2_init 768 = .ok (.bipush 6, 2) := by decide +kernel
theorem dX2_init_770 : decode cX2_init 770 = .ok (.iastore, 1) := by decide +kernel
theorem dX2_init_771 : decode cX2_init 771 = .ok (.dup, 1) := by decide +kernel
theorem dX2_init_772 : decode cX2_init 772 = .ok (.sipush 129, 3) := by decide +kernel
theorem dX2_init_775 : decode cX2_init 775 = .ok (.bipush 15, 2) := by decide +kernel
theorem dX2_init_777 : decode cX2_init 777 = .ok (.iastore, 1) := by decide +kernel
theorem dX2_init_778 : decode cX2_init 778 = .ok (.dup, 1) := by decide +kernel
theorem dX2_init_779 : decode cX2_init 779 = .ok (.sipush 130, 3) := by decide +kernel
theorem dX2_init_782 : decode cX2_init 782 = .ok (.bipush 14, 2) := by decide +kernel
theorem dX2_init_784 : decode cX2_init 784 = .ok (.iastore, 1) := by decide +kernel
theorem dX2_init_785 : decode cX2_init 785 = .ok (.dup, 1) := by decide +kernel
theorem dX2_init_786 : decode cX2_init 786 = .ok (.sipush 131, 3) := by decide +kernel
theorem dX2_init_789 : decode cX2_init 789 = .ok (.bipush 9, 2) := by decide +kernel
theorem dX2_init_791 : decode cX2_init 791 = .ok (.iastore, 1) := by decide +kernel
theorem dX2_init_792 : decode cX2_init 792 = .ok (.dup, 1) := by decide +kernel
theorem dX2_init_793 : decode cX2_init 793 = .ok (.sipush 132, 3) := by decide +kernel
theorem dX2_init_796 : decode cX2_init 796 = .ok (.bipush 11, 2) := by decide +kernel
theorem dX2_init_798 : decode cX2_init 798 = .ok (.iastore, 1) := by decide +kernel
theorem dX2_init_799 : decode cX2_init 799 = .ok (.dup, 1) := by decide +kernel
theorem dX2_init_800 : decode cX2_init 800 = .ok (.sipush 133, 3) := by decide +kernel
theorem dX2_init_803 : decode cX2_init 803 = .ok (.iconst 3, 1) := by decide +kernel
theorem dX2_init_804 : decode cX2_init 804 = .ok (.iastore, 1) := by decide +kernel
theorem dX2_init_805 : decode cX2_init 805 = .ok (.dup, 1) := by decide +kernel
theorem dX2_init_806 : decode cX2_init 806 = .ok (.sipush 134, 3) := by decide +kernel
theorem dX2_init_809 : decode cX2_init 809 = .ok (.iconst 0, 1) := by decide +kernel
theorem dX2_init_810 : decode cX2_init 810 = .ok (.iastore, 1) := by decide +kernel
theorem dX2_init_811 : decode cX2_init 811 = .ok (.dup, 1) := by decide +kernel
theorem dX2_init_812 : decode cX2_init 812 = .ok (.sipush 135, 3) := by decide +kernel
theorem dX2_init_815 : decode cX2_init 815 = .ok (.bipush 8, 2) := by decide +kernel
theorem dX2_init_817 : decode cX2_init 817 = .ok (.iastore, 1) := by decide +kernel
theorem dX2_init_818 : decode cX2_init 818 = .ok (.dup, 1) := by decide +kernel
theorem dX2_init_819 : decode cX2_init 819 = .ok (.sipush 136, 3) := by decide +kernel
theorem dX2_init_822 : decode cX2_init 822 = .ok (.bipush 12, 2) := by decide +kernel
theorem dX2_init_824 : decode cX2_init 824 = .ok (.iastore, 1) := by decide +kernel
theorem dX2_init_825 : decode cX2_init 825 = .ok (.dup, 1) := by decide +kernel
theorem dX2_init_826 : decode cX2_init 826 = .ok (.sipush 137, 3) := by decide +kernel
theorem dX2_init_829 : decode cX2_init 829 = .ok (.iconst 2, 1) := by decide +kernel
theorem dX2_init_830 : decode cX2_init 830 = .ok (.iastore, 1) := by decide +kernel
theorem dX2_init_831 : decode cX2_init 831 = .ok (.dup, 1) := by decide +kernel
theorem dX2_init_832 : decode cX2_init 832 = .ok (.sipush 138, 3) := by decide +kernel
theorem dX2_init_835 : decode cX2_init 835 = .ok (.bipush 13, 2) := by decide +kernel
theorem dX2_init_837 : decode cX2_init 837 = .ok (.iastore, 1) := by decide +kernel
theorem dX2_init_838 : decode cX2_init 838 = .ok (.dup, 1) := by decide +kernel
theorem dX2_init_839 : decode cX2_init 839 = .ok (.sipush 139, 3) := by decide +kernel
theorem dX2_init_842 : decode cX2_init 842 = .ok (.bipush 7, 2) := by decide +kernel
theorem dX2_init_844 : decode cX2_init 844 = .ok (.iastore, 1) := by decide +kernel
theorem dX2_init_845 : decode cX2_init 845 = .ok (.dup, 1) := by decide +kernel
theorem dX2_init_846 : decode cX2_init 846 = .ok (.sipush 140, 3) := by decide +kernel
theorem dX2_init_849 : decode cX2_init 849 = .ok (.iconst 1, 1) := by decide +kernel
theorem dX2_init_850 : decode cX2_init 850 = .ok (.iastore, 1) := by decide +kernel
theorem dX2_init_851 : decode cX2_init 851 = .ok (.dup, 1) := by decide +kernel
theorem dX2_init_852 : decode cX2_init 852 = .ok (.sipush 141, 3) := by decide +kernel
theorem dX2_init_855 : decode cX2_init 855 = .ok (.iconst 4, 1) := by decide +kernel
theorem dX2_init_856 : decode cX2_init 856 = .ok (.iastore, 1) := by decide +kernel
theorem dX2_init_857 : decode cX2_init 857 = .ok (.dup, 1) := by decide +kernel
theorem dX2_init_858 : decode cX2_init 858 = .ok (.sipush 142, 3) := by decide +kernel
theorem dX2_init_861 : decode cX2_init 861 = .ok (.bipush 10, 2) := by decide +kernel
theorem dX2_init_863 : decode cX2_init 863 = .ok (.iastore, 1) := by decide +kernel
theorem dX2_init_864 : decode cX2_init 864 = .ok (.dup, 1) := by decide +kernel
theorem dX2_init_865 : decode cX2_init 865 = .ok (.sipush 143, 3) := by decide +kernel
theorem dX2_init_868 : decode cX2_init 868 = .ok (.iconst 5, 1) := by decide +kernel
theorem dX2_init_869 : decode cX2_init 869 = .ok (.iastore, 1) := by decide +kernel
theorem dX2_init_870 : decode cX2_init 870 = .ok (.dup, 1) := by decide +kernel
theorem dX2_init_871 : decode cX2_init 871 = .ok (.sipush 144, 3) := by decide +kernel
theorem dX2_init_874 : decode cX2_init 874 = .ok (.bipush 10, 2) := by decide +kernel
theorem dX2_init_876 : decode cX2_init 876 = .ok (.iastore, 1) := by decide +kernel
theorem dX2_init_877 : decode cX2_init 877 = .ok (.dup, 1) := by decide +kernel
theorem dX2_init_878 : decode cX2_init 878 = .ok (.sipush 145, 3) := by decide +kernel
theorem dX2_init_881 : decode cX2_init 881 = .ok (.iconst 2, 1) := by decide +kernel
theorem dX2_init_882 : decode cX2_init 882 = .ok (.iastore, 1) := by decide +kernel
theorem dX2_init_883 : decode cX2_init 883 = .ok (.dup, 1) := by decide +kernel
theorem dX2_init_884 : decode cX2_init 884 = .ok (.sipush 146, 3) := by decide +kernel
theorem dX2_init_887 : decode cX2_init 887 = .ok (.bipush 8, 2) := by decide +kernel
theorem dX2_init_889 : decode cX2_init 889 = .ok (.iastore, 1) := by decide +kernel
theorem dX2_init_890 : decode cX2_init 890 = .ok (.dup, 1) := by decide +kernel
theorem dX2_init_891 : decode cX2_init 891 = .ok (.sipush 147, 3) := by decide +kernel
theorem dX2_init_894 : decode cX2_init 894 = .ok (.iconst 4, 1) := by decide +kernel
theorem dX2_init_895 : decode cX2_init 895 = .ok (.iastore, 1) := by decide +kernel
theorem dX2_init_896 : decode cX2_init 896 = .ok (.dup, 1) := by decide +kernel
theorem dX2_init_897 : decode cX2_init 897 = .ok (.sipush 148, 3) := by decide +kernel
theorem dX2_init_900 : decode cX2_init 900 = .ok (.bipush 7, 2) := by decide +kernel
theorem dX2_init_902 : decode cX2_init 902 = .ok (.iastore, 1) := by decide +kernel
theorem dX2_init_903 : decode cX2_init 903 = .ok (.dup, 1) := by decide +kernel
theorem dX2_init_904 : decode cX2_init 904 = .ok (.sipush 149, 3) := by decide +kernel
theorem dX2_init_907 : decode cX2_init 907 = .ok (.bipush 6, 2) := by decide +kernel
theorem dX2_init_909 : decode cX2_init 909 = .ok (.iastore, 1) := by decide +kernel
theorem dX2_init_910 : decode cX2_init 910 = .ok (.dup, 1) := by decide +kernel
theorem dX2_init_911 : decode cX2_init 911 = .ok (.sipush 150, 3) := by decide +kernel
theorem dX2_init_914 : decode cX2_init 914 = .ok (.iconst 1, 1) := by decide +kernel
theorem dX2_init_915 : decode cX2_init 915 = .ok (.iastore, 1) := by decide +kernel
theorem dX2_init_916 : decode cX2_init 916 = .ok (.dup, 1) := by decide +kernel
theorem dX2_init_917 : decode cX2_init 917 = .ok (.sipush 151, 3) := by decide +kernel
theorem dX2_init_920 : decode cX2_init 920 = .ok (.iconst 5, 1) := by decide +kernel
theorem dX2_init_921 : decode cX2_init 921 = .ok (.iastore, 1) := by decide +kernel
theorem dX2_init_922 : decode cX2_init 922 = .ok (.dup, 1) := by decide +kernel
theorem dX2_init_923 : decode cX2_init 923 = .ok (.sipush 152, 3) := by decide +kernel
theorem dX2_init_926 : decode cX2_init 926 = .ok (.bipush 15, 2) := by decide +kernel
theorem dX2_init_928 : decode cX2_init 928 = .ok (.iastore, 1) := by decide +kernel
theorem dX2_init_929 : decode cX2_init 929 = .ok (.dup, 1) := by decide +kernel
theorem dX2_init_930 : decode cX2_init 930 = .ok (.sipush 153, 3) := by decide +kernel
theorem dX2_init_933 : decode cX2_init 933 = .ok (.bipush 11, 2) := by decide +kernel
theorem dX2_init_935 : decode cX2_init 935 = .ok (.iastore, 1) := by decide +kernel
theorem dX2_init_936 : decode cX2_init 936 = .ok (.dup, 1) := by decide +kernel
theorem dX2_init_937 : decode cX2_init 937 = .ok (.sipush 154, 3) := by decide +kernel
theorem dX2_init_940 : decode cX2_init 940 = .ok (.bipush 9, 2) := by decide +kernel
theorem dX2_init_942 : decode cX2_init 942 = .ok (.iastore, 1) := by decide +kernel
theorem dX2_init_943 : decode cX2_init 943 = .ok (.dup, 1) := by decide +kernel
theorem dX2_init_944 : decode cX2_init 944 = .ok (.sipush 155, 3) := by decide +kernel
theorem dX2_init_947 : decode cX2_init 947 = .ok (.bipush 14, 2) := by decide +kernel
theorem dX2_init_949 : decode cX2_init 949 = .ok (.iastore, 1) := by decide +kernel
theorem dX2_init_950 : decode cX2_init 950 = .ok (.dup, 1) := by decide +kernel
theorem dX2_init_951 : decode cX2_init 951 = .ok (.sipush 156, 3) := by decide +kernel
theorem dX2_init_954 : decode cX2_init 954 = .ok (.iconst 3, 1) := by decide +kernel
theorem dX2_init_955 : decode cX2_init 955 = .ok (.iastore, 1) := by decide +kernel
theorem dX2_init_956 : decode cX2_init 956 = .ok (.dup, 1) := by decide +kernel
theorem dX2_init_957 : decode cX2_init 957 = .ok (.sipush 157, 3) := by decide +kernel
theorem dX2_init_960 : decode cX2_init 960 = .ok (.bipush 12, 2) := by decide +kernel
theorem dX2_init_962 : decode cX2_init 962 = .ok (.iastore, 1) := by decide +kernel
theorem dX2_init_963 : decode cX2_init 963 = .ok (.dup, 1) := by decide +kernel
theorem dX2_init_964 : decode cX2_init 964 = .ok (.sipush 158, 3) := by decide +kernel
theorem dX2_init_967 : decode cX2_init 967 = .ok (.bipush 13, 2) := by decide +kernel
theorem dX2_init_969 : decode cX2_init 969 = .ok (.iastore, 1) := by decide +kernel
theorem dX2_init_970 : decode cX2_init 970 = .ok (.dup, 1) := by decide +kernel
theorem dX2_init_971 : decode cX2_init 971 = .ok (.sipush 159, 3) := by decide +kernel
theorem dX2_init_974 : decode cX2_init 974 = .ok (.iconst 0, 1) := by decide +kernel
theorem dX2_init_975 : decode cX2_init 975 = .ok (.iastore, 1) := by decide +kernel
theorem dX2_init_976 : decode cX2_init 976 = .ok (.putfield 25, 3) := by decide +kernel
theorem dX2_init_979 : decode cX2_init 979 = .ok (.aload_n 0, 1) := by decide +kernel
theorem dX2_init_980 : decode cX2_init 980 = .ok (.iconst 0, 1) := by decide +kernel
theorem dX2_init_981 : decode cX2_init 981 = .ok (.putfield 28, 3) := by decide +kernel
theorem dX2_init_984 : decode cX2_init 984 = .ok (.return_, 1) := by decide +kernel
end
section
theorem dX2_init__0 : decode cX2_init_ 0 = .ok (.aload_n 0, 1) := by decide +kernel
theorem dX2_init__1 : decode cX2_init_ 1 = .ok (.iconst 1, 1) := by decide +kernel
theorem dX2_init__2 : decode cX2_init_ 2 = .ok (.putfield 28, 3) := by decide +kernel
theorem dX2_init__5 : decode cX2_init_ 5 = .ok (.aload_n 0, 1) := by decide +kernel
theorem dX2_init__6 : decode cX2_init_ 6 = .ok (.iconst 0, 1) := by decide +kernel
theorem dX2_init__7 : decode cX2_init_ 7 = .ok (.putfield 32, 3) := by decide +kernel
theorem dX2_init__10 : decode cX2_init_ 10 = .ok (.aload_n 0, 1) := by decide +kernel
theorem dX2_init__11 : decode cX2_init_ 11 = .ok (.iconst 0, 1) := by decide +kernel
theorem dX2_init__12 : decode cX2_init_ 12 = .ok (.putfield 35, 3) := by decide +kernel
theorem dX2_init__15 : decode cX2_init_ 15 = .ok (.iconst 0, 1) := by decide +kernel
theorem dX2_init__16 : decode cX2_init_ 16 = .ok (.istore_n 1, 1) := by decide +kernel
theorem dX2_init__17 : decode cX2_init_ 17 = .ok (.iload_n 1, 1) := by decide +kernel
theorem dX2_init__18 : decode cX2_init_ 18 = .ok (.bipush 32, 2) := by decide +kernel
theorem dX2_init__20 : decode cX2_init_ 20 = .ok (.if_icmp .ge 16, 3) := by decide +kernel
theorem dX2_init__23 : decode cX2_init_ 23 = .ok (.aload_n 0, 1) := by decide +kernel
theorem dX2_init__24 : decode cX2_init_ 24 = .ok (.getfield 7, 3) := by decide +kernel
theorem dX2_init__27 : decode cX2_init_ 27 = .ok (.iload_n 1, 1) := by decide +kernel
theorem dX2_init__28 : decode cX2_init_ 28 = .ok (.iconst 0, 1) := by decide +kernel
theorem dX2_init__29 : decode cX2_init_ 29 = .ok (.iastore, 1) := by decide +kernel
theorem dX2_init__30 : decode cX2_init_ 30 = .ok (.iinc 1 1, 3) := by decide +kernel
theorem dX2_init__33 : decode cX2_init_ 33 = .ok (.goto (-16), 3) := by decide +kernel
theorem dX2_init__36 : decode cX2_init_ 36 = .ok (.return_, 1) := by decide +kernel
theorem dX2_setKeyByte_0 : decode cX2_setKeyByte 0 = .ok (.iload_n 1, 1) := by decide +kernel
theorem dX2_setKeyByte_1 : decode cX2_setKeyByte 1 = .ok (.ifCond .lt 31, 3) := by decide +kernel
theorem dX2_setKeyByte_4 : decode cX2_setKeyByte 4 = .ok (.iload_n 1, 1) := by decide +kernel
theorem dX2_setKeyByte_5 : decode cX2_setKeyByte 5 = .ok (.bipush 32, 2) := by decide +kernel
theorem dX2_setKeyByte_7 : decode cX2_setKeyByte 7 = .ok (.if_icmp .ge 25, 3) := by decide +kernel
theorem dX2_setKeyByte_10 : decode cX2_setKeyByte 10 = .ok (.iload_n 2, 1) := by decide +kernel
theorem dX2_setKeyByte_11 : decode cX2_setKeyByte 11 = .ok (.ifCond .lt 21, 3) := by decide +kernel
theorem dX2_setKeyByte_14 : decode cX2_setKeyByte 14 = .ok (.iload_n 2, 1) := by decide +kernel
theorem dX2_setKeyByte_15 : decode cX2_setKeyByte 15 = .ok (.sipush 256, 3) := by decide +kernel
theorem dX2_setKeyByte_18 : decode cX2_setKeyByte 18 = .ok (.if_icmp .ge 14, 3) := by decide +kernel
theorem dX2_setKeyByte_21 : decode cX2_setKeyByte 21 = .ok (.aload_n 0, 1) := by decide +kernel
theorem dX2_setKeyByte_22 : decode cX2_setKeyByte 22 = .ok (.getfield 32, 3) := by decide +kernel
theorem dX2_setKeyByte_25 : decode cX2_setKeyByte 25 = .ok (.ifCond .ne 7, 3) := by decide +kernel
theorem dX2_setKeyByte_28 : decode cX2_setKeyByte 28 = .ok (.iconst 1, 1) := by decide +kernel
theorem dX2_setKeyByte_29 : decode cX2_setKeyByte 29 = .ok (.goto 4, 3) := by decide +kernel
theorem dX2_setKeyByte_32 : decode cX2_setKeyByte 32 = .ok (.iconst 0, 1) := by decide +kernel
theorem dX2_setKeyByte_33 : decode cX2_setKeyByte 33 = .ok (.istore_n 3, 1) := by decide +kernel
theorem dX2_setKeyByte_34 : decode cX2_setKeyByte 34 = .ok (.iload_n 3, 1) := by decide +kernel
theorem dX2_setKeyByte_35 : decode cX2_setKeyByte 35 = .ok (.ifCond .eq 10, 3) := by decide +kernel
theorem dX2_setKeyByte_38 : decode cX2_setKeyByte 38 = .ok (.aload_n 0, 1) := by decide +kernel
theorem dX2_setKeyByte_39 : decode cX2_setKeyByte 39 = .ok (.getfield 7, 3) := by decide +kernel
theorem dX2_setKeyByte_42 : decode cX2_setKeyByte 42 = .ok (.iload_n 1, 1) := by decide +kernel
theorem dX2_setKeyByte_43 : decode cX2_setKeyByte 43 = .ok (.iload_n 2, 1) := by decide +kernel
theorem dX2_setKeyByte_44 : decode cX2_setKeyByte 44 = .ok (.iastore, 1) := by decide +kernel
theorem dX2_setKeyByte_45 : decode cX2_setKeyByte 45 = .ok (.iload_n 3, 1) := by decide +kernel
theorem dX2_setKeyByte_46 : decode cX2_setKeyByte 46 = .ok (.ireturn, 1) := by decide +kernel
theorem dX2_first_0 : decode cX2_first 0 = .ok (.iload_n 0, 1) := by decide +kernel
theorem dX2_first_1 : decode cX2_first 1 = .ok (.tableswitch 64 0 6 #[43, 46, 49, 52, 55, 58, 61], 43) := by decide +kernel
theorem dX2_first_44 : decode cX2_first 44 = .ok (.ldc 38, 2) := by decide +kernel
theorem dX2_first_46 : decode cX2_first 46 = .ok (.ireturn, 1) := by decide +kernel
theorem dX2_first_47 : decode cX2_first 47 = .ok (.ldc 39, 2) := by decide +kernel
theorem dX2_first_49 : decode cX2_first 49 = .ok (.ireturn, 1) := by decide +kernel
theorem dX2_first_50 : decode cX2_first 50 = .ok (.ldc 40, 2) := by decide +kernel
theorem dX2_first_52 : decode cX2_first 52 = .ok (.ireturn, 1) := by decide +kernel
theorem dX2_first_53 : decode cX2_first 53 = .ok (.ldc 41, 2) := by decide +kernel
theorem dX2_first_55 : decode cX2_first 55 = .ok (.ireturn, 1) := by decide +kernel
theorem dX2_first_56 : decode cX2_first 56 = .ok (.ldc 42, 2) := by decide +kernel
theorem dX2_first_58 : decode cX2_first 58 = .ok (.ireturn, 1) := by decide +kernel
theorem dX2_first_59 : decode cX2_first 59 = .ok (.ldc 43, 2) := by decide +kernel
theorem dX2_first_61 : decode cX2_first 61 = .ok (.ireturn, 1) := by decide +kernel
theorem dX2_first_62 : decode cX2_first 62 = .ok (.ldc 44, 2) := by decide +kernel
theorem dX2_first_64 : decode cX2_first 64 = .ok (.ireturn, 1) := by decide +kernel
theorem dX2_first_65 : decode cX2_first 65 = .ok (.ldc 45, 2) := by decide +kernel
theorem dX2_first_67 : decode cX2_first 67 = .ok (.ireturn, 1) := by decide +kernel
set_option maxRecDepth 20000 in
theorem ggX2_start_X2_first : GoodIn wsX2_start wsX2_first := goodIn_r _ [14, 15, 16, 17, 18, 19, 20, 21, 22] rfl (by decide +kernel)
set_option maxRecDepth 20000 in
theorem gX2_start_X2_first : GoodIn wsX2_start (va_wsS RX2 46 yX2_first wsX2_first) := goodIn_app (goodIn_of _ (by decide +kernel)) ggX2_start_X2_first
set_option maxRecDepth 20000 in
theorem ggX2_start_X2_take : GoodIn wsX2_start wsX2_take := goodIn_r _ [26, 5, 6, 27, 28, 29, 30, 31, 13, 32, 33, 34, 2, 35, 11, 12, 14, 15, 16, 17, 18, 19, 20, 21, 22, 36, 37, 38, 39, 40, 41, 42, 43, 44, 45, 46, 47, 48, 49, 50, 51, 52, 53, 54, 55] rfl (by decide +kernel)
set_option maxRecDepth 20000 in
theorem gX2_start_X2_take : GoodIn wsX2_start (wsV RX2 65 RX2 yX2_take wsX2_take) := goodIn_app (goodIn_of _ (by decide +kernel)) ggX2_start_X2_take
theorem dX2_start_0 : decode cX2_start 0 = .ok (.aload_n 0, 1) := by decide +kernel
theorem dX2_start_1 : decode cX2_start 1 = .ok (.getfield 28, 3) := by decide +kernel
theorem dX2_start_4 : decode cX2_start 4 = .ok (.ifCond .eq 24, 3) := by decide +kernel
theorem dX2_start_7 : decode cX2_start 7 = .ok (.iload_n 1, 1) := by decide +kernel
theorem dX2_start_8 : decode cX2_start 8 = .ok (.iconst 1, 1) := by decide +kernel
theorem dX2_start_9 : decode cX2_start 9 = .ok (.if_icmp .lt 19, 3) := by decide +kernel
theorem dX2_start_12 : decode cX2_start 12 = .ok (.iload_n 1, 1) := by decide +kernel
theorem dX2_start_13 : decode cX2_start 13 = .ok (.bipush 32, 2) := by decide +kernel
theorem dX2_start_15 : decode cX2_start 15 = .ok (.if_icmp .gt 13, 3) := by decide +kernel
theorem dX2_start_18 : decode cX2_start 18 = .ok (.iload_n 2, 1) := by decide +kernel
theorem dX2_start_19 : decode cX2_start 19 = .ok (.ifCond .lt 9, 3) := by decide +kernel
theorem dX2_start_22 : decode cX2_start 22 = .ok (.iload_n 2, 1) := by decide +kernel
theorem dX2_start_23 : decode cX2_start 23 = .ok (.bipush 32, 2) := by decide +kernel
theorem dX2_start_25 : decode cX2_start 25 = .ok (.if_icmp .le 5, 3) := by decide +kernel
theorem dX2_start_28 : decode cX2_start 28 = .ok (.iconst 0, 1) := by decide +kernel
theorem dX2_start_29 : decode cX2_start 29 = .ok (.ireturn, 1) := by decide +kernel
theorem dX2_start_30 : decode cX2_start 30 = .ok (.iconst 0, 1) := by decide +kernel
theorem dX2_start_31 : decode cX2_start 31 = .ok (.istore_n 3, 1) := by decide +kernel
theorem dX2_start_32 : decode cX2_start 32 = .ok (.iload_n 3, 1) := by decide +kernel
theorem dX2_start_33 : decode cX2_start 33 = .ok (.bipush 8, 2) := by decide +kernel
theorem dX2_start_35 : decode cX2_start 35 = .ok (.if_icmp .ge 19, 3) := by decide +kernel
theorem dX2_start_38 : decode cX2_start 38 = .ok (.aload_n 0, 1) := by decide +kernel
theorem dX2_start_39 : decode cX2_start 39 = .ok (.getfield 13, 3) := by decide +kernel
theorem dX2_start_42 : decode cX2_start 42 = .ok (.iload_n 3, 1) := by decide +kernel
theorem dX2_start_43 : decode cX2_start 43 = .ok (.iload_n 3, 1) := by decide +kernel
theorem dX2_start_44 : decode cX2_start 44 = .ok (.invokestatic 46, 3) := by decide +kernel
theorem dX2_start_47 : decode cX2_start 47 = .ok (.iastore, 1) := by decide +kernel
theorem dX2_start_48 : decode cX2_start 48 = .ok (.iinc 3 1, 3) := by decide +kernel
theorem dX2_start_51 : decode cX2_start 51 = .ok (.goto (-19), 3) := by decide +kernel
theorem dX2_start_54 : decode cX2_start 54 = .ok (.aload_n 0, 1) := by decide +kernel
theorem dX2_start_55 : decode cX2_start 55 = .ok (.getfield 13, 3) := by decide +kernel
theorem dX2_start_58 : decode cX2_start 58 = .ok (.iconst 0, 1) := by decide +kernel
theorem dX2_start_59 : decode cX2_start 59 = .ok (.aload_n 0, 1) := by decide +kernel
theorem dX2_start_60 : decode cX2_start 60 = .ok (.getfield 13, 3) := by decide +kernel
theorem dX2_start_63 : decode cX2_start 63 = .ok (.iconst 0, 1) := by decide +kernel
theorem dX2_start_64 : decode cX2_start 64 = .ok (.iaload, 1) := by decide +kernel
theorem dX2_start_65 : decode cX2_start 65 = .ok (.ldc 50, 2) := by decide +kernel
theorem dX2_start_67 : decode cX2_start 67 = .ok (.ixor, 1) := by decide +kernel
theorem dX2_start_68 : decode cX2_start 68 = .ok (.iload_n 2, 1) := by decide +kernel
theorem dX2_start_69 : decode cX2_start 69 = .ok (.sipush 256, 3) := by decide +kernel
theorem dX2_start_72 : decode cX2_start 72 = .ok (.imul, 1) := by decide +kernel
theorem dX2_start_73 : decode cX2_start 73 = .ok (.ixor, 1) := by decide +kernel
theorem dX2_start_74 : decode cX2_start 74 = .ok (.iload_n 1, 1) := by decide +kernel
theorem dX2_start_75 : decode cX2_start 75 = .ok (.ixor, 1) := by decide +kernel
theorem dX2_start_76 : decode cX2_start 76 = .ok (.iastore, 1) := by decide +kernel
theorem dX2_start_77 : decode cX2_start 77 = .ok (.aload_n 0, 1) := by decide +kernel
theorem dX2_start_78 : decode cX2_start 78 = .ok (.iload_n 1, 1) := by decide +kernel
theorem dX2_start_79 : decode cX2_start 79 = .ok (.putfield 51, 3) := by decide +kernel
theorem dX2_start_82 : decode cX2_start 82 = .ok (.aload_n 0, 1) := by decide +kernel
theorem dX2_start_83 : decode cX2_start 83 = .ok (.iconst 0, 1) := by decide +kernel
theorem dX2_start_84 : decode cX2_start 84 = .ok (.putfield 55, 3) := by decide +kernel
theorem dX2_start_87 : decode cX2_start 87 = .ok (.aload_n 0, 1) := by decide +kernel
theorem dX2_start_88 : decode cX2_start 88 = .ok (.lconst 0, 1) := by decide +kernel
theorem dX2_start_89 : decode cX2_start 89 = .ok (.putfield 58, 3) := by decide +kernel
theorem dX2_start_92 : decode cX2_start 92 = .ok (.aload_n 0, 1) := by decide +kernel
theorem dX2_start_93 : decode cX2_start 93 = .ok (.iconst 0, 1) := by decide +kernel
theorem dX2_start_94 : decode cX2_start 94 = .ok (.putfield 62, 3) := by decide +kernel
theorem dX2_start_97 : decode cX2_start 97 = .ok (.aload_n 0, 1) := by decide +kernel
theorem dX2_start_98 : decode cX2_start 98 = .ok (.iconst 1, 1) := by decide +kernel
theorem dX2_start_99 : decode cX2_start 99 = .ok (.putfield 32, 3) := by decide +kernel
theorem dX2_start_102 : decode cX2_start 102 = .ok (.aload_n 0, 1) := by decide +kernel
theorem dX2_start_103 : decode cX2_start 103 = .ok (.iconst 0, 1) := by decide +kernel
theorem dX2_start_104 : decode cX2_start 104 = .ok (.putfield 35, 3) := by decide +kernel
theorem dX2_start_107 : decode cX2_start 107 = .ok (.iconst 0, 1) := by decide +kernel
theorem dX2_start_108 : decode cX2_start 108 = .ok (.istore_n 3, 1) := by decide +kernel
theorem dX2_start_109 : decode cX2_start 109 = .ok (.iload_n 3, 1) := by decide +kernel
theorem dX2_start_110 : decode cX2_start 110 = .ok (.bipush 64, 2) := by decide +kernel
theorem dX2_start_112 : decode cX2_start 112 = .ok (.if_icmp .ge 32, 3) := by decide +kernel
theorem dX2_start_115 : decode cX2_start 115 = .ok (.iload_n 2, 1) := by decide +kernel
theorem dX2_start_116 : decode cX2_start 116 = .ok (.ifCond .le 28, 3) := by decide +kernel
theorem dX2_start_119 : decode cX2_start 119 = .ok (.aload_n 0, 1) := by decide +kernel
theorem dX2_start_120 : decode cX2_start 120 = .ok (.iload_n 3, 1) := by decide +kernel
theorem dX2_start_121 : decode cX2_start 121 = .ok (.iload_n 2, 1) := by decide +kernel
theorem dX2_start_122 : decode cX2_start 122 = .ok (.if_icmp .ge 12, 3) := by decide +kernel
theorem dX2_start_125 : decode cX2_start 125 = .ok (.aload_n 0, 1) := by decide +kernel
theorem dX2_start_126 : decode cX2_start 126 = .ok (.getfield 7, 3) := by decide +kernel
theorem dX2_start_129 : decode cX2_start 129 = .ok (.iload_n 3, 1) := by decide +kernel
theorem dX2_start_130 : decode cX2_start 130 = .ok (.iaload, 1) := by decide +kernel
theorem dX2_start_131 : decode cX2_start 131 = .ok (.goto 4, 3) := by decide +kernel
theorem dX2_start_134 : decode cX2_start 134 = .ok (.iconst 0, 1) := by decide +kernel
theorem dX2_start_135 : decode cX2_start 135 = .ok (.invokevirtual 65, 3) := by decide +kernel
theorem dX2_start_138 : decode cX2_start 138 = .ok (.iinc 3 1, 3) := by decide +kernel
theorem dX2_start_141 : decode cX2_start 141 = .ok (.goto (-32), 3) := by decide +kernel
theorem dX2_start_144 : decode cX2_start 144 = .ok (.iconst 1, 1) := by decide +kernel
theorem dX2_start_145 : decode cX2_start 145 = .ok (.ireturn, 1) := by decide +kernel
set_option maxRecDepth 20000 in
theorem ggX2_take_X2_mix : GoodIn wsX2_take wsX2_mix := goodIn_r _ [9, 10, 4, 11, 12, 13, 14, 15, 8, 16, 17, 18, 19, 20, 21, 22, 23, 24, 25, 26, 27, 28, 29, 30, 31, 32, 33, 34, 35, 36, 37, 38, 39, 40, 41, 42, 43, 44] rfl (by decide +kernel)
set_option maxRecDepth 20000 in
theorem gX2_take_X2_mix : GoodIn wsX2_take (wsV RX2 71 RX2 yX2_mix wsX2_mix) := goodIn_app (goodIn_of _ (by decide +kernel)) ggX2_take_X2_mix
theorem dX2_take_0 : decode cX2_take 0 = .ok (.aload_n 0, 1) := by decide +kernel
theorem dX2_take_1 : decode cX2_take 1 = .ok (.getfield 55, 3) := by decide +kernel
theorem dX2_take_4 : decode cX2_take 4 = .ok (.bipush 64, 2) := by decide +kernel
theorem dX2_take_6 : decode cX2_take 6 = .ok (.if_icmp .ne 29, 3) := by decide +kernel
theorem dX2_take_9 : decode cX2_take 9 = .ok (.aload_n 0, 1) := by decide +kernel
theorem dX2_take_10 : decode cX2_take 10 = .ok (.aload_n 0, 1) := by decide +kernel
theorem dX2_take_11 : decode cX2_take 11 = .ok (.getfield 58, 3) := by decide +kernel
theorem dX2_take_14 : decode cX2_take 14 = .ok (.ldc2_w 69, 3) := by decide +kernel
theorem dX2_take_17 : decode cX2_take 17 = .ok (.ladd, 1) := by decide +kernel
theorem dX2_take_18 : decode cX2_take 18 = .ok (.putfield 58, 3) := by decide +kernel
theorem dX2_take_21 : decode cX2_take 21 = .ok (.aload_n 0, 1) := by decide +kernel
theorem dX2_take_22 : decode cX2_take 22 = .ok (.aload_n 0, 1) := by decide +kernel
theorem dX2_take_23 : decode cX2_take 23 = .ok (.getfield 58, 3) := by decide +kernel
theorem dX2_take_26 : decode cX2_take 26 = .ok (.iconst 0, 1) := by decide +kernel
theorem dX2_take_27 : decode cX2_take 27 = .ok (.invokevirtual 71, 3) := by decide +kernel
theorem dX2_take_30 : decode cX2_take 30 = .ok (.aload_n 0, 1) := by decide +kernel
theorem dX2_take_31 : decode cX2_take 31 = .ok (.iconst 0, 1) := by decide +kernel
theorem dX2_take_32 : decode cX2_take 32 = .ok (.putfield 55, 3) := by decide +kernel
theorem dX2_take_35 : decode cX2_take 35 = .ok (.aload_n 0, 1) := by decide +kernel
theorem dX2_take_36 : decode cX2_take 36 = .ok (.getfield 22, 3) := by decide +kernel
theorem dX2_take_39 : decode cX2_take 39 = .ok (.aload_n 0, 1) := by decide +kernel
theorem dX2_take_40 : decode cX2_take 40 = .ok (.getfield 55, 3) := by decide +kernel
theorem dX2_take_43 : decode cX2_take 43 = .ok (.iload_n 1, 1) := by decide +kernel
theorem dX2_take_44 : decode cX2_take 44 = .ok (.iastore, 1) := by decide +kernel
theorem dX2_take_45 : decode cX2_take 45 = .ok (.aload_n 0, 1) := by decide +kernel
theorem dX2_take_46 : decode cX2_take 46 = .ok (.dup, 1) := by decide +kernel
theorem dX2_take_47 : decode cX2_take 47 = .ok (.getfield 55, 3) := by decide +kernel
theorem dX2_take_50 : decode cX2_take 50 = .ok (.iconst 1, 1) := by decide +kernel
theorem dX2_take_51 : decode cX2_take 51 = .ok (.iadd, 1) := by decide +kernel
theorem dX2_take_52 : decode cX2_take 52 = .ok (.putfield 55, 3) := by decide +kernel
theorem dX2_take_55 : decode cX2_take 55 = .ok (.return_, 1) := by decide +kernel
theorem dX2_down_0 : decode cX2_down 0 = .ok (.iload_n 0, 1) := by decide +kernel
theorem dX2_down_1 : decode cX2_down 1 = .ok (.iload_n 1, 1) := by decide +kernel
theorem dX2_down_2 : decode cX2_down 2 = .ok (.iushr, 1) := by decide +kernel
theorem dX2_down_3 : decode cX2_down 3 = .ok (.iload_n 0, 1) := by decide +kernel
theorem dX2_down_4 : decode cX2_down 4 = .ok (.bipush 32, 2) := by decide +kernel
theorem dX2_down_6 : decode cX2_down 6 = .ok (.iload_n 1, 1) := by decide +kernel
theorem dX2_down_7 : decode cX2_down 7 = .ok (.isub, 1) := by decide +kernel
theorem dX2_down_8 : decode cX2_down 8 = .ok (.ishl, 1) := by decide +kernel
theorem dX2_down_9 : decode cX2_down 9 = .ok (.ior, 1) := by decide +kernel
theorem dX2_down_10 : decode cX2_down 10 = .ok (.ireturn, 1) := by decide +kernel
set_option maxRecDepth 20000 in
theorem ggX2_g_X2_down : GoodIn wsX2_g wsX2_down := goodIn_r _ [5] rfl (by decide +kernel)
set_option maxRecDepth 20000 in
theorem gX2_g_X2_down : GoodIn wsX2_g (va_wsS RX2 75 yX2_down wsX2_down) := goodIn_app (goodIn_of _ (by decide +kernel)) ggX2_g_X2_down
theorem dX2_g_0 : decode cX2_g 0 = .ok (.aload_n 0, 1) := by decide +kernel
theorem dX2_g_1 : decode cX2_g 1 = .ok (.getfield 16, 3) := by decide +kernel
theorem dX2_g_4 : decode cX2_g 4 = .ok (.iload_n 1, 1) := by decide +kernel
theorem dX2_g_5 : decode cX2_g 5 = .ok (.aload_n 0, 1) := by decide +kernel
theorem dX2_g_6 : decode cX2_g 6 = .ok (.getfield 16, 3) := by decide +kernel
theorem dX2_g_9 : decode cX2_g 9 = .ok (.iload_n 1, 1) := by decide +kernel
theorem dX2_g_10 : decode cX2_g 10 = .ok (.iaload, 1) := by decide +kernel
theorem dX2_g_11 : decode cX2_g 11 = .ok (.aload_n 0, 1) := by decide +kernel
theorem dX2_g_12 : decode cX2_g 12 = .ok (.getfield 16, 3) := by decide +kernel
theorem dX2_g_15 : decode cX2_g 15 = .ok (.iload_n 2, 1) := by decide +kernel
theorem dX2_g_16 : decode cX2_g 16 = .ok (.iaload, 1) := by decide +kernel
theorem dX2_g_17 : decode cX2_g 17 = .ok (.iadd, 1) := by decide +kernel
theorem dX2_g_18 : decode cX2_g 18 = .ok (.iload 5, 2) := by decide +kernel
theorem dX2_g_20 : decode cX2_g 20 = .ok (.iadd, 1) := by decide +kernel
theorem dX2_g_21 : decode cX2_g 21 = .ok (.iastore, 1) := by decide +kernel
theorem dX2_g_22 : decode cX2_g 22 = .ok (.aload_n 0, 1) := by decide +kernel
theorem dX2_g_23 : decode cX2_g 23 = .ok (.getfield 16, 3) := by decide +kernel
theorem dX2_g_26 : decode cX2_g 26 = .ok (.iload 4, 2) := by decide +kernel
theorem dX2_g_28 : decode cX2_g 28 = .ok (.aload_n 0, 1) := by decide +kernel
theorem dX2_g_29 : decode cX2_g 29 = .ok (.getfield 16, 3) := by decide +kernel
theorem dX2_g_32 : decode cX2_g 32 = .ok (.iload 4, 2) := by decide +kernel
theorem dX2_g_34 : decode cX2_g 34 = .ok (.iaload, 1) := by decide +kernel
theorem dX2_g_35 : decode cX2_g 35 = .ok (.aload_n 0, 1) := by decide +kernel
theorem dX2_g_36 : decode cX2_g 36 = .ok (.getfield 16, 3) := by decide +kernel
theorem dX2_g_39 : decode cX2_g 39 = .ok (.iload_n 1, 1) := by decide +kernel
theorem dX2_g_40 : decode cX2_g 40 = .ok (.iaload, 1) := by decide +kernel
theorem dX2_g_41 : decode cX2_g 41 = .ok (.ixor, 1) := by decide +kernel
theorem dX2_g_42 : decode cX2_g 42 = .ok (.bipush 16, 2) := by decide +kernel
theorem dX2_g_44 : decode cX2_g 44 = .ok (.invokestatic 75, 3) := by decide +kernel
theorem dX2_g_47 : decode cX2_g 47 = .ok (.iastore, 1) := by decide +kernel
theorem dX2_g_48 : decode cX2_g 48 = .ok (.aload_n 0, 1) := by decide +kernel
theorem dX2_g_49 : decode cX2_g 49 = .ok (.getfield 16, 3) := by decide +kernel
theorem dX2_g_52 : decode cX2_g 52 = .ok (.iload_n 3, 1) := by decide +kernel
theorem dX2_g_53 : decode cX2_g 53 = .ok (.aload_n 0, 1) := by decide +kernel
theorem dX2_g_54 : decode cX2_g 54 = .ok (.getfield 16, 3) := by decide +kernel
theorem dX2_g_57 : decode cX2_g 57 = .ok (.iload_n 3, 1) := by decide +kernel
theorem dX2_g_58 : decode cX2_g 58 = .ok (.iaload, 1) := by decide +kernel
theorem dX2_g_59 : decode cX2_g 59 = .ok (.aload_n 0, 1) := by decide +kernel
theorem dX2_g_60 : decode cX2_g 60 = .ok (.getfield 16, 3) := by decide +kernel
theorem dX2_g_63 : decode cX2_g 63 = .ok (.iload 4, 2) := by decide +kernel
theorem dX2_g_65 : decode cX2_g 65 = .ok (.iaload, 1) := by decide +kernel
theorem dX2_g_66 : decode cX2_g 66 = .ok (.iadd, 1) := by decide +kernel
theorem dX2_g_67 : decode cX2_g 67 = .ok (.iastore, 1) := by decide +kernel
theorem dX2_g_68 : decode cX2_g 68 = .ok (.aload_n 0, 1) := by decide +kernel
theorem dX2_g_69 : decode cX2_g 69 = .ok (.getfield 16, 3) := by decide +kernel
theorem dX2_g_72 : decode cX2_g 72 = .ok (.iload_n 2, 1) := by decide +kernel
theorem dX2_g_73 : decode cX2_g 73 = .ok (.aload_n 0, 1) := by decide +kernel
theorem dX2_g_74 : decode cX2_g 74 = .ok (.getfield 16, 3) := by decide +kernel
theorem dX2_g_77 : decode cX2_g 77 = .ok (.iload_n 2, 1) := by decide +kernel
theorem dX2_g_78 : decode cX2_g 78 = .ok (.iaload, 1) := by decide +kernel
theorem dX2_g_79 : decode cX2_g 79 = .ok (.aload_n 0, 1) := by decide +kernel
theorem dX2_g_80 : decode cX2_g 80 = .ok (.getfield 16, 3) := by decide +kernel
theorem dX2_g_83 : decode cX2_g 83 = .ok (.iload_n 3, 1) := by decide +kernel
theorem dX2_g_84 : decode cX2_g 84 = .ok (.iaload, 1) := by decide +kernel
theorem dX2_g_85 : decode cX2_g 85 = .ok (.ixor, 1) := by decide +kernel
theorem dX2_g_86 : decode cX2_g 86 = .ok (.bipush 12, 2) := by decide +kernel
theorem dX2_g_88 : decode cX2_g 88 = .ok (.invokestatic 75, 3) := by decide +kernel
theorem dX2_g_91 : decode cX2_g 91 = .ok (.iastore, 1) := by decide +kernel
theorem dX2_g_92 : decode cX2_g 92 = .ok (.aload_n 0, 1) := by decide +kernel
theorem dX2_g_93 : decode cX2_g 93 = .ok (.getfield 16, 3) := by decide +kernel
theorem dX2_g_96 : decode cX2_g 96 = .ok (.iload_n 1, 1) := by decide +kernel
theorem dX2_g_97 : decode cX2_g 97 = .ok (.aload_n 0, 1) := by decide +kernel
theorem dX2_g_98 : decode cX2_g 98 = .ok (.getfield 16, 3) := by decide +kernel
theorem dX2_g_101 : decode cX2_g 101 = .ok (.iload_n 1, 1) := by decide +kernel
theorem dX2_g_102 : decode cX2_g 102 = .ok (.iaload, 1) := by decide +kernel
theorem dX2_g_103 : decode cX2_g 103 = .ok (.aload_n 0, 1) := by decide +kernel
theorem dX2_g_104 : decode cX2_g 104 = .ok (.getfield 16, 3) := by decide +kernel
theorem dX2_g_107 : decode cX2_g 107 = .ok (.iload_n 2, 1) := by decide +kernel
theorem dX2_g_108 : decode cX2_g 108 = .ok (.iaload, 1) := by decide +kernel
theorem dX2_g_109 : decode cX2_g 109 = .ok (.iadd, 1) := by decide +kernel
theorem dX2_g_110 : decode cX2_g 110 = .ok (.iload 6, 2) := by decide +kernel
theorem dX2_g_112 : decode cX2_g 112 = .ok (.iadd, 1) := by decide +kernel
theorem dX2_g_113 : decode cX2_g 113 = .ok (.iastore, 1) := by decide +kernel
theorem dX2_g_114 : decode cX2_g 114 = .ok (.aload_n 0, 1) := by decide +kernel
theorem dX2_g_115 : decode cX2_g 115 = .ok (.getfield 16, 3) := by decide +kernel
theorem dX2_g_118 : decode cX2_g 118 = .ok (.iload 4, 2) := by decide +kernel
theorem dX2_g_120 : decode cX2_g 120 = .ok (.aload_n 0, 1) := by decide +kernel
theorem dX2_g_121 : decode cX2_g 121 = .ok (.getfield 16, 3) := by decide +kernel
theorem dX2_g_124 : decode cX2_g 124 = .ok (.iload 4, 2) := by decide +kernel
theorem dX2_g_126 : decode cX2_g 126 = .ok (.iaload, 1) := by decide +kernel
theorem dX2_g_127 : decode cX2_g 127 = .ok (.aload_n 0, 1) := by decide +kernel
theorem dX2_g_128 : decode cX2_g 128 = .ok (.getfield 16, 3) := by decide +kernel
theorem dX2_g_131 : decode cX2_g 131 = .ok (.iload_n 1, 1) := by decide +kernel
theorem dX2_g_132 : decode cX2_g 132 = .ok (.iaload, 1) := by decide +kernel
theorem dX2_g_133 : decode cX2_g 133 = .ok (.ixor, 1) := by decide +kernel
theorem dX2_g_134 : decode cX2_g 134 = .ok (.bipush 8, 2) := by decide +kernel
theorem dX2_g_136 : decode cX2_g 136 = .ok (.invokestatic 75, 3) := by decide +kernel
theorem dX2_g_139 : decode cX2_g 139 = .ok (.iastore, 1) := by decide +kernel
theorem dX2_g_140 : decode cX2_g 140 = .ok (.aload_n 0, 1) := by decide +kernel
theorem dX2_g_141 : decode cX2_g 141 = .ok (.getfield 16, 3) := by decide +kernel
theorem dX2_g_144 : decode cX2_g 144 = .ok (.iload_n 3, 1) := by decide +kernel
theorem dX2_g_145 : decode cX2_g 145 = .ok (.aload_n 0, 1) := by decide +kernel
theorem dX2_g_146 : decode cX2_g 146 = .ok (.getfield 16, 3) := by decide +kernel
theorem dX2_g_149 : decode cX2_g 149 = .ok (.iload_n 3, 1) := by decide +kernel
theorem dX2_g_150 : decode cX2_g 150 = .ok (.iaload, 1) := by decide +kernel
theorem dX2_g_151 : decode cX2_g 151 = .ok (.aload_n 0, 1) := by decide +kernel
theorem dX2_g_152 : decode cX2_g 152 = .ok (.getfield 16, 3) := by decide +kernel
theorem dX2_g_155 : decode cX2_g 155 = .ok (.iload 4, 2) := by decide +kernel
theorem dX2_g_157 : decode cX2_g 157 = .ok (.iaload, 1) := by decide +kernel
theorem dX2_g_158 : decode cX2_g 158 = .ok (.iadd, 1) := by decide +kernel
theorem dX2_g_159 : decode cX2_g 159 = .ok (.iastore, 1) := by decide +kernel
theorem dX2_g_160 : decode cX2_g 160 = .ok (.aload_n 0, 1) := by decide +kernel
theorem dX2_g_161 : decode cX2_g 161 = .ok (.getfield 16, 3) := by decide +kernel
theorem dX2_g_164 : decode cX2_g 164 = .ok (.iload_n 2, 1) := by decide +kernel
theorem dX2_g_165 : decode cX2_g 165 = .ok (.aload_n 0, 1) := by decide +kernel
theorem dX2_g_166 : decode cX2_g 166 = .ok (.getfield 16, 3) := by decide +kernel
theorem dX2_g_169 : decode cX2_g 169 = .ok (.iload_n 2, 1) := by decide +kernel
theorem dX2_g_170 : decode cX2_g 170 = .ok (.iaload, 1) := by decide +kernel
theorem dX2_g_171 : decode cX2_g 171 = .ok (.aload_n 0, 1) := by decide +kernel
theorem dX2_g_172 : decode cX2_g 172 = .ok (.getfield 16, 3) := by decide +kernel
theorem dX2_g_175 : decode cX2_g 175 = .ok (.iload_n 3, 1) := by decide +kernel
theorem dX2_g_176 : decode cX2_g 176 = .ok (.iaload, 1) := by decide +kernel
theorem dX2_g_177 : decode cX2_g 177 = .ok (.ixor, 1) := by decide +kernel
theorem dX2_g_178 : decode cX2_g 178 = .ok (.bipush 7, 2) := by decide +kernel
theorem dX2_g_180 : decode cX2_g 180 = .ok (.invokestatic 75, 3) := by decide +kernel
theorem dX2_g_183 : decode cX2_g 183 = .ok (.iastore, 1) := by decide +kernel
theorem dX2_g_184 : decode cX2_g 184 = .ok (.return_, 1) := by decide +kernel
set_option maxRecDepth 20000 in
theorem ggX2_mix_X2_first : GoodIn wsX2_mix wsX2_first := goodIn_r _ [9, 10, 11, 12, 13, 14, 15, 16, 17] rfl (by decide +kernel)
set_option maxRecDepth 20000 in
theorem gX2_mix_X2_first : GoodIn wsX2_mix (va_wsS RX2 46 yX2_first wsX2_first) := goodIn_app (goodIn_of _ (by decide +kernel)) ggX2_mix_X2_first
set_option maxRecDepth 20000 in
theorem ggX2_mix_X2_g : GoodIn wsX2_mix wsX2_g := goodIn_r _ [21, 3, 22, 23, 8, 24, 25, 26, 27, 28, 29, 30, 31, 32, 33, 34, 35, 36, 37] rfl (by decide +kernel)
set_option maxRecDepth 20000 in
theorem gX2_mix_X2_g : GoodIn wsX2_mix (wsV RX2 79 RX2 yX2_g wsX2_g) := goodIn_app (goodIn_of _ (by decide +kernel)) ggX2_mix_X2_g
theorem dX2_mix_0 : decode cX2_mix 0 = .ok (.iconst 0, 1) := by decide +kernel
theorem dX2_mix_1 : decode cX2_mix 1 = .ok (.istore 4, 2) := by decide +kernel
theorem dX2_mix_3 : decode cX2_mix 3 = .ok (.iload 4, 2) := by decide +kernel
theorem dX2_mix_5 : decode cX2_mix 5 = .ok (.bipush 16, 2) := by decide +kernel
theorem dX2_mix_7 : decode cX2_mix 7 = .ok (.if_icmp .ge 102, 3) := by decide +kernel
theorem dX2_mix_10 : decode cX2_mix 10 = .ok (.aload_n 0, 1) := by decide +kernel
theorem dX2_mix_11 : decode cX2_mix 11 = .ok (.getfield 19, 3) := by decide +kernel
theorem dX2_mix_14 : decode cX2_mix 14 = .ok (.iload 4, 2) := by decide +kernel
theorem dX2_mix_16 : decode cX2_mix 16 = .ok (.aload_n 0, 1) := by decide +kernel
theorem dX2_mix_17 : decode cX2_mix 17 = .ok (.getfield 22, 3) := by decide +kernel
theorem dX2_mix_20 : decode cX2_mix 20 = .ok (.iconst 4, 1) := by decide +kernel
theorem dX2_mix_21 : decode cX2_mix 21 = .ok (.iload 4, 2) := by decide +kernel
theorem dX2_mix_23 : decode cX2_mix 23 = .ok (.imul, 1) := by decide +kernel
theorem dX2_mix_24 : decode cX2_mix 24 = .ok (.iaload, 1) := by decide +kernel
theorem dX2_mix_25 : decode cX2_mix 25 = .ok (.aload_n 0, 1) := by decide +kernel
theorem dX2_mix_26 : decode cX2_mix 26 = .ok (.getfield 22, 3) := by decide +kernel
theorem dX2_mix_29 : decode cX2_mix 29 = .ok (.iconst 4, 1) := by decide +kernel
theorem dX2_mix_30 : decode cX2_mix 30 = .ok (.iload 4, 2) := by decide +kernel
theorem dX2_mix_32 : decode cX2_mix 32 = .ok (.imul, 1) := by decide +kernel
theorem dX2_mix_33 : decode cX2_mix 33 = .ok (.iconst 1, 1) := by decide +kernel
theorem dX2_mix_34 : decode cX2_mix 34 = .ok (.iadd, 1) := by decide +kernel
theorem dX2_mix_35 : decode cX2_mix 35 = .ok (.iaload, 1) := by decide +kernel
theorem dX2_mix_36 : decode cX2_mix 36 = .ok (.bipush 8, 2) := by decide +kernel
theorem dX2_mix_38 : decode cX2_mix 38 = .ok (.ishl, 1) := by decide +kernel
theorem dX2_mix_39 : decode cX2_mix 39 = .ok (.ior, 1) := by decide +kernel
theorem dX2_mix_40 : decode cX2_mix 40 = .ok (.aload_n 0, 1) := by decide +kernel
theorem dX2_mix_41 : decode cX2_mix 41 = .ok (.getfield 22, 3) := by decide +kernel
theorem dX2_mix_44 : decode cX2_mix 44 = .ok (.iconst 4, 1) := by decide +kernel
theorem dX2_mix_45 : decode cX2_mix 45 = .ok (.iload 4, 2) := by decide +kernel
theorem dX2_mix_47 : decode cX2_mix 47 = .ok (.imul, 1) := by decide +kernel
theorem dX2_mix_48 : decode cX2_mix 48 = .ok (.iconst 2, 1) := by decide +kernel
theorem dX2_mix_49 : decode cX2_mix 49 = .ok (.iadd, 1) := by decide +kernel
theorem dX2_mix_50 : decode cX2_mix 50 = .ok (.iaload, 1) := by decide +kernel
theorem dX2_mix_51 : decode cX2_mix 51 = .ok (.bipush 16, 2) := by decide +kernel
theorem dX2_mix_53 : decode cX2_mix 53 = .ok (.ishl, 1) := by decide +kernel
theorem dX2_mix_54 : decode cX2_mix 54 = .ok (.ior, 1) := by decide +kernel
theorem dX2_mix_55 : decode cX2_mix 55 = .ok (.aload_n 0, 1) := by decide +kernel
theorem dX2_mix_56 : decode cX2_mix 56 = .ok (.getfield 22, 3) := by decide +kernel
theorem dX2_mix_59 : decode cX2_mix 59 = .ok (.iconst 4, 1) := by decide +kernel
theorem dX2_mix_60 : decode cX2_mix 60 = .ok (.iload 4, 2) := by decide +kernel
theorem dX2_mix_62 : decode cX2_mix 62 = .ok (.imul, 1) := by decide +kernel
theorem dX2_mix_63 : decode cX2_mix 63 = .ok (.iconst 3, 1) := by decide +kernel
theorem dX2_mix_64 : decode cX2_mix 64 = .ok (.iadd, 1) := by decide +kernel
theorem dX2_mix_65 : decode cX2_mix 65 = .ok (.iaload, 1) := by decide +kernel
theorem dX2_mix_66 : decode cX2_mix 66 = .ok (.bipush 24, 2) := by decide +kernel
theorem dX2_mix_68 : decode cX2_mix 68 = .ok (.ishl, 1) := by decide +kernel
theorem dX2_mix_69 : decode cX2_mix 69 = .ok (.ior, 1) := by decide +kernel
theorem dX2_mix_70 : decode cX2_mix 70 = .ok (.iastore, 1) := by decide +kernel
theorem dX2_mix_71 : decode cX2_mix 71 = .ok (.aload_n 0, 1) := by decide +kernel
theorem dX2_mix_72 : decode cX2_mix 72 = .ok (.getfield 16, 3) := by decide +kernel
theorem dX2_mix_75 : decode cX2_mix 75 = .ok (.iload 4, 2) := by decide +kernel
theorem dX2_mix_77 : decode cX2_mix 77 = .ok (.iload 4, 2) := by decide +kernel
theorem dX2_mix_79 : decode cX2_mix 79 = .ok (.bipush 8, 2) := by decide +kernel
theorem dX2_mix_81 : decode cX2_mix 81 = .ok (.if_icmp .ge 13, 3) := by decide +kernel
theorem dX2_mix_84 : decode cX2_mix 84 = .ok (.aload_n 0, 1) := by decide +kernel
theorem dX2_mix_85 : decode cX2_mix 85 = .ok (.getfield 13, 3) := by decide +kernel
theorem dX2_mix_88 : decode cX2_mix 88 = .ok (.iload 4, 2) := by decide +kernel
theorem dX2_mix_90 : decode cX2_mix 90 = .ok (.iaload, 1) := by decide +kernel
theorem dX2_mix_91 : decode cX2_mix 91 = .ok (.goto 11, 3) := by decide +kernel
theorem dX2_mix_94 : decode cX2_mix 94 = .ok (.iload 4, 2) := by decide +kernel
theorem dX2_mix_96 : decode cX2_mix 96 = .ok (.bipush 8, 2) := by decide +kernel
theorem dX2_mix_98 : decode cX2_mix 98 = .ok (.isub, 1) := by decide +kernel
theorem dX2_mix_99 : decode cX2_mix 99 = .ok (.invokestatic 46, 3) := by decide +kernel
theorem dX2_mix_102 : decode cX2_mix 102 = .ok (.iastore, 1) := by decide +kernel
theorem dX2_mix_103 : decode cX2_mix 103 = .ok (.iinc 4 1, 3) := by decide +kernel
theorem dX2_mix_106 : decode cX2_mix 106 = .ok (.goto (-103), 3) := by decide +kernel
theorem dX2_mix_109 : decode cX2_mix 109 = .ok (.aload_n 0, 1) := by decide +kernel
theorem dX2_mix_110 : decode cX2_mix 110 = .ok (.getfield 16, 3) := by decide +kernel
theorem dX2_mix_113 : decode cX2_mix 113 = .ok (.bipush 12, 2) := by decide +kernel
theorem dX2_mix_115 : decode cX2_mix 115 = .ok (.aload_n 0, 1) := by decide +kernel
theorem dX2_mix_116 : decode cX2_mix 116 = .ok (.getfield 16, 3) := by decide +kernel
theorem dX2_mix_119 : decode cX2_mix 119 = .ok (.bipush 12, 2) := by decide +kernel
theorem dX2_mix_121 : decode cX2_mix 121 = .ok (.iaload, 1) := by decide +kernel
theorem dX2_mix_122 : decode cX2_mix 122 = .ok (.lload_n 1, 1) := by decide +kernel
theorem dX2_mix_123 : decode cX2_mix 123 = .ok (.l2i, 1) := by decide +kernel
theorem dX2_mix_124 : decode cX2_mix 124 = .ok (.ixor, 1) := by decide +kernel
theorem dX2_mix_125 : decode cX2_mix 125 = .ok (.iastore, 1) := by decide +kernel
theorem dX2_mix_126 : decode cX2_mix 126 = .ok (.aload_n 0, 1) := by decide +kernel
theorem dX2_mix_127 : decode cX2_mix 127 = .ok (.getfield 16, 3) := by decide +kernel
theorem dX2_mix_130 : decode cX2_mix 130 = .ok (.bipush 13, 2) := by decide +kernel
theorem dX2_mix_132 : decode cX2_mix 132 = .ok (.aload_n 0, 1) := by decide +kernel
theorem dX2_mix_133 : decode cX2_mix 133 = .ok (.getfield 16, 3) := by decide +kernel
theorem dX2_mix_136 : decode cX2_mix 136 = .ok (.bipush 13, 2) := by decide +kernel
theorem dX2_mix_138 : decode cX2_mix 138 = .ok (.iaload, 1) := by decide +kernel
theorem dX2_mix_139 : decode cX2_mix 139 = .ok (.lload_n 1, 1) := by decide +kernel
theorem dX2_mix_140 : decode cX2_mix 140 = .ok (.bipush 32, 2) := by decide +kernel
theorem dX2_mix_142 : decode cX2_mix 142 = .ok (.lushr, 1) := by decide +kernel
theorem dX2_mix_143 : decode cX2_mix 143 = .ok (.l2i, 1) := by decide +kernel
theorem dX2_mix_144 : decode cX2_mix 144 = .ok (.ixor, 1) := by decide +kernel
theorem dX2_mix_145 : decode cX2_mix 145 = .ok (.iastore, 1) := by decide +kernel
theorem dX2_mix_146 : decode cX2_mix 146 = .ok (.aload_n 0, 1) := by decide +kernel
theorem dX2_mix_147 : decode cX2_mix 147 = .ok (.getfield 16, 3) := by decide +kernel
theorem dX2_mix_150 : decode cX2_mix 150 = .ok (.bipush 14, 2) := by decide +kernel
theorem dX2_mix_152 : decode cX2_mix 152 = .ok (.iload_n 3, 1) := by decide +kernel
theorem dX2_mix_153 : decode cX2_mix 153 = .ok (.ifCond .eq 15, 3) := by decide +kernel
theorem dX2_mix_156 : decode cX2_mix 156 = .ok (.aload_n 0, 1) := by decide +kernel
theorem dX2_mix_157 : decode cX2_mix 157 = .ok (.getfield 16, 3) := by decide +kernel
theorem dX2_mix_160 : decode cX2_mix 160 = .ok (.bipush 14, 2) := by decide +kernel
theorem dX2_mix_162 : decode cX2_mix 162 = .ok (.iaload, 1) := by decide +kernel
theorem dX2_mix_163 : decode cX2_mix 163 = .ok (.iconst (-1), 1) := by decide +kernel
theorem dX2_mix_164 : decode cX2_mix 164 = .ok (.ixor, 1) := by decide +kernel
theorem dX2_mix_165 : decode cX2_mix 165 = .ok (.goto 10, 3) := by decide +kernel
theorem dX2_mix_168 : decode cX2_mix 168 = .ok (.aload_n 0, 1) := by decide +kernel
theorem dX2_mix_169 : decode cX2_mix 169 = .ok (.getfield 16, 3) := by decide +kernel
theorem dX2_mix_172 : decode cX2_mix 172 = .ok (.bipush 14, 2) := by decide +kernel
theorem dX2_mix_174 : decode cX2_mix 174 = .ok (.iaload, 1) := by decide +kernel
theorem dX2_mix_175 : decode cX2_mix 175 = .ok (.iastore, 1) := by decide +kernel
theorem dX2_mix_176 : decode cX2_mix 176 = .ok (.iconst 0, 1) := by decide +kernel
theorem dX2_mix_177 : decode cX2_mix 177 = .ok (.istore 4, 2) := by decide +kernel
theorem dX2_mix_179 : decode cX2_mix 179 = .ok (.iload 4, 2) := by decide +kernel
theorem dX2_mix_181 : decode cX2_mix 181 = .ok (.sipush 160, 3) := by decide +kernel
theorem dX2_mix_184 : decode cX2_mix 184 = .ok (.if_icmp .ge 329, 3) := by decide +kernel
theorem dX2_mix_187 : decode cX2_mix 187 = .ok (.aload_n 0, 1) := by decide +kernel
theorem dX2_mix_188 : decode cX2_mix 188 = .ok (.iconst 0, 1) := by decide +kernel
theorem dX2_mix_189 : decode cX2_mix 189 = .ok (.iconst 4, 1) := by decide +kernel
theorem dX2_mix_190 : decode cX2_mix 190 = .ok (.bipush 8, 2) := by decide +kernel
theorem dX2_mix_192 : decode cX2_mix 192 = .ok (.bipush 12, 2) := by decide +kernel
theorem dX2_mix_194 : decode cX2_mix 194 = .ok (.aload_n 0, 1) := by decide +kernel
theorem dX2_mix_195 : decode cX2_mix 195 = .ok (.getfield 19, 3) := by decide +kernel
theorem dX2_mix_198 : decode cX2_mix 198 = .ok (.aload_n 0, 1) := by decide +kernel
theorem dX2_mix_199 : decode cX2_mix 199 = .ok (.getfield 25, 3) := by decide +kernel
theorem dX2_mix_202 : decode cX2_mix 202 = .ok (.iload 4, 2) := by decide +kernel
theorem dX2_mix_204 : decode cX2_mix 204 = .ok (.iaload, 1) := by decide +kernel
theorem dX2_mix_205 : decode cX2_mix 205 = .ok (.iaload, 1) := by decide +kernel
theorem dX2_mix_206 : decode cX2_mix 206 = .ok (.aload_n 0, 1) := by decide +kernel
theorem dX2_mix_207 : decode cX2_mix 207 = .ok (.getfield 19, 3) := by decide +kernel
theorem dX2_mix_210 : decode cX2_mix 210 = .ok (.aload_n 0, 1) := by decide +kernel
theorem dX2_mix_211 : decode cX2_mix 211 = .ok (.getfield 25, 3) := by decide +kernel
theorem dX2_mix_214 : decode cX2_mix 214 = .ok (.iload 4, 2) := by decide +kernel
theorem dX2_mix_216 : decode cX2_mix 216 = .ok (.iconst 1, 1) := by decide +kernel
theorem dX2_mix_217 : decode cX2_mix 217 = .ok (.iadd, 1) := by decide +kernel
theorem dX2_mix_218 : decode cX2_mix 218 = .ok (.iaload, 1) := by decide +kernel
theorem dX2_mix_219 : decode cX2_mix 219 = .ok (.iaload, 1) := by decide +kernel
theorem dX2_mix_220 : decode cX2_mix 220 = .ok (.invokevirtual 79, 3) := by decide +kernel
theorem dX2_mix_223 : decode cX2_mix 223 = .ok (.aload_n 0, 1) := by decide +kernel
theorem dX2_mix_224 : decode cX2_mix 224 = .ok (.iconst 1, 1) := by decide +kernel
theorem dX2_mix_225 : decode cX2_mix 225 = .ok (.iconst 5, 1) := by decide +kernel
theorem dX2_mix_226 : decode cX2_mix 226 = .ok (.bipush 9, 2) := by decide +kernel
theorem dX2_mix_228 : decode cX2_mix 228 = .ok (.bipush 13, 2) := by decide +kernel
theorem dX2_mix_230 : decode cX2_mix 230 = .ok (.aload_n 0, 1) := by decide +kernel
theorem dX2_mix_231 : decode cX2_mix 231 = .ok (.getfield 19, 3) := by decide +kernel
theorem dX2_mix_234 : decode cX2_mix 234 = .ok (.aload_n 0, 1) := by decide +kernel
theorem dX2_mix_235 : decode cX2_mix 235 = .ok (.getfield 25, 3) := by decide +kernel
theorem dX2_mix_238 : decode cX2_mix 238 = .ok (.iload 4, 2) := by decide +kernel
theorem dX2_mix_240 : decode cX2_mix 240 = .ok (.iconst 2, 1) := by decide +kernel
theorem dX2_mix_241 : decode cX2_mix 241 = .ok (.iadd, 1) := by decide +kernel
theorem dX2_mix_242 : decode cX2_mix 242 = .ok (.iaload, 1) := by decide +kernel
theorem dX2_mix_243 : decode cX2_mix 243 = .ok (.iaload, 1) := by decide +kernel
theorem dX2_mix_244 : decode cX2_mix 244 = .ok (.aload_n 0, 1) := by decide +kernel
theorem dX2_mix_245 : decode cX2_mix 245 = .ok (.getfield 19, 3) := by decide +kernel
theorem dX2_mix_248 : decode cX2_mix 248 = .ok (.aload_n 0, 1) := by decide +kernel
theorem dX2_mix_249 : decode cX2_mix 249 = .ok (.getfield 25, 3) := by decide +kernel
theorem dX2_mix_252 : decode cX2_mix 252 = .ok (.iload 4, 2) := by decide +kernel
theorem dX2_mix_254 : decode cX2_mix 254 = .ok (.iconst 3, 1) := by decide +kernel
theorem dX2_mix_255 : decode cX2_mix 255 = .ok (.iadd, 1) := by decide +kernel
theorem dX2_mix_256 : decode cX2_mix 256 = .ok (.iaload, 1) := by decide +kernel
theorem dX2_mix_257 : decode cX2_mix 257 = .ok (.iaload, 1) := by decide +kernel
theorem dX2_mix_258 : decode cX2_mix 258 = .ok (.invokevirtual 79, 3) := by decide +kernel
theorem dX2_mix_261 : decode cX2_mix 261 = .ok (.aload_n 0, 1) := by decide +kernel
theorem dX2_mix_262 : decode cX2_mix 262 = .ok (.iconst 2, 1) := by decide +kernel
theorem dX2_mix_263 : decode cX2_mix 263 = .ok (.bipush 6, 2) := by decide +kernel
theorem dX2_mix_265 : decode cX2_mix 265 = .ok (.bipush 10, 2) := by decide +kernel
theorem dX2_mix_267 : decode cX2_mix 267 = .ok (.bipush 14, 2) := by decide +kernel
theorem dX2_mix_269 : decode cX2_mix 269 = .ok (.aload_n 0, 1) := by decide +kernel
theorem dX2_mix_270 : decode cX2_mix 270 = .ok (.getfield 19, 3) := by decide +kernel
theorem dX2_mix_273 : decode cX2_mix 273 = .ok (.aload_n 0, 1) := by decide +kernel
theorem dX2_mix_274 : decode cX2_mix 274 = .ok (.getfield 25, 3) := by decide +kernel
theorem dX2_mix_277 : decode cX2_mix 277 = .ok (.iload 4, 2) := by decide +kernel
theorem dX2_mix_279 : decode cX2_mix 279 = .ok (.iconst 4, 1) := by decide +kernel
theorem dX2_mix_280 : decode cX2_mix 280 = .ok (.iadd, 1) := by decide +kernel
theorem dX2_mix_281 : decode cX2_mix 281 = .ok (.iaload, 1) := by decide +kernel
theorem dX2_mix_282 : decode cX2_mix 282 = .ok (.iaload, 1) := by decide +kernel
theorem dX2_mix_283 : decode cX2_mix 283 = .ok (.aload_n 0, 1) := by decide +kernel
theorem dX2_mix_284 : decode cX2_mix 284 = .ok (.getfield 19, 3) := by decide +kernel
theorem dX2_mix_287 : decode cX2_mix 287 = .ok (.aload_n 0, 1) := by decide +kernel
theorem dX2_mix_288 : decode cX2_mix 288 = .ok (.getfield 25, 3) := by decide +kernel
theorem dX2_mix_291 : decode cX2_mix 291 = .ok (.iload 4, 2) := by decide +kernel
theorem dX2_mix_293 : decode cX2_mix 293 = .ok (.iconst 5, 1) := by decide +kernel
theorem dX2_mix_294 : decode cX2_mix 294 = .ok (.iadd, 1) := by decide +kernel
theorem dX2_mix_295 : decode cX2_mix 295 = .ok (.iaload, 1) := by decide +kernel
theorem dX2_mix_296 : decode cX2_mix 296 = .ok (.iaload, 1) := by decide +kernel
theorem dX2_mix_297 : decode cX2_mix 297 = .ok (.invokevirtual 79, 3) := by decide +kernel
theorem dX2_mix_300 : decode cX2_mix 300 = .ok (.aload_n 0, 1) := by decide +kernel
theorem dX2_mix_301 : decode cX2_mix 301 = .ok (.iconst 3, 1) := by decide +kernel
theorem dX2_mix_302 : decode cX2_mix 302 = .ok (.bipush 7, 2) := by decide +kernel
theorem dX2_mix_304 : decode cX2_mix 304 = .ok (.bipush 11, 2) := by decide +kernel
theorem dX2_mix_306 : decode cX2_mix 306 = .ok (.bipush 15, 2) := by decide +kernel
theorem dX2_mix_308 : decode cX2_mix 308 = .ok (.aload_n 0, 1) := by decide +kernel
theorem dX2_mix_309 : decode cX2_mix 309 = .ok (.getfield 19, 3) := by decide +kernel
theorem dX2_mix_312 : decode cX2_mix 312 = .ok (.aload_n 0, 1) := by decide +kernel
theorem dX2_mix_313 : decode cX2_mix 313 = .ok (.getfield 25, 3) := by decide +kernel
theorem dX2_mix_316 : decode cX2_mix 316 = .ok (.iload 4, 2) := by decide +kernel
theorem dX2_mix_318 : decode cX2_mix 318 = .ok (.bipush 6, 2) := by decide +kernel
theorem dX2_mix_320 : decode cX2_mix 320 = .ok (.iadd, 1) := by decide +kernel
theorem dX2_mix_321 : decode cX2_mix 321 = .ok (.iaload, 1) := by decide +kernel
theorem dX2_mix_322 : decode cX2_mix 322 = .ok (.iaload, 1) := by decide +kernel
theorem dX2_mix_323 : decode cX2_mix 323 = .ok (.aload_n 0, 1) := by decide +kernel
theorem dX2_mix_324 : decode cX2_mix 324 = .ok (.getfield 19, 3) := by decide +kernel
theorem dX2_mix_327 : decode cX2_mix 327 = .ok (.aload_n 0, 1) := by decide +kernel
theorem dX2_mix_328 : decode cX2_mix 328 = .ok (.getfield 25, 3) := by decide +kernel
theorem dX2_mix_331 : decode cX2_mix 331 = .ok (.iload 4, 2) := by decide +kernel
theorem dX2_mix_333 : decode cX2_mix 333 = .ok (.bipush 7, 2) := by decide +kernel
theorem dX2_mix_335 : decode cX2_mix 335 = .ok (.iadd, 1) := by decide +kernel
theorem dX2_mix_336 : decode cX2_mix 336 = .ok (.iaload, 1) := by decide +kernel
theorem dX2_mix_337 : decode cX2_mix 337 = .ok (.iaload, 1) := by decide +kernel
theorem dX2_mix_338 : decode cX2_mix 338 = .ok (.invokevirtual 79, 3) := by decide +kernel
theorem dX2_mix_341 : decode cX2_mix 341 = .ok (.aload_n 0, 1) := by decide +kernel
theorem dX2_mix_342 : decode cX2_mix 342 = .ok (.iconst 0, 1) := by decide +kernel
theorem dX2_mix_343 : decode cX2_mix 343 = .ok (.iconst 5, 1) := by decide +kernel
theorem dX2_mix_344 : decode cX2_mix 344 = .ok (.bipush 10, 2) := by decide +kernel
theorem dX2_mix_346 : decode cX2_mix 346 = .ok (.bipush 15, 2) := by decide +kernel
theorem dX2_mix_348 : decode cX2_mix 348 = .ok (.aload_n 0, 1) := by decide +kernel
theorem dX2_mix_349 : decode cX2_mix 349 = .ok (.getfield 19, 3) := by decide +kernel
theorem dX2_mix_352 : decode cX2_mix 352 = .ok (.aload_n 0, 1) := by decide +kernel
theorem dX2_mix_353 : decode cX2_mix 353 = .ok (.getfield 25, 3) := by decide +kernel
theorem dX2_mix_356 : decode cX2_mix 356 = .ok (.iload 4, 2) := by decide +kernel
theorem dX2_mix_358 : decode cX2_mix 358 = .ok (.bipush 8, 2) := by decide +kernel
theorem dX2_mix_360 : decode cX2_mix 360 = .ok (.iadd, 1) := by decide +kernel
theorem dX2_mix_361 : decode cX2_mix 361 = .ok (.iaload, 1) := by decide +kernel
theorem dX2_mix_362 : decode cX2_mix 362 = .ok (.iaload, 1) := by decide +kernel
theorem dX2_mix_363 : decode cX2_mix 363 = .ok (.aload_n 0, 1) := by decide +kernel
theorem dX2_mix_364 : decode cX2_mix 364 = .ok (.getfield 19, 3) := by decide +kernel
theorem dX2_mix_367 : decode cX2_mix 367 = .ok (.aload_n 0, 1) := by decide +kernel
theorem dX2_mix_368 : decode cX2_mix 368 = .ok (.getfield 25, 3) := by decide +kernel
theorem dX2_mix_371 : decode cX2_mix 371 = .ok (.iload 4, 2) := by decide +kernel
theorem dX2_mix_373 : decode cX2_mix 373 = .ok (.bipush 9, 2) := by decide +kernel
theorem dX2_mix_375 : decode cX2_mix 375 = .ok (.iadd, 1) := by decide +kernel
theorem dX2_mix_376 : decode cX2_mix 376 = .ok (.iaload, 1) := by decide +kernel
theorem dX2_mix_377 : decode cX2_mix 377 = .ok (.iaload, 1) := by decide +kernel
theorem dX2_mix_378 : decode cX2_mix 378 = .ok (.invokevirtual 79, 3) := by decide +kernel
theorem dX2_mix_381 : decode cX2_mix 381 = .ok (.aload_n 0, 1) := by decide +kernel
theorem dX2_mix_382 : decode cX2_mix 382 = .ok (.iconst 1, 1) := by decide +kernel
theorem dX2_mix_383 : decode cX2_mix 383 = .ok (.bipush 6, 2) := by decide +kernel
theorem dX2_mix_385 : decode cX2_mix 385 = .ok (.bipush 11, 2) := by decide +kernel
theorem dX2_mix_387 : decode cX2_mix 387 = .ok (.bipush 12, 2) := by decide +kernel
theorem dX2_mix_389 : decode cX2_mix 389 = .ok (.aload_n 0, 1) := by decide +kernel
theorem dX2_mix_390 : decode cX2_mix 390 = .ok (.getfield 19, 3) := by decide +kernel
theorem dX2_mix_393 : decode cX2_mix 393 = .ok (.aload_n 0, 1) := by decide +kernel
theorem dX2_mix_394 : decode cX2_mix 394 = .ok (.getfield 25, 3) := by decide +kernel
theorem dX2_mix_397 : decode cX2_mix 397 = .ok (.iload 4, 2) := by decide +kernel
theorem dX2_mix_399 : decode cX2_mix 399 = .ok (.bipush 10, 2) := by decide +kernel
theorem dX2_mix_401 : decode cX2_mix 401 = .ok (.iadd, 1) := by decide +kernel
theorem dX2_mix_402 : decode cX2_mix 402 = .ok (.iaload, 1) := by decide +kernel
theorem dX2_mix_403 : decode cX2_mix 403 = .ok (.iaload, 1) := by decide +kernel
theorem dX2_mix_404 : decode cX2_mix 404 = .ok (.aload_n 0, 1) := by decide +kernel
theorem dX2_mix_405 : decode cX2_mix 405 = .ok (.getfield 19, 3) := by decide +kernel
theorem dX2_mix_408 : decode cX2_mix 408 = .ok (.aload_n 0, 1) := by decide +kernel
theorem dX2_mix_409 : decode cX2_mix 409 = .ok (.getfield 25, 3) := by decide +kernel
theorem dX2_mix_412 : decode cX2_mix 412 = .ok (.iload 4, 2) := by decide +kernel
theorem dX2_mix_414 : decode cX2_mix 414 = .ok (.bipush 11, 2) := by decide +kernel
theorem dX2_mix_416 : decode cX2_mix 416 = .ok (.iadd, 1) := by decide +kernel
theorem dX2_mix_417 : decode cX2_mix 417 = .ok (.iaload, 1) := by decide +kernel
theorem dX2_mix_418 : decode cX2_mix 418 = .ok (.iaload, 1) := by decide +kernel
theorem dX2_mix_419 : decode cX2_mix 419 = .ok (.invokevirtual 79, 3) := by decide +kernel
theorem dX2_mix_422 : decode cX2_mix 422 = .ok (.aload_n 0, 1) := by decide +kernel
theorem dX2_mix_423 : decode cX2_mix 423 = .ok (.iconst 2, 1) := by decide +kernel
theorem dX2_mix_424 : decode cX2_mix 424 = .ok (.bipush 7, 2) := by decide +kernel
theorem dX2_mix_426 : decode cX2_mix 426 = .ok (.bipush 8, 2) := by decide +kernel
theorem dX2_mix_428 : decode cX2_mix 428 = .ok (.bipush 13, 2) := by decide +kernel
theorem dX2_mix_430 : decode cX2_mix 430 = .ok (.aload_n 0, 1) := by decide +kernel
theorem dX2_mix_431 : decode cX2_mix 431 = .ok (.getfield 19, 3) := by decide +kernel
theorem dX2_mix_434 : decode cX2_mix 434 = .ok (.aload_n 0, 1) := by decide +kernel
theorem dX2_mix_435 : decode cX2_mix 435 = .ok (.getfield 25, 3) := by decide +kernel
theorem dX2_mix_438 : decode cX2_mix 438 = .ok (.iload 4, 2) := by decide +kernel
theorem dX2_mix_440 : decode cX2_mix 440 = .ok (.bipush 12, 2) := by decide +kernel
theorem dX2_mix_442 : decode cX2_mix 442 = .ok (.iadd, 1) := by decide +kernel
theorem dX2_mix_443 : decode cX2_mix 443 = .ok (.iaload, 1) := by decide +kernel
theorem dX2_mix_444 : decode cX2_mix 444 = .ok (.iaload, 1) := by decide +kernel
theorem dX2_mix_445 : decode cX2_mix 445 = .ok (.aload_n 0, 1) := by decide +kernel
theorem dX2_mix_446 : decode cX2_mix 446 = .ok (.getfield 19, 3) := by decide +kernel
theorem dX2_mix_449 : decode cX2_mix 449 = .ok (.aload_n 0, 1) := by decide +kernel
theorem dX2_mix_450 : decode cX2_mix 450 = .ok (.getfield 25, 3) := by decide +kernel
theorem dX2_mix_453 : decode cX2_mix 453 = .ok (.iload 4, 2) := by decide +kernel
theorem dX2_mix_455 : decode cX2_mix 455 = .ok (.bipush 13, 2) := by decide +kernel
theorem dX2_mix_457 : decode cX2_mix 457 = .ok (.iadd, 1) := by decide +kernel
theorem dX2_mix_458 : decode cX2_mix 458 = .ok (.iaload, 1) := by decide +kernel
theorem dX2_mix_459 : decode cX2_mix 459 = .ok (.iaload, 1) := by decide +kernel
theorem dX2_mix_460 : decode cX2_mix 460 = .ok (.invokevirtual 79, 3) := by decide +kernel
theorem dX2_mix_463 : decode cX2_mix 463 = .ok (.aload_n 0, 1) := by decide +kernel
theorem dX2_mix_464 : decode cX2_mix 464 = .ok (.iconst 3, 1) := by decide +kernel
theorem dX2_mix_465 : decode cX2_mix 465 = .ok (.iconst 4, 1) := by decide +kernel
theorem dX2_mix_466 : decode cX2_mix 466 = .ok (.bipush 9, 2) := by decide +kernel
theorem dX2_mix_468 : decode cX2_mix 468 = .ok (.bipush 14, 2) := by decide +kernel
theorem dX2_mix_470 : decode cX2_mix 470 = .ok (.aload_n 0, 1) := by decide +kernel
theorem dX2_mix_471 : decode cX2_mix 471 = .ok (.getfield 19, 3) := by decide +kernel
theorem dX2_mix_474 : decode cX2_mix 474 = .ok (.aload_n 0, 1) := by decide +kernel
theorem dX2_mix_475 : decode cX2_mix 475 = .ok (.getfield 25, 3) := by decide +kernel
theorem dX2_mix_478 : decode cX2_mix 478 = .ok (.iload 4, 2) := by decide +kernel
theorem dX2_mix_480 : decode cX2_mix 480 = .ok (.bipush 14, 2) := by decide +kernel
theorem dX2_mix_482 : decode cX2_mix 482 = .ok (.iadd, 1) := by decide +kernel
theorem dX2_mix_483 : decode cX2_mix 483 = .ok (.iaload, 1) := by decide +kernel
theorem dX2_mix_484 : decode cX2_mix 484 = .ok (.iaload, 1) := by decide +kernel
theorem dX2_mix_485 : decode cX2_mix 485 = .ok (.aload_n 0, 1) := by decide +kernel
theorem dX2_mix_486 : decode cX2_mix 486 = .ok (.getfield 19, 3) := by decide +kernel
theorem dX2_mix_489 : decode cX2_mix 489 = .ok (.aload_n 0, 1) := by decide +kernel
theorem dX2_mix_490 : decode cX2_mix 490 = .ok (.getfield 25, 3) := by decide +kernel
theorem dX2_mix_493 : decode cX2_mix 493 = .ok (.iload 4, 2) := by decide +kernel
theorem dX2_mix_495 : decode cX2_mix 495 = .ok (.bipush 15, 2) := by decide +kernel
theorem dX2_mix_497 : decode cX2_mix 497 = .ok (.iadd, 1) := by decide +kernel
theorem dX2_mix_498 : decode cX2_mix 498 = .ok (.iaload, 1) := by decide +kernel
theorem dX2_mix_499 : decode cX2_mix 499 = .ok (.iaload, 1) := by decide +kernel
theorem dX2_mix_500 : decode cX2_mix 500 = .ok (.invokevirtual 79, 3) := by decide +kernel
theorem dX2_mix_503 : decode cX2_mix 503 = .ok (.iload 4, 2) := by decide +kernel
theorem dX2_mix_505 : decode cX2_mix 505 = .ok (.bipush 16, 2) := by decide +kernel
theorem dX2_mix_507 : decode cX2_mix 507 = .ok (.iadd, 1) := by decide +kernel
theorem dX2_mix_508 : decode cX2_mix 508 = .ok (.istore 4, 2) := by decide +kernel
theorem dX2_mix_510 : decode cX2_mix 510 = .ok (.goto (-331), 3) := by decide +kernel
theorem dX2_mix_513 : decode cX2_mix 513 = .ok (.iconst 0, 1) := by decide +kernel
theorem dX2_mix_514 : decode cX2_mix 514 = .ok (.istore 4, 2) := by decide +kernel
theorem dX2_mix_516 : decode cX2_mix 516 = .ok (.iload 4, 2) := by decide +kernel
theorem dX2_mix_518 : decode cX2_mix 518 = .ok (.bipush 8, 2) := by decide +kernel
theorem dX2_mix_520 : decode cX2_mix 520 = .ok (.if_icmp .ge 42, 3) := by decide +kernel
theorem dX2_mix_523 : decode cX2_mix 523 = .ok (.aload_n 0, 1) := by decide +kernel
theorem dX2_mix_524 : decode cX2_mix 524 = .ok (.getfield 13, 3) := by decide +kernel
theorem dX2_mix_527 : decode cX2_mix 527 = .ok (.iload 4, 2) := by decide +kernel
theorem dX2_mix_529 : decode cX2_mix 529 = .ok (.aload_n 0, 1) := by decide +kernel
theorem dX2_mix_530 : decode cX2_mix 530 = .ok (.getfield 13, 3) := by decide +kernel
theorem dX2_mix_533 : decode cX2_mix 533 = .ok (.iload 4, 2) := by decide +kernel
theorem dX2_mix_535 : decode cX2_mix 535 = .ok (.iaload, 1) := by decide +kernel
theorem dX2_mix_536 : decode cX2_mix 536 = .ok (.aload_n 0, 1) := by decide +kernel
theorem dX2_mix_537 : decode cX2_mix 537 = .ok (.getfield 16, 3) := by decide +kernel
theorem dX2_mix_540 : decode cX2_mix 540 = .ok (.iload 4, 2) := by decide +kernel
theorem dX2_mix_542 : decode cX2_mix 542 = .ok (.iaload, 1) := by decide +kernel
theorem dX2_mix_543 : decode cX2_mix 543 = .ok (.ixor, 1) := by decide +kernel
theorem dX2_mix_544 : decode cX2_mix 544 = .ok (.aload_n 0, 1) := by decide +kernel
theorem dX2_mix_545 : decode cX2_mix 545 = .ok (.getfield 16, 3) := by decide +kernel
theorem dX2_mix_548 : decode cX2_mix 548 = .ok (.iload 4, 2) := by decide +kernel
theorem dX2_mix_550 : decode cX2_mix 550 = .ok (.bipush 8, 2) := by decide +kernel
theorem dX2_mix_552 : decode cX2_mix 552 = .ok (.iadd, 1) := by decide +kernel
theorem dX2_mix_553 : decode cX2_mix 553 = .ok (.iaload, 1) := by decide +kernel
theorem dX2_mix_554 : decode cX2_mix 554 = .ok (.ixor, 1) := by decide +kernel
theorem dX2_mix_555 : decode cX2_mix 555 = .ok (.iastore, 1) := by decide +kernel
theorem dX2_mix_556 : decode cX2_mix 556 = .ok (.iinc 4 1, 3) := by decide +kernel
theorem dX2_mix_559 : decode cX2_mix 559 = .ok (.goto (-43), 3) := by decide +kernel
theorem dX2_mix_562 : decode cX2_mix 562 = .ok (.return_, 1) := by decide +kernel
set_option maxRecDepth 20000 in
theorem ggX2_update_X2_take : GoodIn wsX2_update wsX2_take := goodIn_r _ [7, 8, 9, 10, 11, 12, 13, 14, 6, 15, 16, 17, 18, 19, 20, 21, 22, 23, 24, 25, 26, 27, 28, 29, 30, 31, 32, 33, 34, 35, 36, 37, 38, 39, 40, 41, 42, 43, 44, 45, 46, 47, 48, 49, 50] rfl (by decide +kernel)
set_option maxRecDepth 20000 in
theorem gX2_update_X2_take : GoodIn wsX2_update (wsV RX2 65 RX2 yX2_take wsX2_take) := goodIn_app (goodIn_of _ (by decide +kernel)) ggX2_update_X2_take
theorem dX2_update_0 : decode cX2_update 0 = .ok (.aload_n 0, 1) := by decide +kernel
theorem dX2_update_1 : decode cX2_update 1 = .ok (.getfield 32, 3) := by decide +kernel
theorem dX2_update_4 : decode cX2_update 4 = .ok (.ifCond .eq 18, 3) := by decide +kernel
theorem dX2_update_7 : decode cX2_update 7 = .ok (.iload_n 1, 1) := by decide +kernel
theorem dX2_update_8 : decode cX2_update 8 = .ok (.ifCond .lt 14, 3) := by decide +kernel
theorem dX2_update_11 : decode cX2_update 11 = .ok (.iload_n 1, 1) := by decide +kernel
theorem dX2_update_12 : decode cX2_update 12 = .ok (.sipush 256, 3) := by decide +kernel
theorem dX2_update_15 : decode cX2_update 15 = .ok (.if_icmp .ge 7, 3) := by decide +kernel
theorem dX2_update_18 : decode cX2_update 18 = .ok (.iconst 1, 1) := by decide +kernel
theorem dX2_update_19 : decode cX2_update 19 = .ok (.goto 4, 3) := by decide +kernel
theorem dX2_update_22 : decode cX2_update 22 = .ok (.iconst 0, 1) := by decide +kernel
theorem dX2_update_23 : decode cX2_update 23 = .ok (.istore_n 2, 1) := by decide +kernel
theorem dX2_update_24 : decode cX2_update 24 = .ok (.iload_n 2, 1) := by decide +kernel
theorem dX2_update_25 : decode cX2_update 25 = .ok (.ifCond .eq 18, 3) := by decide +kernel
theorem dX2_update_28 : decode cX2_update 28 = .ok (.aload_n 0, 1) := by decide +kernel
theorem dX2_update_29 : decode cX2_update 29 = .ok (.iload_n 1, 1) := by decide +kernel
theorem dX2_update_30 : decode cX2_update 30 = .ok (.invokevirtual 65, 3) := by decide +kernel
theorem dX2_update_33 : decode cX2_update 33 = .ok (.aload_n 0, 1) := by decide +kernel
theorem dX2_update_34 : decode cX2_update 34 = .ok (.dup, 1) := by decide +kernel
theorem dX2_update_35 : decode cX2_update 35 = .ok (.getfield 62, 3) := by decide +kernel
theorem dX2_update_38 : decode cX2_update 38 = .ok (.iconst 1, 1) := by decide +kernel
theorem dX2_update_39 : decode cX2_update 39 = .ok (.iadd, 1) := by decide +kernel
theorem dX2_update_40 : decode cX2_update 40 = .ok (.putfield 62, 3) := by decide +kernel
theorem dX2_update_43 : decode cX2_update 43 = .ok (.iload_n 2, 1) := by decide +kernel
theorem dX2_update_44 : decode cX2_update 44 = .ok (.ireturn, 1) := by decide +kernel
set_option maxRecDepth 20000 in
theorem ggX2_updates_X2_take : GoodIn wsX2_updates wsX2_take := goodIn_r _ [7, 8, 9, 10, 11, 12, 13, 14, 6, 15, 16, 17, 18, 19, 20, 21, 22, 23, 24, 25, 26, 27, 28, 29, 30, 31, 32, 33, 34, 35, 36, 37, 38, 39, 40, 41, 42, 43, 44, 45, 46, 47, 48, 49, 50] rfl (by decide +kernel)
set_option maxRecDepth 20000 in
theorem gX2_updates_X2_take : GoodIn wsX2_updates (wsV RX2 65 RX2 yX2_take wsX2_take) := goodIn_app (goodIn_of _ (by decide +kernel)) ggX2_updates_X2_take
theorem dX2_updates_0 : decode cX2_updates 0 = .ok (.aload_n 0, 1) := by decide +kernel
theorem dX2_updates_1 : decode cX2_updates 1 = .ok (.getfield 32, 3) := by decide +kernel
theorem dX2_updates_4 : decode cX2_updates 4 = .ok (.ifCond .eq 20, 3) := by decide +kernel
theorem dX2_updates_7 : decode cX2_updates 7 = .ok (.iload 5, 2) := by decide +kernel
theorem dX2_updates_9 : decode cX2_updates 9 = .ok (.iconst 1, 1) := by decide +kernel
theorem dX2_updates_10 : decode cX2_updates 10 = .ok (.if_icmp .lt 14, 3) := by decide +kernel
theorem dX2_updates_13 : decode cX2_updates 13 = .ok (.iload 5, 2) := by decide +kernel
theorem dX2_updates_15 : decode cX2_updates 15 = .ok (.bipush 16, 2) := by decide +kernel
theorem dX2_updates_17 : decode cX2_updates 17 = .ok (.if_icmp .gt 7, 3) := by decide +kernel
theorem dX2_updates_20 : decode cX2_updates 20 = .ok (.iconst 1, 1) := by decide +kernel
theorem dX2_updates_21 : decode cX2_updates 21 = .ok (.goto 4, 3) := by decide +kernel
theorem dX2_updates_24 : decode cX2_updates 24 = .ok (.iconst 0, 1) := by decide +kernel
theorem dX2_updates_25 : decode cX2_updates 25 = .ok (.istore 6, 2) := by decide +kernel
theorem dX2_updates_27 : decode cX2_updates 27 = .ok (.iconst 0, 1) := by decide +kernel
theorem dX2_updates_28 : decode cX2_updates 28 = .ok (.istore 7, 2) := by decide +kernel
theorem dX2_updates_30 : decode cX2_updates 30 = .ok (.iload 7, 2) := by decide +kernel
theorem dX2_updates_32 : decode cX2_updates 32 = .ok (.iload 5, 2) := by decide +kernel
theorem dX2_updates_34 : decode cX2_updates 34 = .ok (.if_icmp .ge 81, 3) := by decide +kernel
theorem dX2_updates_37 : decode cX2_updates 37 = .ok (.iload 6, 2) := by decide +kernel
theorem dX2_updates_39 : decode cX2_updates 39 = .ok (.ifCond .eq 76, 3) := by decide +kernel
theorem dX2_updates_42 : decode cX2_updates 42 = .ok (.iload 7, 2) := by decide +kernel
theorem dX2_updates_44 : decode cX2_updates 44 = .ok (.iconst 4, 1) := by decide +kernel
theorem dX2_updates_45 : decode cX2_updates 45 = .ok (.if_icmp .ge 7, 3) := by decide +kernel
theorem dX2_updates_48 : decode cX2_updates 48 = .ok (.iload_n 1, 1) := by decide +kernel
theorem dX2_updates_49 : decode cX2_updates 49 = .ok (.goto 27, 3) := by decide +kernel
theorem dX2_updates_52 : decode cX2_updates 52 = .ok (.iload 7, 2) := by decide +kernel
theorem dX2_updates_54 : decode cX2_updates 54 = .ok (.bipush 8, 2) := by decide +kernel
theorem dX2_updates_56 : decode cX2_updates 56 = .ok (.if_icmp .ge 7, 3) := by decide +kernel
theorem dX2_updates_59 : decode cX2_updates 59 = .ok (.iload_n 2, 1) := by decide +kernel
theorem dX2_updates_60 : decode cX2_updates 60 = .ok (.goto 16, 3) := by decide +kernel
theorem dX2_updates_63 : decode cX2_updates 63 = .ok (.iload 7, 2) := by decide +kernel
theorem dX2_updates_65 : decode cX2_updates 65 = .ok (.bipush 12, 2) := by decide +kernel
theorem dX2_updates_67 : decode cX2_updates 67 = .ok (.if_icmp .ge 7, 3) := by decide +kernel
theorem dX2_updates_70 : decode cX2_updates 70 = .ok (.iload_n 3, 1) := by decide +kernel
theorem dX2_updates_71 : decode cX2_updates 71 = .ok (.goto 5, 3) := by decide +kernel
theorem dX2_updates_74 : decode cX2_updates 74 = .ok (.iload 4, 2) := by decide +kernel
theorem dX2_updates_76 : decode cX2_updates 76 = .ok (.istore 8, 2) := by decide +kernel
theorem dX2_updates_78 : decode cX2_updates 78 = .ok (.aload_n 0, 1) := by decide +kernel
theorem dX2_updates_79 : decode cX2_updates 79 = .ok (.iload 8, 2) := by decide +kernel
theorem dX2_updates_81 : decode cX2_updates 81 = .ok (.bipush 24, 2) := by decide +kernel
theorem dX2_updates_83 : decode cX2_updates 83 = .ok (.bipush 8, 2) := by decide +kernel
theorem dX2_updates_85 : decode cX2_updates 85 = .ok (.iload 7, 2) := by decide +kernel
theorem dX2_updates_87 : decode cX2_updates 87 = .ok (.iconst 4, 1) := by decide +kernel
theorem dX2_updates_88 : decode cX2_updates 88 = .ok (.irem, 1) := by decide +kernel
theorem dX2_updates_89 : decode cX2_updates 89 = .ok (.imul, 1) := by decide +kernel
theorem dX2_updates_90 : decode cX2_updates 90 = .ok (.isub, 1) := by decide +kernel
theorem dX2_updates_91 : decode cX2_updates 91 = .ok (.ishr, 1) := by decide +kernel
theorem dX2_updates_92 : decode cX2_updates 92 = .ok (.sipush 255, 3) := by decide +kernel
theorem dX2_updates_95 : decode cX2_updates 95 = .ok (.iand, 1) := by decide +kernel
theorem dX2_updates_96 : decode cX2_updates 96 = .ok (.invokevirtual 65, 3) := by decide +kernel
theorem dX2_updates_99 : decode cX2_updates 99 = .ok (.aload_n 0, 1) := by decide +kernel
theorem dX2_updates_100 : decode cX2_updates 100 = .ok (.dup, 1) := by decide +kernel
theorem dX2_updates_101 : decode cX2_updates 101 = .ok (.getfield 62, 3) := by decide +kernel
theorem dX2_updates_104 : decode cX2_updates 104 = .ok (.iconst 1, 1) := by decide +kernel
theorem dX2_updates_105 : decode cX2_updates 105 = .ok (.iadd, 1) := by decide +kernel
theorem dX2_updates_106 : decode cX2_updates 106 = .ok (.putfield 62, 3) := by decide +kernel
theorem dX2_updates_109 : decode cX2_updates 109 = .ok (.iinc 7 1, 3) := by decide +kernel
theorem dX2_updates_112 : decode cX2_updates 112 = .ok (.goto (-82), 3) := by decide +kernel
theorem dX2_updates_115 : decode cX2_updates 115 = .ok (.iload 6, 2) := by decide +kernel
theorem dX2_updates_117 : decode cX2_updates 117 = .ok (.ireturn, 1) := by decide +kernel
set_option maxRecDepth 20000 in
theorem ggX2_fill_X2_take : GoodIn wsX2_fill wsX2_take := goodIn_r _ [7, 8, 9, 10, 11, 12, 13, 14, 6, 15, 16, 17, 18, 19, 20, 21, 22, 23, 24, 25, 26, 27, 28, 29, 30, 31, 32, 33, 34, 35, 36, 37, 38, 39, 40, 41, 42, 43, 44, 45, 46, 47, 48, 49, 50] rfl (by decide +kernel)
set_option maxRecDepth 20000 in
theorem gX2_fill_X2_take : GoodIn wsX2_fill (wsV RX2 65 RX2 yX2_take wsX2_take) := goodIn_app (goodIn_of _ (by decide +kernel)) ggX2_fill_X2_take
theorem dX2_fill_0 : decode cX2_fill 0 = .ok (.aload_n 0, 1) := by decide +kernel
theorem dX2_fill_1 : decode cX2_fill 1 = .ok (.getfield 32, 3) := by decide +kernel
theorem dX2_fill_4 : decode cX2_fill 4 = .ok (.ifCond .eq 29, 3) := by decide +kernel
theorem dX2_fill_7 : decode cX2_fill 7 = .ok (.iload_n 1, 1) := by decide +kernel
theorem dX2_fill_8 : decode cX2_fill 8 = .ok (.ifCond .lt 25, 3) := by decide +kernel
theorem dX2_fill_11 : decode cX2_fill 11 = .ok (.iload_n 1, 1) := by decide +kernel
theorem dX2_fill_12 : decode cX2_fill 12 = .ok (.sipush 256, 3) := by decide +kernel
theorem dX2_fill_15 : decode cX2_fill 15 = .ok (.if_icmp .ge 18, 3) := by decide +kernel
theorem dX2_fill_18 : decode cX2_fill 18 = .ok (.iload_n 2, 1) := by decide +kernel
theorem dX2_fill_19 : decode cX2_fill 19 = .ok (.ifCond .lt 14, 3) := by decide +kernel
theorem dX2_fill_22 : decode cX2_fill 22 = .ok (.iload_n 2, 1) := by decide +kernel
theorem dX2_fill_23 : decode cX2_fill 23 = .ok (.sipush 10000, 3) := by decide +kernel
theorem dX2_fill_26 : decode cX2_fill 26 = .ok (.if_icmp .gt 7, 3) := by decide +kernel
theorem dX2_fill_29 : decode cX2_fill 29 = .ok (.iconst 1, 1) := by decide +kernel
theorem dX2_fill_30 : decode cX2_fill 30 = .ok (.goto 4, 3) := by decide +kernel
theorem dX2_fill_33 : decode cX2_fill 33 = .ok (.iconst 0, 1) := by decide +kernel
theorem dX2_fill_34 : decode cX2_fill 34 = .ok (.istore_n 3, 1) := by decide +kernel
theorem dX2_fill_35 : decode cX2_fill 35 = .ok (.iconst 0, 1) := by decide +kernel
theorem dX2_fill_36 : decode cX2_fill 36 = .ok (.istore 4, 2) := by decide +kernel
theorem dX2_fill_38 : decode cX2_fill 38 = .ok (.iload 4, 2) := by decide +kernel
theorem dX2_fill_40 : decode cX2_fill 40 = .ok (.iload_n 2, 1) := by decide +kernel
theorem dX2_fill_41 : decode cX2_fill 41 = .ok (.if_icmp .ge 28, 3) := by decide +kernel
theorem dX2_fill_44 : decode cX2_fill 44 = .ok (.iload_n 3, 1) := by decide +kernel
theorem dX2_fill_45 : decode cX2_fill 45 = .ok (.ifCond .eq 24, 3) := by decide +kernel
theorem dX2_fill_48 : decode cX2_fill 48 = .ok (.aload_n 0, 1) := by decide +kernel
theorem dX2_fill_49 : decode cX2_fill 49 = .ok (.iload_n 1, 1) := by decide +kernel
theorem dX2_fill_50 : decode cX2_fill 50 = .ok (.invokevirtual 65, 3) := by decide +kernel
theorem dX2_fill_53 : decode cX2_fill 53 = .ok (.aload_n 0, 1) := by decide +kernel
theorem dX2_fill_54 : decode cX2_fill 54 = .ok (.dup, 1) := by decide +kernel
theorem dX2_fill_55 : decode cX2_fill 55 = .ok (.getfield 62, 3) := by decide +kernel
theorem dX2_fill_58 : decode cX2_fill 58 = .ok (.iconst 1, 1) := by decide +kernel
theorem dX2_fill_59 : decode cX2_fill 59 = .ok (.iadd, 1) := by decide +kernel
theorem dX2_fill_60 : decode cX2_fill 60 = .ok (.putfield 62, 3) := by decide +kernel
theorem dX2_fill_63 : decode cX2_fill 63 = .ok (.iinc 4 1, 3) := by decide +kernel
theorem dX2_fill_66 : decode cX2_fill 66 = .ok (.goto (-28), 3) := by decide +kernel
theorem dX2_fill_69 : decode cX2_fill 69 = .ok (.iload_n 3, 1) := by decide +kernel
theorem dX2_fill_70 : decode cX2_fill 70 = .ok (.ireturn, 1) := by decide +kernel
set_option maxRecDepth 20000 in
theorem ggX2_finish_X2_mix : GoodIn wsX2_finish wsX2_mix := goodIn_r _ [10, 11, 4, 12, 13, 14, 15, 16, 9, 17, 18, 19, 20, 21, 22, 23, 24, 25, 26, 27, 28, 29, 30, 31, 32, 33, 34, 35, 36, 37, 38, 39, 40, 41, 42, 43, 44, 45] rfl (by decide +kernel)
set_option maxRecDepth 20000 in
theorem gX2_finish_X2_mix : GoodIn wsX2_finish (wsV RX2 71 RX2 yX2_mix wsX2_mix) := goodIn_app (goodIn_of _ (by decide +kernel)) ggX2_finish_X2_mix
theorem dX2_finish_0 : decode cX2_finish 0 = .ok (.aload_n 0, 1) := by decide +kernel
theorem dX2_finish_1 : decode cX2_finish 1 = .ok (.getfield 32, 3) := by decide +kernel
theorem dX2_finish_4 : decode cX2_finish 4 = .ok (.ifCond .ne 5, 3) := by decide +kernel
theorem dX2_finish_7 : decode cX2_finish 7 = .ok (.iconst 0, 1) := by decide +kernel
theorem dX2_finish_8 : decode cX2_finish 8 = .ok (.ireturn, 1) := by decide +kernel
theorem dX2_finish_9 : decode cX2_finish 9 = .ok (.aload_n 0, 1) := by decide +kernel
theorem dX2_finish_10 : decode cX2_finish 10 = .ok (.aload_n 0, 1) := by decide +kernel
theorem dX2_finish_11 : decode cX2_finish 11 = .ok (.getfield 58, 3) := by decide +kernel
theorem dX2_finish_14 : decode cX2_finish 14 = .ok (.aload_n 0, 1) := by decide +kernel
theorem dX2_finish_15 : decode cX2_finish 15 = .ok (.getfield 55, 3) := by decide +kernel
theorem dX2_finish_18 : decode cX2_finish 18 = .ok (.i2l, 1) := by decide +kernel
theorem dX2_finish_19 : decode cX2_finish 19 = .ok (.ladd, 1) := by decide +kernel
theorem dX2_finish_20 : decode cX2_finish 20 = .ok (.putfield 58, 3) := by decide +kernel
theorem dX2_finish_23 : decode cX2_finish 23 = .ok (.aload_n 0, 1) := by decide +kernel
theorem dX2_finish_24 : decode cX2_finish 24 = .ok (.getfield 55, 3) := by decide +kernel
theorem dX2_finish_27 : decode cX2_finish 27 = .ok (.istore_n 1, 1) := by decide +kernel
theorem dX2_finish_28 : decode cX2_finish 28 = .ok (.iload_n 1, 1) := by decide +kernel
theorem dX2_finish_29 : decode cX2_finish 29 = .ok (.bipush 64, 2) := by decide +kernel
theorem dX2_finish_31 : decode cX2_finish 31 = .ok (.if_icmp .ge 16, 3) := by decide +kernel
theorem dX2_finish_34 : decode cX2_finish 34 = .ok (.aload_n 0, 1) := by decide +kernel
theorem dX2_finish_35 : decode cX2_finish 35 = .ok (.getfield 22, 3) := by decide +kernel
theorem dX2_finish_38 : decode cX2_finish 38 = .ok (.iload_n 1, 1) := by decide +kernel
theorem dX2_finish_39 : decode cX2_finish 39 = .ok (.iconst 0, 1) := by decide +kernel
theorem dX2_finish_40 : decode cX2_finish 40 = .ok (.iastore, 1) := by decide +kernel
theorem dX2_finish_41 : decode cX2_finish 41 = .ok (.iinc 1 1, 3) := by decide +kernel
theorem dX2_finish_44 : decode cX2_finish 44 = .ok (.goto (-16), 3) := by decide +kernel
theorem dX2_finish_47 : decode cX2_finish 47 = .ok (.aload_n 0, 1) := by decide +kernel
theorem dX2_finish_48 : decode cX2_finish 48 = .ok (.aload_n 0, 1) := by decide +kernel
theorem dX2_finish_49 : decode cX2_finish 49 = .ok (.getfield 58, 3) := by decide +kernel
theorem dX2_finish_52 : decode cX2_finish 52 = .ok (.iconst 1, 1) := by decide +kernel
theorem dX2_finish_53 : decode cX2_finish 53 = .ok (.invokevirtual 71, 3) := by decide +kernel
theorem dX2_finish_56 : decode cX2_finish 56 = .ok (.aload_n 0, 1) := by decide +kernel
theorem dX2_finish_57 : decode cX2_finish 57 = .ok (.iconst 0, 1) := by decide +kernel
theorem dX2_finish_58 : decode cX2_finish 58 = .ok (.putfield 32, 3) := by decide +kernel
theorem dX2_finish_61 : decode cX2_finish 61 = .ok (.aload_n 0, 1) := by decide +kernel
theorem dX2_finish_62 : decode cX2_finish 62 = .ok (.iconst 1, 1) := by decide +kernel
theorem dX2_finish_63 : decode cX2_finish 63 = .ok (.putfield 35, 3) := by decide +kernel
theorem dX2_finish_66 : decode cX2_finish 66 = .ok (.iconst 1, 1) := by decide +kernel
theorem dX2_finish_67 : decode cX2_finish 67 = .ok (.ireturn, 1) := by decide +kernel
theorem dX2_out_0 : decode cX2_out 0 = .ok (.aload_n 0, 1) := by decide +kernel
theorem dX2_out_1 : decode cX2_out 1 = .ok (.getfield 35, 3) := by decide +kernel
theorem dX2_out_4 : decode cX2_out 4 = .ok (.ifCond .eq 37, 3) := by decide +kernel
theorem dX2_out_7 : decode cX2_out 7 = .ok (.iload_n 1, 1) := by decide +kernel
theorem dX2_out_8 : decode cX2_out 8 = .ok (.ifCond .lt 33, 3) := by decide +kernel
theorem dX2_out_11 : decode cX2_out 11 = .ok (.iload_n 1, 1) := by decide +kernel
theorem dX2_out_12 : decode cX2_out 12 = .ok (.aload_n 0, 1) := by decide +kernel
theorem dX2_out_13 : decode cX2_out 13 = .ok (.getfield 51, 3) := by decide +kernel
theorem dX2_out_16 : decode cX2_out 16 = .ok (.if_icmp .ge 25, 3) := by decide +kernel
theorem dX2_out_19 : decode cX2_out 19 = .ok (.aload_n 0, 1) := by decide +kernel
theorem dX2_out_20 : decode cX2_out 20 = .ok (.getfield 13, 3) := by decide +kernel
theorem dX2_out_23 : decode cX2_out 23 = .ok (.iload_n 1, 1) := by decide +kernel
theorem dX2_out_24 : decode cX2_out 24 = .ok (.iconst 4, 1) := by decide +kernel
theorem dX2_out_25 : decode cX2_out 25 = .ok (.idiv, 1) := by decide +kernel
theorem dX2_out_26 : decode cX2_out 26 = .ok (.iaload, 1) := by decide +kernel
theorem dX2_out_27 : decode cX2_out 27 = .ok (.bipush 8, 2) := by decide +kernel
theorem dX2_out_29 : decode cX2_out 29 = .ok (.iload_n 1, 1) := by decide +kernel
theorem dX2_out_30 : decode cX2_out 30 = .ok (.iconst 4, 1) := by decide +kernel
theorem dX2_out_31 : decode cX2_out 31 = .ok (.irem, 1) := by decide +kernel
theorem dX2_out_32 : decode cX2_out 32 = .ok (.imul, 1) := by decide +kernel
theorem dX2_out_33 : decode cX2_out 33 = .ok (.iushr, 1) := by decide +kernel
theorem dX2_out_34 : decode cX2_out 34 = .ok (.sipush 255, 3) := by decide +kernel
theorem dX2_out_37 : decode cX2_out 37 = .ok (.iand, 1) := by decide +kernel
theorem dX2_out_38 : decode cX2_out 38 = .ok (.goto 4, 3) := by decide +kernel
theorem dX2_out_41 : decode cX2_out 41 = .ok (.iconst (-1), 1) := by decide +kernel
theorem dX2_out_42 : decode cX2_out 42 = .ok (.ireturn, 1) := by decide +kernel
theorem dX2_length_0 : decode cX2_length 0 = .ok (.aload_n 0, 1) := by decide +kernel
theorem dX2_length_1 : decode cX2_length 1 = .ok (.getfield 32, 3) := by decide +kernel
theorem dX2_length_4 : decode cX2_length 4 = .ok (.ifCond .ne 10, 3) := by decide +kernel
theorem dX2_length_7 : decode cX2_length 7 = .ok (.aload_n 0, 1) := by decide +kernel
theorem dX2_length_8 : decode cX2_length 8 = .ok (.getfield 35, 3) := by decide +kernel
theorem dX2_length_11 : decode cX2_length 11 = .ok (.ifCond .eq 10, 3) := by decide +kernel
theorem dX2_length_14 : decode cX2_length 14 = .ok (.aload_n 0, 1) := by decide +kernel
theorem dX2_length_15 : decode cX2_length 15 = .ok (.getfield 62, 3) := by decide +kernel
theorem dX2_length_18 : decode cX2_length 18 = .ok (.goto 4, 3) := by decide +kernel
theorem dX2_length_21 : decode cX2_length 21 = .ok (.iconst (-1), 1) := by decide +kernel
theorem dX2_length_22 : decode cX2_length 22 = .ok (.ireturn, 1) := by decide +kernel
theorem dX2_word_0 : decode cX2_word 0 = .ok (.aload_n 0, 1) := by decide +kernel
theorem dX2_word_1 : decode cX2_word 1 = .ok (.getfield 32, 3) := by decide +kernel
theorem dX2_word_4 : decode cX2_word 4 = .ok (.ifCond .ne 10, 3) := by decide +kernel
theorem dX2_word_7 : decode cX2_word 7 = .ok (.aload_n 0, 1) := by decide +kernel
theorem dX2_word_8 : decode cX2_word 8 = .ok (.getfield 35, 3) := by decide +kernel
theorem dX2_word_11 : decode cX2_word 11 = .ok (.ifCond .eq 22, 3) := by decide +kernel
theorem dX2_word_14 : decode cX2_word 14 = .ok (.iload_n 1, 1) := by decide +kernel
theorem dX2_word_15 : decode cX2_word 15 = .ok (.ifCond .lt 18, 3) := by decide +kernel
theorem dX2_word_18 : decode cX2_word 18 = .ok (.iload_n 1, 1) := by decide +kernel
theorem dX2_word_19 : decode cX2_word 19 = .ok (.bipush 8, 2) := by decide +kernel
theorem dX2_word_21 : decode cX2_word 21 = .ok (.if_icmp .ge 12, 3) := by decide +kernel
theorem dX2_word_24 : decode cX2_word 24 = .ok (.aload_n 0, 1) := by decide +kernel
theorem dX2_word_25 : decode cX2_word 25 = .ok (.getfield 13, 3) := by decide +kernel
theorem dX2_word_28 : decode cX2_word 28 = .ok (.iload_n 1, 1) := by decide +kernel
theorem dX2_word_29 : decode cX2_word 29 = .ok (.iaload, 1) := by decide +kernel
theorem dX2_word_30 : decode cX2_word 30 = .ok (.goto 4, 3) := by decide +kernel
theorem dX2_word_33 : decode cX2_word 33 = .ok (.iconst 0, 1) := by decide +kernel
theorem dX2_word_34 : decode cX2_word 34 = .ok (.ireturn, 1) := by decide +kernel
theorem dJ9_min_7cf53_0 : decode cJ9_min_7cf53 0 = .ok (.iload_n 0, 1) := by decide +kernel
theorem dJ9_min_7cf53_1 : decode cJ9_min_7cf53 1 = .ok (.iload_n 1, 1) := by decide +kernel
theorem dJ9_min_7cf53_2 : decode cJ9_min_7cf53 2 = .ok (.if_icmp .gt 7, 3) := by decide +kernel
theorem dJ9_min_7cf53_5 : decode cJ9_min_7cf53 5 = .ok (.iload_n 0, 1) := by decide +kernel
theorem dJ9_min_7cf53_6 : decode cJ9_min_7cf53 6 = .ok (.goto 4, 3) := by decide +kernel
theorem dJ9_min_7cf53_9 : decode cJ9_min_7cf53 9 = .ok (.iload_n 1, 1) := by decide +kernel
theorem dJ9_min_7cf53_10 : decode cJ9_min_7cf53 10 = .ok (.ireturn, 1) := by decide +kernel
end
section
theorem dL_law_0 : decode cL_law 0 = .ok (.new 7, 3) := by decide +kernel
theorem dL_law_3 : decode cL_law 3 = .ok (.dup, 1) := by decide +kernel
theorem dL_law_4 : decode cL_law 4 = .ok (.invokespecial 9, 3) := by decide +kernel
theorem dL_law_7 : decode cL_law 7 = .ok (.astore_n 1, 1) := by decide +kernel
theorem dL_law_8 : decode cL_law 8 = .ok (.new 10, 3) := by decide +kernel
theorem dL_law_11 : decode cL_law 11 = .ok (.dup, 1) := by decide +kernel
theorem dL_law_12 : decode cL_law 12 = .ok (.invokespecial 12, 3) := by decide +kernel
theorem dL_law_15 : decode cL_law 15 = .ok (.astore_n 2, 1) := by decide +kernel
theorem dL_law_16 : decode cL_law 16 = .ok (.iconst 0, 1) := by decide +kernel
theorem dL_law_17 : decode cL_law 17 = .ok (.istore_n 3, 1) := by decide +kernel
theorem dL_law_18 : decode cL_law 18 = .ok (.iload_n 3, 1) := by decide +kernel
theorem dL_law_19 : decode cL_law 19 = .ok (.aload_n 0, 1) := by decide +kernel
theorem dL_law_20 : decode cL_law 20 = .ok (.arraylength, 1) := by decide +kernel
theorem dL_law_21 : decode cL_law 21 = .ok (.bipush 6, 2) := by decide +kernel
theorem dL_law_23 : decode cL_law 23 = .ok (.isub, 1) := by decide +kernel
theorem dL_law_24 : decode cL_law 24 = .ok (.if_icmp .gt 338, 3) := by decide +kernel
theorem dL_law_27 : decode cL_law 27 = .ok (.aload_n 0, 1) := by decide +kernel
theorem dL_law_28 : decode cL_law 28 = .ok (.iload_n 3, 1) := by decide +kernel
theorem dL_law_29 : decode cL_law 29 = .ok (.iaload, 1) := by decide +kernel
theorem dL_law_30 : decode cL_law 30 = .ok (.bipush 15, 2) := by decide +kernel
theorem dL_law_32 : decode cL_law 32 = .ok (.iand, 1) := by decide +kernel
theorem dL_law_33 : decode cL_law 33 = .ok (.tableswitch 323 0 9 #[55, 66, 99, 132, 155, 218, 251, 264, 287, 300], 55) := by decide +kernel
theorem dL_law_88 : decode cL_law 88 = .ok (.aload_n 1, 1) := by decide +kernel
theorem dL_law_89 : decode cL_law 89 = .ok (.invokevirtual 13, 3) := by decide +kernel
theorem dL_law_92 : decode cL_law 92 = .ok (.aload_n 2, 1) := by decide +kernel
theorem dL_law_93 : decode cL_law 93 = .ok (.invokevirtual 16, 3) := by decide +kernel
theorem dL_law_96 : decode cL_law 96 = .ok (.goto 260, 3) := by decide +kernel
theorem dL_law_99 : decode cL_law 99 = .ok (.aload_n 1, 1) := by decide +kernel
theorem dL_law_100 : decode cL_law 100 = .ok (.aload_n 0, 1) := by decide +kernel
theorem dL_law_101 : decode cL_law 101 = .ok (.iload_n 3, 1) := by decide +kernel
theorem dL_law_102 : decode cL_law 102 = .ok (.iconst 1, 1) := by decide +kernel
theorem dL_law_103 : decode cL_law 103 = .ok (.iadd, 1) := by decide +kernel
theorem dL_law_104 : decode cL_law 104 = .ok (.iaload, 1) := by decide +kernel
theorem dL_law_105 : decode cL_law 105 = .ok (.aload_n 0, 1) := by decide +kernel
theorem dL_law_106 : decode cL_law 106 = .ok (.iload_n 3, 1) := by decide +kernel
theorem dL_law_107 : decode cL_law 107 = .ok (.iconst 2, 1) := by decide +kernel
theorem dL_law_108 : decode cL_law 108 = .ok (.iadd, 1) := by decide +kernel
theorem dL_law_109 : decode cL_law 109 = .ok (.iaload, 1) := by decide +kernel
theorem dL_law_110 : decode cL_law 110 = .ok (.invokevirtual 17, 3) := by decide +kernel
theorem dL_law_113 : decode cL_law 113 = .ok (.aload_n 2, 1) := by decide +kernel
theorem dL_law_114 : decode cL_law 114 = .ok (.aload_n 0, 1) := by decide +kernel
theorem dL_law_115 : decode cL_law 115 = .ok (.iload_n 3, 1) := by decide +kernel
theorem dL_law_116 : decode cL_law 116 = .ok (.iconst 1, 1) := by decide +kernel
theorem dL_law_117 : decode cL_law 117 = .ok (.iadd, 1) := by decide +kernel
theorem dL_law_118 : decode cL_law 118 = .ok (.iaload, 1) := by decide +kernel
theorem dL_law_119 : decode cL_law 119 = .ok (.aload_n 0, 1) := by decide +kernel
theorem dL_law_120 : decode cL_law 120 = .ok (.iload_n 3, 1) := by decide +kernel
theorem dL_law_121 : decode cL_law 121 = .ok (.iconst 2, 1) := by decide +kernel
theorem dL_law_122 : decode cL_law 122 = .ok (.iadd, 1) := by decide +kernel
theorem dL_law_123 : decode cL_law 123 = .ok (.iaload, 1) := by decide +kernel
theorem dL_law_124 : decode cL_law 124 = .ok (.invokevirtual 21, 3) := by decide +kernel
theorem dL_law_127 : decode cL_law 127 = .ok (.if_icmp .eq 229, 3) := by decide +kernel
theorem dL_law_130 : decode cL_law 130 = .ok (.iconst 0, 1) := by decide +kernel
theorem dL_law_131 : decode cL_law 131 = .ok (.ireturn, 1) := by decide +kernel
theorem dL_law_132 : decode cL_law 132 = .ok (.aload_n 1, 1) := by decide +kernel
theorem dL_law_133 : decode cL_law 133 = .ok (.aload_n 0, 1) := by decide +kernel
theorem dL_law_134 : decode cL_law 134 = .ok (.iload_n 3, 1) := by decide +kernel
theorem dL_law_135 : decode cL_law 135 = .ok (.iconst 1, 1) := by decide +kernel
theorem dL_law_136 : decode cL_law 136 = .ok (.iadd, 1) := by decide +kernel
theorem dL_law_137 : decode cL_law 137 = .ok (.iaload, 1) := by decide +kernel
theorem dL_law_138 : decode cL_law 138 = .ok (.aload_n 0, 1) := by decide +kernel
theorem dL_law_139 : decode cL_law 139 = .ok (.iload_n 3, 1) := by decide +kernel
theorem dL_law_140 : decode cL_law 140 = .ok (.iconst 2, 1) := by decide +kernel
theorem dL_law_141 : decode cL_law 141 = .ok (.iadd, 1) := by decide +kernel
theorem dL_law_142 : decode cL_law 142 = .ok (.iaload, 1) := by decide +kernel
theorem dL_law_143 : decode cL_law 143 = .ok (.invokevirtual 22, 3) := by decide +kernel
theorem dL_law_146 : decode cL_law 146 = .ok (.aload_n 2, 1) := by decide +kernel
theorem dL_law_147 : decode cL_law 147 = .ok (.aload_n 0, 1) := by decide +kernel
theorem dL_law_148 : decode cL_law 148 = .ok (.iload_n 3, 1) := by decide +kernel
theorem dL_law_149 : decode cL_law 149 = .ok (.iconst 1, 1) := by decide +kernel
theorem dL_law_150 : decode cL_law 150 = .ok (.iadd, 1) := by decide +kernel
theorem dL_law_151 : decode cL_law 151 = .ok (.iaload, 1) := by decide +kernel
theorem dL_law_152 : decode cL_law 152 = .ok (.aload_n 0, 1) := by decide +kernel
theorem dL_law_153 : decode cL_law 153 = .ok (.iload_n 3, 1) := by decide +kernel
theorem dL_law_154 : decode cL_law 154 = .ok (.iconst 2, 1) := by decide +kernel
theorem dL_law_155 : decode cL_law 155 = .ok (.iadd, 1) := by decide +kernel
theorem dL_law_156 : decode cL_law 156 = .ok (.iaload, 1) := by decide +kernel
theorem dL_law_157 : decode cL_law 157 = .ok (.invokevirtual 25, 3) := by decide +kernel
theorem dL_law_160 : decode cL_law 160 = .ok (.if_icmp .eq 196, 3) := by decide +kernel
theorem dL_law_163 : decode cL_law 163 = .ok (.iconst 0, 1) := by decide +kernel
theorem dL_law_164 : decode cL_law 164 = .ok (.ireturn, 1) := by decide +kernel
theorem dL_law_165 : decode cL_law 165 = .ok (.aload_n 1, 1) := by decide +kernel
theorem dL_law_166 : decode cL_law 166 = .ok (.aload_n 0, 1) := by decide +kernel
theorem dL_law_167 : decode cL_law 167 = .ok (.iload_n 3, 1) := by decide +kernel
theorem dL_law_168 : decode cL_law 168 = .ok (.iconst 1, 1) := by decide +kernel
theorem dL_law_169 : decode cL_law 169 = .ok (.iadd, 1) := by decide +kernel
theorem dL_law_170 : decode cL_law 170 = .ok (.iaload, 1) := by decide +kernel
theorem dL_law_171 : decode cL_law 171 = .ok (.invokevirtual 26, 3) := by decide +kernel
theorem dL_law_174 : decode cL_law 174 = .ok (.aload_n 2, 1) := by decide +kernel
theorem dL_law_175 : decode cL_law 175 = .ok (.aload_n 0, 1) := by decide +kernel
theorem dL_law_176 : decode cL_law 176 = .ok (.iload_n 3, 1) := by decide +kernel
theorem dL_law_177 : decode cL_law 177 = .ok (.iconst 1, 1) := by decide +kernel
theorem dL_law_178 : decode cL_law 178 = .ok (.iadd, 1) := by decide +kernel
theorem dL_law_179 : decode cL_law 179 = .ok (.iaload, 1) := by decide +kernel
theorem dL_law_180 : decode cL_law 180 = .ok (.invokevirtual 30, 3) := by decide +kernel
theorem dL_law_183 : decode cL_law 183 = .ok (.if_icmp .eq 173, 3) := by decide +kernel
theorem dL_law_186 : decode cL_law 186 = .ok (.iconst 0, 1) := by decide +kernel
theorem dL_law_187 : decode cL_law 187 = .ok (.ireturn, 1) := by decide +kernel
theorem dL_law_188 : decode cL_law 188 = .ok (.aload_n 1, 1) := by decide +kernel
theorem dL_law_189 : decode cL_law 189 = .ok (.aload_n 0, 1) := by decide +kernel
theorem dL_law_190 : decode cL_law 190 = .ok (.iload_n 3, 1) := by decide +kernel
theorem dL_law_191 : decode cL_law 191 = .ok (.iconst 1, 1) := by decide +kernel
theorem dL_law_192 : decode cL_law 192 = .ok (.iadd, 1) := by decide +kernel
theorem dL_law_193 : decode cL_law 193 = .ok (.iaload, 1) := by decide +kernel
theorem dL_law_194 : decode cL_law 194 = .ok (.aload_n 0, 1) := by decide +kernel
theorem dL_law_195 : decode cL_law 195 = .ok (.iload_n 3, 1) := by decide +kernel
theorem dL_law_196 : decode cL_law 196 = .ok (.iconst 2, 1) := by decide +kernel
theorem dL_law_197 : decode cL_law 197 = .ok (.iadd, 1) := by decide +kernel
theorem dL_law_198 : decode cL_law 198 = .ok (.iaload, 1) := by decide +kernel
theorem dL_law_199 : decode cL_law 199 = .ok (.aload_n 0, 1) := by decide +kernel
theorem dL_law_200 : decode cL_law 200 = .ok (.iload_n 3, 1) := by decide +kernel
theorem dL_law_201 : decode cL_law 201 = .ok (.iconst 3, 1) := by decide +kernel
theorem dL_law_202 : decode cL_law 202 = .ok (.iadd, 1) := by decide +kernel
theorem dL_law_203 : decode cL_law 203 = .ok (.iaload, 1) := by decide +kernel
theorem dL_law_204 : decode cL_law 204 = .ok (.aload_n 0, 1) := by decide +kernel
theorem dL_law_205 : decode cL_law 205 = .ok (.iload_n 3, 1) := by decide +kernel
theorem dL_law_206 : decode cL_law 206 = .ok (.iconst 4, 1) := by decide +kernel
theorem dL_law_207 : decode cL_law 207 = .ok (.iadd, 1) := by decide +kernel
theorem dL_law_208 : decode cL_law 208 = .ok (.iaload, 1) := by decide +kernel
theorem dL_law_209 : decode cL_law 209 = .ok (.aload_n 0, 1) := by decide +kernel
theorem dL_law_210 : decode cL_law 210 = .ok (.iload_n 3, 1) := by decide +kernel
theorem dL_law_211 : decode cL_law 211 = .ok (.iconst 5, 1) := by decide +kernel
theorem dL_law_212 : decode cL_law 212 = .ok (.iadd, 1) := by decide +kernel
theorem dL_law_213 : decode cL_law 213 = .ok (.iaload, 1) := by decide +kernel
theorem dL_law_214 : decode cL_law 214 = .ok (.invokevirtual 31, 3) := by decide +kernel
theorem dL_law_217 : decode cL_law 217 = .ok (.aload_n 2, 1) := by decide +kernel
theorem dL_law_218 : decode cL_law 218 = .ok (.aload_n 0, 1) := by decide +kernel
theorem dL_law_219 : decode cL_law 219 = .ok (.iload_n 3, 1) := by decide +kernel
theorem dL_law_220 : decode cL_law 220 = .ok (.iconst 1, 1) := by decide +kernel
theorem dL_law_221 : decode cL_law 221 = .ok (.iadd, 1) := by decide +kernel
theorem dL_law_222 : decode cL_law 222 = .ok (.iaload, 1) := by decide +kernel
theorem dL_law_223 : decode cL_law 223 = .ok (.aload_n 0, 1) := by decide +kernel
theorem dL_law_224 : decode cL_law 224 = .ok (.iload_n 3, 1) := by decide +kernel
theorem dL_law_225 : decode cL_law 225 = .ok (.iconst 2, 1) := by decide +kernel
theorem dL_law_226 : decode cL_law 226 = .ok (.iadd, 1) := by decide +kernel
theorem dL_law_227 : decode cL_law 227 = .ok (.iaload, 1) := by decide +kernel
theorem dL_law_228 : decode cL_law 228 = .ok (.aload_n 0, 1) := by decide +kernel
theorem dL_law_229 : decode cL_law 229 = .ok (.iload_n 3, 1) := by decide +kernel
theorem dL_law_230 : decode cL_law 230 = .ok (.iconst 3, 1) := by decide +kernel
theorem dL_law_231 : decode cL_law 231 = .ok (.iadd, 1) := by decide +kernel
theorem dL_law_232 : decode cL_law 232 = .ok (.iaload, 1) := by decide +kernel
theorem dL_law_233 : decode cL_law 233 = .ok (.aload_n 0, 1) := by decide +kernel
theorem dL_law_234 : decode cL_law 234 = .ok (.iload_n 3, 1) := by decide +kernel
theorem dL_law_235 : decode cL_law 235 = .ok (.iconst 4, 1) := by decide +kernel
theorem dL_law_236 : decode cL_law 236 = .ok (.iadd, 1) := by decide +kernel
theorem dL_law_237 : decode cL_law 237 = .ok (.iaload, 1) := by decide +kernel
theorem dL_law_238 : decode cL_law 238 = .ok (.aload_n 0, 1) := by decide +kernel
theorem dL_law_239 : decode cL_law 239 = .ok (.iload_n 3, 1) := by decide +kernel
theorem dL_law_240 : decode cL_law 240 = .ok (.iconst 5, 1) := by decide +kernel
theorem dL_law_241 : decode cL_law 241 = .ok (.iadd, 1) := by decide +kernel
theorem dL_law_242 : decode cL_law 242 = .ok (.iaload, 1) := by decide +kernel
theorem dL_law_243 : decode cL_law 243 = .ok (.invokevirtual 35, 3) := by decide +kernel
theorem dL_law_246 : decode cL_law 246 = .ok (.if_icmp .eq 110, 3) := by decide +kernel
theorem dL_law_249 : decode cL_law 249 = .ok (.iconst 0, 1) := by decide +kernel
theorem dL_law_250 : decode cL_law 250 = .ok (.ireturn, 1) := by decide +kernel
theorem dL_law_251 : decode cL_law 251 = .ok (.aload_n 1, 1) := by decide +kernel
theorem dL_law_252 : decode cL_law 252 = .ok (.aload_n 0, 1) := by decide +kernel
theorem dL_law_253 : decode cL_law 253 = .ok (.iload_n 3, 1) := by decide +kernel
theorem dL_law_254 : decode cL_law 254 = .ok (.iconst 1, 1) := by decide +kernel
theorem dL_law_255 : decode cL_law 255 = .ok (.iadd, 1) := by decide +kernel
theorem dL_law_256 : decode cL_law 256 = .ok (.iaload, 1) := by decide +kernel
theorem dL_law_257 : decode cL_law 257 = .ok (.aload_n 0, 1) := by decide +kernel
theorem dL_law_258 : decode cL_law 258 = .ok (.iload_n 3, 1) := by decide +kernel
theorem dL_law_259 : decode cL_law 259 = .ok (.iconst 2, 1) := by decide +kernel
theorem dL_law_260 : decode cL_law 260 = .ok (.iadd, 1) := by decide +kernel
theorem dL_law_261 : decode cL_law 261 = .ok (.iaload, 1) := by decide +kernel
theorem dL_law_262 : decode cL_law 262 = .ok (.invokevirtual 36, 3) := by decide +kernel
theorem dL_law_265 : decode cL_law 265 = .ok (.aload_n 2, 1) := by decide +kernel
theorem dL_law_266 : decode cL_law 266 = .ok (.aload_n 0, 1) := by decide +kernel
theorem dL_law_267 : decode cL_law 267 = .ok (.iload_n 3, 1) := by decide +kernel
theorem dL_law_268 : decode cL_law 268 = .ok (.iconst 1, 1) := by decide +kernel
theorem dL_law_269 : decode cL_law 269 = .ok (.iadd, 1) := by decide +kernel
theorem dL_law_270 : decode cL_law 270 = .ok (.iaload, 1) := by decide +kernel
theorem dL_law_271 : decode cL_law 271 = .ok (.aload_n 0, 1) := by decide +kernel
theorem dL_law_272 : decode cL_law 272 = .ok (.iload_n 3, 1) := by decide +kernel
theorem dL_law_273 : decode cL_law 273 = .ok (.iconst 2, 1) := by decide +kernel
theorem dL_law_274 : decode cL_law 274 = .ok (.iadd, 1) := by decide +kernel
theorem dL_law_275 : decode cL_law 275 = .ok (.iaload, 1) := by decide +kernel
theorem dL_law_276 : decode cL_law 276 = .ok (.invokevirtual 39, 3) := by decide +kernel
theorem dL_law_279 : decode cL_law 279 = .ok (.if_icmp .eq 77, 3) := by decide +kernel
theorem dL_law_282 : decode cL_law 282 = .ok (.iconst 0, 1) := by decide +kernel
theorem dL_law_283 : decode cL_law 283 = .ok (.ireturn, 1) := by decide +kernel
theorem dL_law_284 : decode cL_law 284 = .ok (.aload_n 1, 1) := by decide +kernel
theorem dL_law_285 : decode cL_law 285 = .ok (.invokevirtual 40, 3) := by decide +kernel
theorem dL_law_288 : decode cL_law 288 = .ok (.aload_n 2, 1) := by decide +kernel
theorem dL_law_289 : decode cL_law 289 = .ok (.invokevirtual 44, 3) := by decide +kernel
theorem dL_law_292 : decode cL_law 292 = .ok (.if_icmp .eq 64, 3) := by decide +kernel
theorem dL_law_295 : decode cL_law 295 = .ok (.iconst 0, 1) := by decide +kernel
theorem dL_law_296 : decode cL_law 296 = .ok (.ireturn, 1) := by decide +kernel
theorem dL_law_297 : decode cL_law 297 = .ok (.aload_n 1, 1) := by decide +kernel
theorem dL_law_298 : decode cL_law 298 = .ok (.aload_n 0, 1) := by decide +kernel
theorem dL_law_299 : decode cL_law 299 = .ok (.iload_n 3, 1) := by decide +kernel
theorem dL_law_300 : decode cL_law 300 = .ok (.iconst 1, 1) := by decide +kernel
theorem dL_law_301 : decode cL_law 301 = .ok (.iadd, 1) := by decide +kernel
theorem dL_law_302 : decode cL_law 302 = .ok (.iaload, 1) := by decide +kernel
theorem dL_law_303 : decode cL_law 303 = .ok (.invokevirtual 45, 3) := by decide +kernel
theorem dL_law_306 : decode cL_law 306 = .ok (.aload_n 2, 1) := by decide +kernel
theorem dL_law_307 : decode cL_law 307 = .ok (.aload_n 0, 1) := by decide +kernel
theorem dL_law_308 : decode cL_law 308 = .ok (.iload_n 3, 1) := by decide +kernel
theorem dL_law_309 : decode cL_law 309 = .ok (.iconst 1, 1) := by decide +kernel
theorem dL_law_310 : decode cL_law 310 = .ok (.iadd, 1) := by decide +kernel
theorem dL_law_311 : decode cL_law 311 = .ok (.iaload, 1) := by decide +kernel
theorem dL_law_312 : decode cL_law 312 = .ok (.invokevirtual 49, 3) := by decide +kernel
theorem dL_law_315 : decode cL_law 315 = .ok (.if_icmp .eq 41, 3) := by decide +kernel
theorem dL_law_318 : decode cL_law 318 = .ok (.iconst 0, 1) := by decide +kernel
theorem dL_law_319 : decode cL_law 319 = .ok (.ireturn, 1) := by decide +kernel
theorem dL_law_320 : decode cL_law 320 = .ok (.aload_n 1, 1) := by decide +kernel
theorem dL_law_321 : decode cL_law 321 = .ok (.invokevirtual 50, 3) := by decide +kernel
theorem dL_law_324 : decode cL_law 324 = .ok (.aload_n 2, 1) := by decide +kernel
theorem dL_law_325 : decode cL_law 325 = .ok (.invokevirtual 54, 3) := by decide +kernel
theorem dL_law_328 : decode cL_law 328 = .ok (.if_icmp .eq 28, 3) := by decide +kernel
theorem dL_law_331 : decode cL_law 331 = .ok (.iconst 0, 1) := by decide +kernel
theorem dL_law_332 : decode cL_law 332 = .ok (.ireturn, 1) := by decide +kernel
theorem dL_law_333 : decode cL_law 333 = .ok (.aload_n 1, 1) := by decide +kernel
theorem dL_law_334 : decode cL_law 334 = .ok (.aload_n 0, 1) := by decide +kernel
theorem dL_law_335 : decode cL_law 335 = .ok (.iload_n 3, 1) := by decide +kernel
theorem dL_law_336 : decode cL_law 336 = .ok (.iconst 1, 1) := by decide +kernel
theorem dL_law_337 : decode cL_law 337 = .ok (.iadd, 1) := by decide +kernel
theorem dL_law_338 : decode cL_law 338 = .ok (.iaload, 1) := by decide +kernel
theorem dL_law_339 : decode cL_law 339 = .ok (.invokevirtual 55, 3) := by decide +kernel
theorem dL_law_342 : decode cL_law 342 = .ok (.aload_n 2, 1) := by decide +kernel
theorem dL_law_343 : decode cL_law 343 = .ok (.aload_n 0, 1) := by decide +kernel
theorem dL_law_344 : decode cL_law 344 = .ok (.iload_n 3, 1) := by decide +kernel
theorem dL_law_345 : decode cL_law 345 = .ok (.iconst 1, 1) := by decide +kernel
theorem dL_law_346 : decode cL_law 346 = .ok (.iadd, 1) := by decide +kernel
theorem dL_law_347 : decode cL_law 347 = .ok (.iaload, 1) := by decide +kernel
theorem dL_law_348 : decode cL_law 348 = .ok (.invokevirtual 58, 3) := by decide +kernel
theorem dL_law_351 : decode cL_law 351 = .ok (.if_icmp .eq 5, 3) := by decide +kernel
theorem dL_law_354 : decode cL_law 354 = .ok (.iconst 0, 1) := by decide +kernel
theorem dL_law_355 : decode cL_law 355 = .ok (.ireturn, 1) := by decide +kernel
theorem dL_law_356 : decode cL_law 356 = .ok (.iinc 3 6, 3) := by decide +kernel
theorem dL_law_359 : decode cL_law 359 = .ok (.goto (-341), 3) := by decide +kernel
theorem dL_law_362 : decode cL_law 362 = .ok (.iconst 1, 1) := by decide +kernel
theorem dL_law_363 : decode cL_law 363 = .ok (.ireturn, 1) := by decide +kernel
abbrev vwCl : List vw_C := [(RX0, TX0, 5), (RX1, TX1, 5), (RX2, TX2, 13)]
end
section
set_option maxRecDepth 100000 in
set_option maxHeartbeats 4000000 in
theorem ggL_law_X1_init : GoodIn wsL_law wsX1_init := goodIn_r _ [8, 9, 10, 11, 12, 13, 14, 15, 16, 17, 18, 19, 20, 21, 22, 23, 24, 25, 26, 27, 28, 29, 222, 223, 224, 225, 226, 240, 241, 242, 243, 244] rfl (by decide +kernel)
set_option maxRecDepth 100000 in
set_option maxHeartbeats 4000000 in
theorem gL_law_X1_init : GoodIn wsL_law (wsX1_init) := ggL_law_X1_init
set_option maxRecDepth 100000 in
set_option maxHeartbeats 4000000 in
theorem ggL_law_X2_init : GoodIn wsL_law wsX2_init := goodIn_r _ [32, 33, 10, 11, 12, 34, 35, 36, 37, 38, 39, 40, 227, 228, 229, 230, 231, 232, 233, 234, 235, 236, 237, 238, 239] rfl (by decide +kernel)
set_option maxRecDepth 100000 in
set_option maxHeartbeats 4000000 in
theorem gL_law_X2_init : GoodIn wsL_law (wsX2_init) := ggL_law_X2_init
set_option maxRecDepth 100000 in
set_option maxHeartbeats 4000000 in
theorem ggL_law_X1_init_ : GoodIn wsL_law wsX1_init_ := goodIn_r _ [44, 13, 18, 222, 223, 224, 225, 226] rfl (by decide +kernel)
set_option maxRecDepth 100000 in
set_option maxHeartbeats 4000000 in
theorem gL_law_X1_init_ : GoodIn wsL_law (wsV RL 13 RX1 yX1_init_ wsX1_init_) := goodIn_app (goodIn_r _ [41, 42, 43, 2] rfl rfl) ggL_law_X1_init_
set_option maxRecDepth 100000 in
set_option maxHeartbeats 4000000 in
theorem ggL_law_X2_init_ : GoodIn wsL_law wsX2_init_ := goodIn_r _ [48, 40, 49, 50, 34, 227, 228, 229, 230, 231, 232, 233, 234, 235, 236, 237, 238, 239] rfl (by decide +kernel)
set_option maxRecDepth 100000 in
set_option maxHeartbeats 4000000 in
theorem gL_law_X2_init_ : GoodIn wsL_law (wsV RL 16 RX2 yX2_init_ wsX2_init_) := goodIn_app (goodIn_r _ [45, 46, 47, 5] rfl rfl) ggL_law_X2_init_
set_option maxRecDepth 100000 in
set_option maxHeartbeats 4000000 in
theorem ggL_law_X1_setKeyByte : GoodIn wsL_law wsX1_setKeyByte := goodIn_r _ [54, 18, 13, 55, 56, 2, 57, 222, 223, 224, 225, 226] rfl (by decide +kernel)
set_option maxRecDepth 100000 in
set_option maxHeartbeats 4000000 in
theorem gL_law_X1_setKeyByte : GoodIn wsL_law (wsV RL 17 RX1 yX1_setKeyByte wsX1_setKeyByte) := goodIn_app (goodIn_r _ [51, 52, 53, 2] rfl rfl) ggL_law_X1_setKeyByte
set_option maxRecDepth 100000 in
set_option maxHeartbeats 4000000 in
theorem ggL_law_X2_setKeyByte : GoodIn wsL_law wsX2_setKeyByte := goodIn_r _ [61, 49, 34, 227, 228, 229, 230, 231, 232, 233, 234, 235, 236, 237, 238, 239] rfl (by decide +kernel)
set_option maxRecDepth 100000 in
set_option maxHeartbeats 4000000 in
theorem gL_law_X2_setKeyByte : GoodIn wsL_law (wsV RL 21 RX2 yX2_setKeyByte wsX2_setKeyByte) := goodIn_app (goodIn_r _ [58, 59, 60, 5] rfl rfl) ggL_law_X2_setKeyByte
set_option maxRecDepth 100000 in
set_option maxHeartbeats 4000000 in
theorem ggL_law_X1_start : GoodIn wsL_law wsX1_start := goodIn_r _ [65, 18, 17, 13, 19, 20, 66, 67, 68, 16, 69, 25, 70, 71, 29, 72, 73, 74, 75, 26, 28, 76, 77, 78, 79, 80, 81, 82, 83, 84, 85, 86, 87, 88, 27, 89, 90, 91, 92, 93, 94, 95, 96, 97, 98, 99, 100, 222, 223, 224, 225, 226, 240, 241, 242, 243, 244] rfl (by decide +kernel)
set_option maxRecDepth 100000 in
set_option maxHeartbeats 4000000 in
theorem gL_law_X1_start : GoodIn wsL_law (wsV RL 22 RX1 yX1_start wsX1_start) := goodIn_app (goodIn_r _ [62, 63, 64, 2] rfl rfl) ggL_law_X1_start
set_option maxRecDepth 100000 in
set_option maxHeartbeats 4000000 in
theorem ggL_law_X2_start : GoodIn wsL_law wsX2_start := goodIn_r _ [104, 40, 35, 105, 106, 107, 108, 109, 49, 50, 34, 110, 111, 5, 112, 113, 114, 115, 116, 117, 118, 119, 120, 121, 122, 123, 124, 125, 38, 126, 127, 128, 129, 37, 36, 39, 130, 131, 132, 133, 134, 135, 136, 227, 228, 229, 230, 231, 232, 233, 234, 235, 236, 237, 238, 239] rfl (by decide +kernel)
set_option maxRecDepth 100000 in
set_option maxHeartbeats 4000000 in
theorem gL_law_X2_start : GoodIn wsL_law (wsV RL 25 RX2 yX2_start wsX2_start) := goodIn_app (goodIn_r _ [101, 102, 103, 5] rfl rfl) ggL_law_X2_start
set_option maxRecDepth 100000 in
set_option maxHeartbeats 4000000 in
theorem ggL_law_X1_update : GoodIn wsL_law wsX1_update := goodIn_r _ [140, 18, 55, 56, 2, 57, 141, 142, 143, 144, 17, 20, 145, 82, 83, 16, 84, 28, 26, 29, 85, 86, 87, 88, 27, 25, 70, 89, 90, 91, 92, 93, 94, 95, 96, 97, 98, 99, 100, 72, 73, 74, 75, 222, 223, 224, 225, 226, 240, 241, 242, 243, 244] rfl (by decide +kernel)
set_option maxRecDepth 100000 in
set_option maxHeartbeats 4000000 in
theorem gL_law_X1_update : GoodIn wsL_law (wsV RL 26 RX1 yX1_update wsX1_update) := goodIn_app (goodIn_r _ [137, 138, 139, 2] rfl rfl) ggL_law_X1_update
set_option maxRecDepth 100000 in
set_option maxHeartbeats 4000000 in
theorem ggL_law_X2_update : GoodIn wsL_law wsX2_update := goodIn_r _ [149, 49, 109, 121, 122, 123, 5, 124, 107, 108, 125, 38, 126, 127, 128, 129, 37, 36, 35, 39, 110, 111, 112, 113, 114, 115, 116, 117, 118, 119, 120, 130, 131, 132, 133, 134, 135, 136, 227, 228, 229, 230, 231, 232, 233, 234, 235, 236, 237, 238, 239] rfl (by decide +kernel)
set_option maxRecDepth 100000 in
set_option maxHeartbeats 4000000 in
theorem gL_law_X2_update : GoodIn wsL_law (wsV RL 30 RX2 yX2_update wsX2_update) := goodIn_app (goodIn_r _ [146, 147, 148, 5] rfl rfl) ggL_law_X2_update
set_option maxRecDepth 100000 in
set_option maxHeartbeats 4000000 in
theorem ggL_law_X1_updates : GoodIn wsL_law wsX1_updates := goodIn_r _ [153, 18, 154, 155, 156, 157, 158, 159, 160, 2, 161, 141, 142, 143, 144, 17, 20, 145, 82, 83, 16, 84, 28, 26, 29, 85, 86, 87, 88, 27, 25, 70, 89, 90, 91, 92, 93, 94, 95, 96, 97, 98, 99, 100, 72, 73, 74, 75, 222, 223, 224, 225, 226, 240, 241, 242, 243, 244] rfl (by decide +kernel)
set_option maxRecDepth 100000 in
set_option maxHeartbeats 4000000 in
theorem gL_law_X1_updates : GoodIn wsL_law (wsV RL 31 RX1 yX1_updates wsX1_updates) := goodIn_app (goodIn_r _ [150, 151, 152, 2] rfl rfl) ggL_law_X1_updates
set_option maxRecDepth 100000 in
set_option maxHeartbeats 4000000 in
theorem ggL_law_X2_updates : GoodIn wsL_law wsX2_updates := goodIn_r _ [165, 49, 109, 121, 122, 123, 5, 124, 107, 108, 125, 38, 126, 127, 128, 129, 37, 36, 35, 39, 110, 111, 112, 113, 114, 115, 116, 117, 118, 119, 120, 130, 131, 132, 133, 134, 135, 136, 227, 228, 229, 230, 231, 232, 233, 234, 235, 236, 237, 238, 239] rfl (by decide +kernel)
set_option maxRecDepth 100000 in
set_option maxHeartbeats 4000000 in
theorem gL_law_X2_updates : GoodIn wsL_law (wsV RL 35 RX2 yX2_updates wsX2_updates) := goodIn_app (goodIn_r _ [162, 163, 164, 5] rfl rfl) ggL_law_X2_updates
set_option maxRecDepth 100000 in
set_option maxHeartbeats 4000000 in
theorem ggL_law_X1_fill : GoodIn wsL_law wsX1_fill := goodIn_r _ [169, 18, 55, 56, 2, 57, 141, 142, 143, 144, 17, 20, 145, 82, 83, 16, 84, 28, 26, 29, 85, 86, 87, 88, 27, 25, 70, 89, 90, 91, 92, 93, 94, 95, 96, 97, 98, 99, 100, 72, 73, 74, 75, 222, 223, 224, 225, 226, 240, 241, 242, 243, 244] rfl (by decide +kernel)
set_option maxRecDepth 100000 in
set_option maxHeartbeats 4000000 in
theorem gL_law_X1_fill : GoodIn wsL_law (wsV RL 36 RX1 yX1_fill wsX1_fill) := goodIn_app (goodIn_r _ [166, 167, 168, 2] rfl rfl) ggL_law_X1_fill
set_option maxRecDepth 100000 in
set_option maxHeartbeats 4000000 in
theorem ggL_law_X2_fill : GoodIn wsL_law wsX2_fill := goodIn_r _ [173, 49, 109, 121, 122, 123, 5, 124, 107, 108, 125, 38, 126, 127, 128, 129, 37, 36, 35, 39, 110, 111, 112, 113, 114, 115, 116, 117, 118, 119, 120, 130, 131, 132, 133, 134, 135, 136, 227, 228, 229, 230, 231, 232, 233, 234, 235, 236, 237, 238, 239] rfl (by decide +kernel)
set_option maxRecDepth 100000 in
set_option maxHeartbeats 4000000 in
theorem gL_law_X2_fill : GoodIn wsL_law (wsV RL 39 RX2 yX2_fill wsX2_fill) := goodIn_app (goodIn_r _ [170, 171, 172, 5] rfl rfl) ggL_law_X2_fill
set_option maxRecDepth 100000 in
set_option maxHeartbeats 4000000 in
theorem ggL_law_X1_finish : GoodIn wsL_law wsX1_finish := goodIn_r _ [177, 18, 17, 178, 179, 180, 16, 181, 85, 86, 87, 88, 27, 25, 70, 29, 89, 90, 91, 92, 93, 94, 95, 96, 97, 26, 98, 99, 100, 222, 223, 224, 225, 226, 240, 241, 242, 243, 244] rfl (by decide +kernel)
set_option maxRecDepth 100000 in
set_option maxHeartbeats 4000000 in
theorem gL_law_X1_finish : GoodIn wsL_law (wsV RL 40 RX1 yX1_finish wsX1_finish) := goodIn_app (goodIn_r _ [174, 175, 176, 2] rfl rfl) ggL_law_X1_finish
set_option maxRecDepth 100000 in
set_option maxHeartbeats 4000000 in
theorem ggL_law_X2_finish : GoodIn wsL_law wsX2_finish := goodIn_r _ [185, 49, 108, 107, 38, 50, 126, 127, 128, 5, 129, 37, 36, 35, 39, 110, 111, 112, 113, 114, 115, 116, 117, 118, 119, 120, 130, 131, 132, 133, 134, 135, 136, 227, 228, 229, 230, 231, 232, 233, 234, 235, 236, 237, 238, 239] rfl (by decide +kernel)
set_option maxRecDepth 100000 in
set_option maxHeartbeats 4000000 in
theorem gL_law_X2_finish : GoodIn wsL_law (wsV RL 44 RX2 yX2_finish wsX2_finish) := goodIn_app (goodIn_r _ [182, 183, 184, 5] rfl rfl) ggL_law_X2_finish
set_option maxRecDepth 100000 in
set_option maxHeartbeats 4000000 in
theorem ggL_law_X1_out : GoodIn wsL_law wsX1_out := goodIn_r _ [189, 18, 19, 17, 190, 191, 192, 16, 193, 25, 222, 223, 224, 225, 226, 240, 241, 242, 243, 244] rfl (by decide +kernel)
set_option maxRecDepth 100000 in
set_option maxHeartbeats 4000000 in
theorem gL_law_X1_out : GoodIn wsL_law (wsV RL 45 RX1 yX1_out wsX1_out) := goodIn_app (goodIn_r _ [186, 187, 188, 2] rfl rfl) ggL_law_X1_out
set_option maxRecDepth 100000 in
set_option maxHeartbeats 4000000 in
theorem ggL_law_X2_out : GoodIn wsL_law wsX2_out := goodIn_r _ [197, 50, 106, 35, 227, 228, 229, 230, 231, 232, 233, 234, 235, 236, 237, 238, 239] rfl (by decide +kernel)
set_option maxRecDepth 100000 in
set_option maxHeartbeats 4000000 in
theorem gL_law_X2_out : GoodIn wsL_law (wsV RL 49 RX2 yX2_out wsX2_out) := goodIn_app (goodIn_r _ [194, 195, 196, 5] rfl rfl) ggL_law_X2_out
set_option maxRecDepth 100000 in
set_option maxHeartbeats 4000000 in
theorem ggL_law_X1_length : GoodIn wsL_law wsX1_length := goodIn_r _ [201, 20, 202, 203, 204, 2, 205, 18, 222, 223, 224, 225, 226] rfl (by decide +kernel)
set_option maxRecDepth 100000 in
set_option maxHeartbeats 4000000 in
theorem gL_law_X1_length : GoodIn wsL_law (wsV RL 50 RX1 yX1_length wsX1_length) := goodIn_app (goodIn_r _ [198, 199, 200, 2] rfl rfl) ggL_law_X1_length
set_option maxRecDepth 100000 in
set_option maxHeartbeats 4000000 in
theorem ggL_law_X2_length : GoodIn wsL_law wsX2_length := goodIn_r _ [209, 49, 50, 109, 227, 228, 229, 230, 231, 232, 233, 234, 235, 236, 237, 238, 239] rfl (by decide +kernel)
set_option maxRecDepth 100000 in
set_option maxHeartbeats 4000000 in
theorem gL_law_X2_length : GoodIn wsL_law (wsV RL 54 RX2 yX2_length wsX2_length) := goodIn_app (goodIn_r _ [206, 207, 208, 5] rfl rfl) ggL_law_X2_length
set_option maxRecDepth 100000 in
set_option maxHeartbeats 4000000 in
theorem ggL_law_X1_word : GoodIn wsL_law wsX1_word := goodIn_r _ [213, 17, 202, 203, 204, 2, 205, 18, 214, 215, 216, 16, 217, 25, 222, 223, 224, 225, 226, 240, 241, 242, 243, 244] rfl (by decide +kernel)
set_option maxRecDepth 100000 in
set_option maxHeartbeats 4000000 in
theorem gL_law_X1_word : GoodIn wsL_law (wsV RL 55 RX1 yX1_word wsX1_word) := goodIn_app (goodIn_r _ [210, 211, 212, 2] rfl rfl) ggL_law_X1_word
set_option maxRecDepth 100000 in
set_option maxHeartbeats 4000000 in
theorem ggL_law_X2_word : GoodIn wsL_law wsX2_word := goodIn_r _ [221, 49, 50, 35, 227, 228, 229, 230, 231, 232, 233, 234, 235, 236, 237, 238, 239] rfl (by decide +kernel)
set_option maxRecDepth 100000 in
set_option maxHeartbeats 4000000 in
theorem gL_law_X2_word : GoodIn wsL_law (wsV RL 58 RX2 yX2_word wsX2_word) := goodIn_app (goodIn_r _ [218, 219, 220, 5] rfl rfl) ggL_law_X2_word
end
section
/-! what class and reference compute, as functions of their rows -/
def kd_ushr (x y : Int32) : Int32 := (x.toUInt32 >>> (y.toUInt32 &&& Int32.toUInt32 31)).toInt32
def kd_lushr (x : Int64) (y : Int32) : Int64 := (x.toUInt64 >>> (y.toInt64.toUInt64 &&& Int64.toUInt64 63)).toInt64
def kd_ivL : List Nat := [0x6A09E667, 0xBB67AE85, 0x3C6EF372, 0xA54FF53A, 0x510E527F, 0x9B05688C, 0x1F83D9AB, 0x5BE0CD19]
def kd_iv (j : Nat) : Int32 := nI (kd_ivL.getD j 0)
def kd_plL : List Nat := [
  0, 1, 2, 3, 4, 5, 6, 7, 8, 9, 10, 11, 12, 13, 14, 15,
  14, 10, 4, 8, 9, 15, 13, 6, 1, 12, 0, 2, 11, 7, 5, 3,
  11, 8, 12, 0, 5, 2, 15, 13, 10, 14, 3, 6, 7, 1, 9, 4,
  7, 9, 3, 1, 13, 12, 11, 14, 2, 6, 5, 10, 4, 0, 15, 8,
  9, 0, 5, 7, 2, 4, 10, 15, 14, 1, 11, 12, 6, 8, 3, 13,
  2, 12, 6, 10, 0, 11, 8, 3, 4, 13, 7, 5, 15, 14, 1, 9,
  12, 5, 1, 15, 14, 13, 4, 10, 0, 7, 6, 3, 9, 2, 8, 11,
  13, 11, 7, 14, 12, 1, 3, 9, 5, 0, 15, 4, 8, 6, 2, 10,
  6, 15, 14, 9, 11, 3, 0, 8, 12, 2, 13, 7, 1, 4, 10, 5,
  10, 2, 8, 4, 7, 6, 1, 5, 15, 11, 9, 14, 3, 12, 13, 0]
def kd_pl (j : Nat) : Nat := kd_plL.getD j 0
def kd_PL (j : Nat) : Int32 := nI (kd_pl j)
theorem kd_pl_lt : ∀ j, j < 160 → kd_pl j < 16 := by decide +kernel
/-- turned down -/
def kd_rot (w k : Int32) : Int32 := kd_ushr w k ||| (w <<< ((32 - k) &&& 31))
def kd_g1 (a b : Nat) (x : Int32) (v : Nat → Int32) : Nat → Int32 := upd v a (v a + v b + x)
def kd_g2 (d a : Nat) (k : Int32) (v : Nat → Int32) : Nat → Int32 := upd v d (kd_rot (v d ^^^ v a) k)
def kd_g3 (c d : Nat) (v : Nat → Int32) : Nat → Int32 := upd v c (v c + v d)
def kd_G (a b c d : Nat) (x y : Int32) (v : Nat → Int32) : Nat → Int32 :=
  kd_g2 b c 7 (kd_g3 c d (kd_g2 d a 8 (kd_g1 a b y (kd_g2 b c 12 (kd_g3 c d (kd_g2 d a 16 (kd_g1 a b x v)))))))
def kd_round (m : Nat → Int32) (r : Nat) (v : Nat → Int32) : Nat → Int32 :=
  kd_G 3 4 9 14 (m (kd_pl (16 * r + 14))) (m (kd_pl (16 * r + 15))) (kd_G 2 7 8 13 (m (kd_pl (16 * r + 12))) (m (kd_pl (16 * r + 13))) (kd_G 1 6 11 12 (m (kd_pl (16 * r + 10))) (m (kd_pl (16 * r + 11))) (kd_G 0 5 10 15 (m (kd_pl (16 * r + 8))) (m (kd_pl (16 * r + 9))) (kd_G 3 7 11 15 (m (kd_pl (16 * r + 6))) (m (kd_pl (16 * r + 7))) (kd_G 2 6 10 14 (m (kd_pl (16 * r + 4))) (m (kd_pl (16 * r + 5))) (kd_G 1 5 9 13 (m (kd_pl (16 * r + 2))) (m (kd_pl (16 * r + 3))) (kd_G 0 4 8 12 (m (kd_pl (16 * r))) (m (kd_pl (16 * r + 1))) v)))))))
def kd_rounds (m : Nat → Int32) : Nat → (Nat → Int32) → Nat → Int32
  | 0, v => v
  | r + 1, v => kd_round m r (kd_rounds m r v)
def kd_v00 (h : Nat → Int32) : Nat → Int32 := fun j => if j < 8 then h j else kd_iv (j - 8)
def kd_x (v : Nat → Int32) (k : Nat) (w : Int32) : Nat → Int32 := upd v k (v k ^^^ w)
/-- the sixteen words at a block's start: n bytes so far, last: 0 or -1 -/
def kd_v0 (h : Nat → Int32) (n : Int64) (last : Int32) : Nat → Int32 := kd_x (kd_x (kd_x (kd_v00 h) 12 n.toInt32) 13 (kd_lushr n 32).toInt32) 14 last
def kd_fin (h v : Nat → Int32) : Nat → Int32 := fun j => h j ^^^ (v j ^^^ v (j + 8))
def kd_mix (h m : Nat → Int32) (n : Int64) (last : Int32) : Nat → Int32 := kd_fin h (kd_rounds m 10 (kd_v0 h n last))
def kd_0 : Nat → Int32 := fun _ => 0
/-- h, the waiting block, its bytes, all bytes -/
abbrev kd_C : Type := (Nat → Int32) × (Nat → Int32) × Nat × Int64
def kd_put (m : Nat → Int32) (k : Nat) (b : Int32) : Nat → Int32 := upd m (k / 4) (m (k / 4) ||| b <<< ((8 * (nI k &&& 3)) &&& 31))
def kd_add (b : Int32) (u : kd_C) : kd_C :=
  if 64 ≤ u.2.2.1 then (kd_mix u.1 u.2.1 u.2.2.2 0, kd_put kd_0 0 b, 1, u.2.2.2 + 1)
  else (u.1, kd_put u.2.1 u.2.2.1 b, u.2.2.1 + 1, u.2.2.2 + 1)
def kd_adds (f : Nat → Int32) : Nat → kd_C → kd_C
  | 0, u => u
  | n + 1, u => kd_add (f n) (kd_adds f n u)
theorem kd_add_le {b : Int32} {u : kd_C} (h : u.2.2.1 ≤ 64) : (kd_add b u).2.2.1 ≤ 64 := by
  unfold kd_add
  split
  · exact (by decide : 1 ≤ 64)
  · show u.2.2.1 + 1 ≤ 64
    omega
theorem kd_adds_le {f : Nat → Int32} {u : kd_C} (h : u.2.2.1 ≤ 64) : ∀ n, (kd_adds f n u).2.2.1 ≤ 64
  | 0 => h
  | n + 1 => kd_add_le (kd_adds_le h n)
def kd_h0 (nn kk : Int32) : Nat → Int32 := upd kd_iv 0 (kd_iv 0 ^^^ (16842752 + 256 * kk + nn))
theorem kd_two {hh f : Nat → Int32} {i j : Nat} (hf : ∀ j, j < i → f j = hh j ∧ f (j + 8) = kd_iv j) (hj : j < i + 1) (hlt : i < 8) : upd (upd f i (hh i)) (i + 8) (kd_iv i) j = hh j ∧ upd (upd f i (hh i)) (i + 8) (kd_iv i) (j + 8) = kd_iv j := by
  unfold upd
  by_cases h : j = i
  · subst h
    rw [if_neg (by omega), if_pos rfl, if_pos rfl]
    exact ⟨rfl, rfl⟩
  · rw [if_neg (by omega), if_neg h, if_neg (by omega), if_neg (by omega)]
    exact hf j (by omega)
theorem kd_v00_of {hh f : Nat → Int32} {i : Nat} (hf : ∀ j, j < i → f j = hh j ∧ f (j + 8) = kd_iv j) (hge : 8 ≤ i) (j : Nat) (hj : j < 16) : f j = kd_v00 hh j := by
  unfold kd_v00
  by_cases h : j < 8
  · rw [if_pos h]; exact (hf j (by omega)).1
  · rw [if_neg h, ← (hf (j - 8) (by omega)).2, show j - 8 + 8 = j by omega]
theorem kd_finStep {hh mm g : Nat → Int32} {ab : Int64} {lm : Int32} {j : Nat} (hg : ∀ q, g q = if q < j then kd_mix hh mm ab lm q else hh q) : ∀ q, upd g j (g j ^^^ (kd_rounds mm 10 (kd_v0 hh ab lm) j ^^^ kd_rounds mm 10 (kd_v0 hh ab lm) (j + 8))) q = if q < j + 1 then kd_mix hh mm ab lm q else hh q := by
  intro q
  have h0 : g j = hh j := by rw [hg j, if_neg (Nat.lt_irrefl j)]
  unfold upd
  by_cases h : q = j
  · rw [if_pos h, if_pos (by omega), h0, h]
    rfl
  · rw [if_neg h, hg q]
    by_cases h1 : q < j
    · rw [if_pos h1, if_pos (by omega)]
    · rw [if_neg h1, if_neg (by omega)]
theorem kd_shr2 {n : Nat} (h : n < 2 ^ 31) : nI n >>> ((2 : Int32) &&& 31) = nI (n / 4) := pk_shrN h _ 2 (by decide)
end
section
/-! own rows over the kit: one world of int arrays and objects, the tables of the two classes -/
section KD1
variable {p : Program} {l : Launch} {e : Env} {R : Room} {s : State} {m : MethodId} {args : Array Value} {below : List Frame} {meth : Method} {c : Code} {H : Heap} {locs : List Loc} {cells slots : Nat} {Q : State → Prop}
variable {cc : ByteArray} {pc : Nat} {ls : Array Slot} {rest : List Value} {D : va_G} {cl : List vw_C} {A : Nat → Prop} {a : Nat} {tys : List (ClassId × FieldType)} {ws : va_W} {H0 : Heap}
theorem kd_ild (i : Nat) (hexec : p.tables.exec = Jvm.exec) (hb : c.code = cc) (hK : va_K D cl tys s) (hP : va_P D cl ws H) (q0 t0 : Nat) {cA : ClassId} {n : Nat} {f : Nat → Int32} (ha : ws[q0]? = some (a, .inl (cA, n, .inl f))) (ht : tys[t0]? = some (cA, .int)) {x : Int32} (ex : x = nI i) (hi : i < n) (hn : n < 2 ^ 31) (hdg : decode cc pc = .ok (.iaload, 1))
    (kk : W p l e R s m args below meth c H locs cells slots Q (F0 m (pc + 1) ls (.int (f i) :: rest))) : W p l e R s m args below meth c H locs cells slots Q (F0 m pc ls (.int x :: .ref a :: rest)) := by
  subst ex
  refine va_iald hexec hb hK hP q0 t0 ha ht (vp_in_nI hi hn) hdg ?_
  rw [nI_clamp (Nat.lt_trans hi hn)]
  exact kk
theorem kd_ist (i : Nat) (hexec : p.tables.exec = Jvm.exec) (hb : c.code = cc) (hK : va_K D cl tys s) (hP : va_P D cl ws H) (hD : va_D A ws) (hS : va_S A H0 H locs) (q0 t0 : Nat) {cA : ClassId} {n : Nat} {f : Nat → Int32} (ha : ws[q0]? = some (a, .inl (cA, n, .inl f))) (ht : tys[t0]? = some (cA, .int)) {x : Int32} {v : Int32} (ex : x = nI i) (hi : i < n) (hn : n < 2 ^ 31) (hdg : decode cc pc = .ok (.iastore, 1))
    (kk : ∀ (f1 : Nat → Int32), f1 = upd f i v → ∀ (H1 : Heap) (locs1 : List Loc), va_P D cl (ws.set q0 (a, .inl (cA, n, .inl f1))) H1 → va_D A (ws.set q0 (a, .inl (cA, n, .inl f1))) → va_S A H0 H1 locs1 → W p l e R s m args below meth c H1 locs1 cells slots Q (F0 m (pc + 1) ls rest)) : W p l e R s m args below meth c H locs cells slots Q (F0 m pc ls (.int v :: .int x :: .ref a :: rest)) := by
  subst ex
  refine va_iast hexec hb hK hP hD hS q0 t0 ha ht (vp_in_nI hi hn) hdg ?_
  rw [nI_clamp (Nat.lt_trans hi hn)]
  exact kk _ rfl
theorem kd_ti (i : Nat) (hexec : p.tables.exec = Jvm.exec) (hb : c.code = cc) {t N : Nat} {f : Nat → Int32} (hT : va_T .int t N (fun j => .int (f j)) A s s.heap) (hS : va_S A s.heap H locs) {x : Int32} (ex : x = nI i) (hi : i < N) (hn : N < 2 ^ 31) (hdg : decode cc pc = .ok (.iaload, 1))
    (kk : W p l e R s m args below meth c H locs cells slots Q (F0 m (pc + 1) ls (.int (f i) :: rest))) : W p l e R s m args below meth c H locs cells slots Q (F0 m pc ls (.int x :: .ref t :: rest)) := by
  subst ex
  refine va_ti hexec hb hT hS (vp_in_nI hi hn) (v := .int (f i)) ?_ hdg kk
  rw [nI_clamp (Nat.lt_trans hi hn)]
/-- an array's contents, said otherwise -/
theorem kd_arrP {cA : ClassId} {n : Nat} {f : Nat → Int32} (hP : va_P D cl ws H) (hD : va_D A ws) (k : Nat) (ha : ws[k]? = some (a, .inl (cA, n, .inl f))) (g : Nat → Int32) (h : ∀ j, j < n → f j = g j) : va_P D cl (ws.set k (a, .inl (cA, n, .inl g))) H := by
  refine hP.set hD ha ?_ (fun _ _ => rfl)
  have h1 := hP k _ ha
  show H[a]? = some (vp_cell cA (n, .inl g))
  have h3 : (fun j : Fin n => Value.int (g j.val)) = (fun j : Fin n => Value.int (f j.val)) := funext fun j => by rw [h j.val j.isLt]
  have h2 : vp_cell cA (n, .inl g) = vp_cell cA (n, .inl f) := congrArg (fun z : Fin n → Value => ({ cls := cA, slots := Array.ofFn z, vm := .none } : Cell)) h3
  rw [h2]; exact h1
theorem kd_newa {cA : ClassId} (hexec : p.tables.exec = Jvm.exec) (hb : c.code = cc) (harr : (Cond.arrayClass .int).before args s = true) (hK : va_K D cl [(cA, .int)] s) (hP : va_P D cl ws H) (hD : va_D A ws) (hS : va_S A H0 H locs) (hA : ∀ q, H0.size ≤ q → A q)
    {n : Int32} {N : Nat} (hn : ¬ n < 0) (hN : n.toNatClampNeg = N) (hbytes : N * componentBytes .int ≤ 536870912) (hcells : cells + 1 ≤ R.cells) (hslots : slots + N ≤ R.slots) (hdg : decode cc pc = .ok (.newarray .int, 2))
    (kk : ∀ (q : Nat) (H1 : Heap), va_P D cl (ws ++ [(q, .inl (cA, N, .inl (fun _ => 0)))]) H1 → va_D A (ws ++ [(q, .inl (cA, N, .inl (fun _ => 0)))]) → va_S A H0 H1 locs →
      W p l e R s m args below meth c H1 locs (cells + 1) (slots + N) Q (F0 m (pc + 2) ls (.ref q :: rest))) : W p l e R s m args below meth c H locs cells slots Q (F0 m pc ls (.int n :: rest)) := by
  refine va_newa (atype := .int) (ty := .int) (a0 := (N, .inl (fun _ => 0))) hexec hb harr rfl hK hP hD hS hA (fun _ => rfl) hn hN hbytes hcells hslots hdg ?_
  intro q cB H1 hK1 hP1 hD1 hS1
  have e1 := (hK1.2 0 (cA, .int) rfl).2
  have e2 := (hK1.2 1 (cB, .int) rfl).2
  have e3 : cB = cA := Option.some.inj (e2.symm.trans e1)
  subst e3
  exact kk q H1 hP1 hD1 hS1
end KD1
theorem kd_lt {x : Int32} {i n : Nat} (ex : x = nI i) (h1 : i < 2 ^ 31) (h2 : n < 2 ^ 31) (c : ¬ nI n ≤ x) : i < n := by
  subst ex
  exact Nat.not_le.mp fun h => c ((nI_leI h2 h1).mpr h)
theorem kd_ge {x : Int32} {i n : Nat} (ex : x = nI i) (h1 : i < 2 ^ 31) (h2 : n < 2 ^ 31) (c : nI n ≤ x) : n ≤ i := by
  subst ex
  exact (nI_leI h2 h1).mp c
/-- the tables: the class's two static rows -/
def kd_S (tb : Nat → Nat) (A : Nat → Prop) (U : State) (H : Heap) : Prop :=
  va_Z "KeyedDigest$Chain" "IV" "[I" (.ref (tb 0)) A U H ∧ va_T .int (tb 0) 8 (fun j => .int (kd_iv j)) A U H ∧ va_Z "KeyedDigest$Chain" "PLACES" "[I" (.ref (tb 1)) A U H ∧ va_T .int (tb 1) 160 (fun j => .int (kd_PL j)) A U H
theorem kd_S.moved {tb : Nat → Nat} {A : Nat → Prop} {u U : State} {H : Heap} (hvm : u.vm.Alike U.vm) (h : kd_S tb A u H) : kd_S tb A U H := ⟨h.1.moved hvm, h.2.1.moved hvm, h.2.2.1.moved hvm, h.2.2.2.moved hvm⟩
theorem kd_S.kept {tb : Nat → Nat} {A : Nat → Prop} {U : State} {H H1 : Heap} (h : kd_S tb A U H) (hq : ∀ a : Nat, a < H.size → ¬ A a → H1[a]? = H[a]?) : kd_S tb A U H1 := ⟨h.1.kept hq, h.2.1.kept hq, h.2.2.1.kept hq, h.2.2.2.kept hq⟩
theorem kd_S.narrow {tb : Nat → Nat} {A B : Nat → Prop} {U : State} {H : Heap} (h : kd_S tb A U H) (hAB : ∀ q, B q → A q) : kd_S tb B U H := ⟨h.1.narrow hAB, h.2.1.narrow hAB, h.2.2.1.narrow hAB, h.2.2.2.narrow hAB⟩
/-- a method's start, and its end -/
def kd_I (D : va_G) (cA : ClassId) (tb : Nat → Nat) (sz : Nat) (ws : va_W) (U : State) : Prop := U.heap.size = sz ∧ va_P D vwCl ws U.heap ∧ va_K D vwCl [(cA, .int)] U ∧ va_D (fun _ => True) ws ∧ kd_S tb (va_A ws sz) U U.heap
def kd_O (D : va_G) (cA : ClassId) (A : Nat → Prop) (ws : va_W) (t : State) : Prop := va_P D vwCl ws t.heap ∧ va_K D vwCl [(cA, .int)] t ∧ va_D A ws
theorem kd_calling {D : va_G} {cA : ClassId} {tb : Nat → Nat} {sz : Nat} {ws : va_W} {av : List Value} {a : Array Value} {U V : State} (hh : V.heap = U.heap) (hv : V.vm = U.vm) (q : va_Pc av (kd_I D cA tb sz ws) a U) : va_Pc av (kd_I D cA tb sz ws) a V := by
  have hk : U.vm.Alike V.vm := by rw [hv]; exact Vm.Alike.refl _
  exact ⟨q.1, by rw [hh]; exact q.2.1, by rw [hh]; exact q.2.2.1, va_K.moved hk q.2.2.2.1, q.2.2.2.2.1, by rw [hh]; exact q.2.2.2.2.2.moved hk⟩
theorem kd_pre {D : va_G} {cA : ClassId} {tb : Nat → Nat} {A : Nat → Prop} {s : State} {H : Heap} {locs : List Loc} {wc : va_W} (hP : va_P D vwCl wc H) (hK : va_K D vwCl [(cA, .int)] s) (hD : va_D A wc) (hT : kd_S tb A s s.heap) (hS : va_S A s.heap H locs) (hF : ∀ q, va_A wc H.size q → A q) (U : State) (hU : U.heap = H) (hW : s.WarmedH U.vm) : kd_I D cA tb H.size wc U := by
  subst hU
  exact ⟨rfl, hP, va_K.moved hW.alike hK, hD.weaken (fun _ _ _ _ => trivial), ((hT.kept (fun a h1 h2 => hS.2.1 a h1 h2)).moved hW.alike).narrow hF⟩
end
section
def kd_isB (b : Int32) : Int32 := if b < 0 ∨ 255 < b then 0 else 1
def kd_has (st : Int32) : Int32 := if st = 2 ∨ st = 3 then 1 else 0
def kd_set (bad : Prop) [Decidable bad] (key : Nat → Int32) (i b : Int32) : Int32 × (Nat → Int32) := if bad then (0, key) else (1, upd key i.toNatClampNeg b)
theorem kd_ix {x : Int32} {n : Nat} (hn : n < 2 ^ 31) (h0 : ¬ x < 0) (h : ¬ nI n ≤ x) : ∃ j : Nat, j < n ∧ x = nI j := by
  rcases pk_ix x hn with h1 | h1 | h1
  · exact absurd h1 h0
  · exact absurd h1 h
  · exact h1
theorem kd_ln0 (a : Int32) : a = a + nI 0 := by
  rw [nI_0]; exact (Int32.add_zero a).symm
theorem kd_ln1 (a : Int32) (i : Nat) : a + nI i + 1 = a + nI (i + 1) := by
  rw [Int32.add_assoc, nI_1]
/-- byte i of a number, the highest first -/
def kd_hi (w : Int32) (i : Nat) : Int32 := kd_ushr w (24 - 8 * nI i) &&& 255
def kd_byte (a b c d : Int32) (k : Nat) : Int32 := kd_hi (if k < 4 then a else if k < 8 then b else if k < 12 then c else d) (k % 4)
theorem kd_pos1 {x : Int32} (h : ¬ x < 1) : ¬ x < 0 := fun h1 => h (Int32.lt_trans h1 (by decide))
theorem kd_min0 : ∀ n, n < 17 → ∀ i, i < 5 → ((if (4 : Int32) < nI n then 4 else nI n) ≤ nI i ↔ min n 4 ≤ i) := by decide +kernel
theorem kd_min4 : ∀ n, n < 17 → ∀ i, i < 5 → ((if (4 : Int32) < nI n - 4 then 4 else nI n - 4) ≤ nI i ↔ min (n - 4) 4 ≤ i) := by decide +kernel
theorem kd_min8 : ∀ n, n < 17 → ∀ i, i < 5 → ((if (4 : Int32) < nI n - 8 then 4 else nI n - 8) ≤ nI i ↔ min (n - 8) 4 ≤ i) := by decide +kernel
theorem kd_min12 : ∀ n, n < 17 → ∀ i, i < 5 → ((if (4 : Int32) < nI n - 12 then 4 else nI n - 12) ≤ nI i ↔ min (n - 12) 4 ≤ i) := by decide +kernel
theorem kd_le_of {f h m : Nat → Int32} {n k : Nat} {a : Int64} {u : kd_C} (hw : (h, m, k, a) = kd_adds f n u) (hu : u.2.2.1 ≤ 64) : k ≤ 64 := by
  have := kd_adds_le (f := f) hu n
  rw [← hw] at this
  exact this
theorem kd_adds_congr {f g : Nat → Int32} {u : kd_C} : ∀ n, (∀ i, i < n → f i = g i) → kd_adds f n u = kd_adds g n u
  | 0, _ => rfl
  | n + 1, h => by
    show kd_add (f n) (kd_adds f n u) = kd_add (g n) (kd_adds g n u)
    rw [h n (Nat.lt_succ_self n), kd_adds_congr n (fun i hi => h i (Nat.lt_succ_of_lt hi))]
theorem kd_adds_add {f : Nat → Int32} {u : kd_C} (m : Nat) : ∀ n, kd_adds f (m + n) u = kd_adds (fun i => f (m + i)) n (kd_adds f m u)
  | 0 => rfl
  | n + 1 => by
    show kd_add (f (m + n)) (kd_adds f (m + n) u) = kd_add (f (m + n)) _
    rw [kd_adds_add m n]
theorem kd_four (n : Nat) (hn : n ≤ 16) {a b c d : Int32} {u : kd_C} : kd_adds (kd_hi d) (min (n - 12) 4) (kd_adds (kd_hi c) (min (n - 8) 4) (kd_adds (kd_hi b) (min (n - 4) 4) (kd_adds (kd_hi a) (min n 4) u))) = kd_adds (kd_byte a b c d) n u := by
  have e1 : kd_adds (kd_hi a) (min n 4) u = kd_adds (kd_byte a b c d) (min n 4) u := kd_adds_congr _ (fun i hi => by unfold kd_byte; rw [if_pos (by omega), show i % 4 = i by omega])
  have e2 : ∀ v, kd_adds (kd_hi b) (min (n - 4) 4) v = kd_adds (fun i => kd_byte a b c d (4 + i)) (min (n - 4) 4) v := fun v => kd_adds_congr _ (fun i hi => by
    show kd_hi b i = kd_byte a b c d (4 + i)
    unfold kd_byte; rw [if_neg (by omega), if_pos (by omega), show (4 + i) % 4 = i by omega])
  have e3 : ∀ v, kd_adds (kd_hi c) (min (n - 8) 4) v = kd_adds (fun i => kd_byte a b c d (8 + i)) (min (n - 8) 4) v := fun v => kd_adds_congr _ (fun i hi => by
    show kd_hi c i = kd_byte a b c d (8 + i)
    unfold kd_byte; rw [if_neg (by omega), if_neg (by omega), if_pos (by omega), show (8 + i) % 4 = i by omega])
  have e4 : ∀ v, kd_adds (kd_hi d) (min (n - 12) 4) v = kd_adds (fun i => kd_byte a b c d (12 + i)) (min (n - 12) 4) v := fun v => kd_adds_congr _ (fun i hi => by
    show kd_hi d i = kd_byte a b c d (12 + i)
    unfold kd_byte; rw [if_neg (by omega), if_neg (by omega), if_neg (by omega), show (12 + i) % 4 = i by omega])
  rw [e1, e2, e3, e4]
  by_cases h4 : n ≤ 4
  · rw [show min n 4 = n by omega, show min (n - 4) 4 = 0 by omega, show min (n - 8) 4 = 0 by omega, show min (n - 12) 4 = 0 by omega]
    rfl
  · rw [show min n 4 = 4 by omega, ← kd_adds_add 4]
    by_cases h8 : n ≤ 8
    · rw [show 4 + min (n - 4) 4 = n by omega, show min (n - 8) 4 = 0 by omega, show min (n - 12) 4 = 0 by omega]
      rfl
    · rw [show 4 + min (n - 4) 4 = 8 by omega, ← kd_adds_add 8]
      by_cases h12 : n ≤ 12
      · rw [show 8 + min (n - 8) 4 = n by omega, show min (n - 12) 4 = 0 by omega]
        rfl
      · rw [show 8 + min (n - 8) 4 = 12 by omega, ← kd_adds_add 12, show 12 + min (n - 12) 4 = n by omega]
theorem kd_lens (a : Int32) (n : Nat) : n ≤ 16 → a + nI (min n 4) + nI (min (n - 4) 4) + nI (min (n - 8) 4) + nI (min (n - 12) 4) = a + nI n := fun h => by
  rw [Int32.add_assoc, Int32.add_assoc, Int32.add_assoc, nI_add, nI_add, nI_add, show min n 4 + (min (n - 4) 4 + (min (n - 8) 4 + min (n - 12) 4)) = n by omega]
/-- the class's block at a message's start -/
def kd_open (key : Nat → Int32) (a k : Int32) : kd_C := if k ≤ 0 then (kd_h0 a k, kd_0, 0, 0) else ((kd_adds key k.toNatClampNeg (kd_h0 a k, kd_0, 0, 0)).1, (kd_adds key k.toNatClampNeg (kd_h0 a k, kd_0, 0, 0)).2.1, 64, 64)
end
section
set_option maxHeartbeats 4000000 in
set_option maxRecDepth 100000 in
theorem cX0_turnDown_ok (l : Launch) (dC : Nat → ClassId) (dI : Nat → Nat → Nat) (cA : ClassId) (tb : Nat → Nat) (sz : Nat) (w : Int32) (k : Int32) : Met l yX0_turnDown wsX0_turnDown ({ frames := 0, cells := 0, slots := 0, locals := 0 }) (va_Pc [.int w, .int k] (kd_I (dC, dI) cA tb sz [])) (va_Qi (fun (r : Int32) (u : Unit) => r = kd_rot w k) (fun u t => kd_O (dC, dI) cA (va_A [] sz) [] t) (va_A [] sz)) 0 0 (va_A [] sz) := by
  refine Met.ofW (cc := cX0_turnDown) (maxL := 2) (ret := (some .int)) (by decide) rfl ?_
  intro p e s m args below meth c s₁ B hml hv
  obtain ⟨rfl, hsz, hP, hK, hD0, hT⟩ := hv
  have hx := B.exec
  have hb := B.bytes
  have hr := B.returns
  have hts := atoms_spec (ws := wsX0_turnDown) B.pre
  have hown : s.vm.findClass RX0 = some m.cls := findClass_of_methodNamed B.named
  have hlocks := B.notSynchronized
  subst hsz
  have hD := hD0.self (sz := s.heap.size)
  generalize hAe : va_A [] s.heap.size = A at hD hT ⊢
  have hA : ∀ q : Nat, s.heap.size ≤ q → A q := fun q h => by rw [← hAe]; exact Or.inr h
  have hS : va_S A s.heap s.heap [] := va_S.rf
  have hP : va_P (dC, dI) vwCl [] s.heap := hP
  have hl := lv_entry ([.int w, .int k]) (n := 2) (Nat.le_of_ble_eq_true rfl)
  rw [lg_entry_eq]
  generalize (lg_sl ([.int w, .int k]) ++ List.replicate (2 - (lg_sl ([.int w, .int k])).length) Slot.unset).toArray = ls at hl ⊢
  have hl : lv_has ls 2 [(0, .int w), (1, .int k)] := hl
  refine lv_iload_n hx hb dX0_turnDown_0 rfl (lv_at hl 0 rfl) ?_
  refine lv_iload_n hx hb dX0_turnDown_1 rfl (lv_at hl 1 rfl) ?_
  refine lv_iushr (v := kd_ushr w k) hx hb dX0_turnDown_2 rfl ?_
  refine lv_iload_n hx hb dX0_turnDown_3 rfl (lv_at hl 0 rfl) ?_
  refine lv_bipush (v := 32) hx hb dX0_turnDown_4 (by decide) ?_
  refine lv_iload_n hx hb dX0_turnDown_6 rfl (lv_at hl 1 rfl) ?_
  refine lv_isub hx hb dX0_turnDown_7 ?_
  refine lv_ishl hx hb dX0_turnDown_8 ?_
  refine lv_ior hx hb dX0_turnDown_9 ?_
  have hP9 := hP.sub (ws' := []) [] rfl
  have hD9 := hD.sub (ws' := []) [] (by decide) rfl
  exact W.iret (v := (kd_ushr w k) ||| (w <<< ((32 - k) &&& 31))) hx hb hr (fun t ht hW => ⟨⟨(kd_ushr w k) ||| (w <<< ((32 - k) &&& 31)), (), rfl, rfl, by rw [ht]; exact hP9, va_K.moved hW.alike hK, hD9⟩, hS.F ht⟩) hS.2.2 dX0_turnDown_10

set_option maxHeartbeats 4000000 in
set_option maxRecDepth 100000 in
theorem cX0_emptyBlock_ok (l : Launch) (dC : Nat → ClassId) (dI : Nat → Nat → Nat) (cA : ClassId) (tb : Nat → Nat) (sz : Nat) (h0 : Nat) (qh : Nat) (qm : Nat) (qv : Nat) (mm : Nat → Int32) (bb : Int32) (ab : Int64) : Met l yX0_emptyBlock wsX0_emptyBlock ({ frames := 0, cells := 0, slots := 0, locals := 0 }) (va_Pc [.ref h0] (kd_I (dC, dI) cA tb sz [(h0, .inr (0, [.ref qh, .ref qm, .ref qv, .int bb, .long ab])), (qm, .inl (cA, 16, .inl mm))])) (va_Qv (fun (u : Unit) => True) (fun u t => kd_O (dC, dI) cA (va_A [(h0, .inr (0, [.ref qh, .ref qm, .ref qv, .int bb, .long ab])), (qm, .inl (cA, 16, .inl mm))] sz) [(h0, .inr (0, [.ref qh, .ref qm, .ref qv, .int (nI 0), .long ab])), (qm, .inl (cA, 16, .inl kd_0))] t) (va_A [(h0, .inr (0, [.ref qh, .ref qm, .ref qv, .int bb, .long ab])), (qm, .inl (cA, 16, .inl mm))] sz)) 0 0 (va_A [(h0, .inr (0, [.ref qh, .ref qm, .ref qv, .int bb, .long ab])), (qm, .inl (cA, 16, .inl mm))] sz) := by
  refine Met.ofW (cc := cX0_emptyBlock) (maxL := 2) (ret := none) (by decide) rfl ?_
  intro p e s m args below meth c s₁ B hml hv
  obtain ⟨rfl, hsz, hP, hK, hD0, hT⟩ := hv
  have hx := B.exec
  have hb := B.bytes
  have hr := B.returns
  have hts := atoms_spec (ws := wsX0_emptyBlock) B.pre
  have hown : s.vm.findClass RX0 = some m.cls := findClass_of_methodNamed B.named
  have hlocks := B.notSynchronized
  have ki0 : ∀ w ∈ u_ws RX0 TX0 5, w ∈ wsX0_emptyBlock := by decide +kernel
  have k1 := hts (.fieldLink RX0 19 "KeyedDigest$Chain" "blockBytes" "I") (by decide +kernel)
  have k2 := hts (.fieldLink RX0 13 "KeyedDigest$Chain" "m" "[I") (by decide +kernel)
  subst hsz
  have hD := hD0.self (sz := s.heap.size)
  generalize hAe : va_A [(h0, .inr (0, [.ref qh, .ref qm, .ref qv, .int bb, .long ab])), (qm, .inl (cA, 16, .inl mm))] s.heap.size = A at hD hT ⊢
  have hA : ∀ q : Nat, s.heap.size ≤ q → A q := fun q h => by rw [← hAe]; exact Or.inr h
  have hS : va_S A s.heap s.heap [] := va_S.rf
  have hP : va_P (dC, dI) vwCl [(h0, .inr (0, [.ref qh, .ref qm, .ref qv, .int bb, .long ab])), (qm, .inl (cA, 16, .inl mm))] s.heap := hP
  have hl := lv_entry ([.ref h0]) (n := 2) (Nat.le_of_ble_eq_true rfl)
  rw [lg_entry_eq]
  generalize (lg_sl ([.ref h0]) ++ List.replicate (2 - (lg_sl ([.ref h0])).length) Slot.unset).toArray = ls at hl ⊢
  have hl : lv_has ls 2 [(0, .ref h0)] := hl
  refine lv_iconst (v := 0) hx hb dX0_emptyBlock_0 (by decide) ?_
  refine lv_istore_n (lv' := [(1, .int 0), (0, .ref h0)]) hx hb dX0_emptyBlock_1 rfl hl (by decide) rfl (fun ls hl => ?_)
  have lp : ∀ (k : Nat) (i : Nat) (x : Int32) (f : Nat → Int32), (i ≤ 16) → (16 - i < k) → (x = nI i) → (∀ j, j < i → f j = 0) → ∀ (H : Heap) (locs : List Loc) (ls : Array Slot), va_P (dC, dI) vwCl [(h0, .inr (0, [.ref qh, .ref qm, .ref qv, .int bb, .long ab])), (qm, .inl (cA, 16, .inl f))] H → va_D A [(h0, .inr (0, [.ref qh, .ref qm, .ref qv, .int bb, .long ab])), (qm, .inl (cA, 16, .inl f))] → va_S A s.heap H locs → lv_has ls 2 [(1, .int x), (0, .ref h0)] → W p l e (headSpec wsX0_emptyBlock { frames := 0, cells := 0, slots := 0, locals := 0 }).room s m ([.ref h0]).toArray below meth c H locs 0 0 (MQ below (va_Qv (fun (u : Unit) => True) (fun u t => kd_O (dC, dI) cA A [(h0, .inr (0, [.ref qh, .ref qm, .ref qv, .int (nI 0), .long ab])), (qm, .inl (cA, 16, .inl kd_0))] t) A) ([.ref h0]).toArray s 0 0 A) (F0 m 2 ls []) := by
    intro k
    induction k with
    | zero =>
      intro i x f hi hk ex hf
      omega
    | succ k ih =>
      intro i x f hi hk ex hf H locs ls hP hD hS hl
      refine lv_iload_n hx hb dX0_emptyBlock_2 rfl (lv_at hl 0 rfl) ?_
      refine lv_bipush (v := 16) hx hb dX0_emptyBlock_3 (by decide) ?_
      refine lv_icmp_ge (tgt := 21) hx hb dX0_emptyBlock_5 (by decide) (fun c5 => ?_) (fun c5 => ?_)
      · have hge : 16 ≤ i := kd_ge (n := 16) ex (by omega) (by decide) c5
        have hP := kd_arrP hP hD 1 rfl kd_0 (fun j hj => hf j (by omega))
        have hD := hD.set (p := 1) (e := .inl (cA, 16, .inl kd_0)) rfl
        have hP : va_P (dC, dI) vwCl [(h0, .inr (0, [.ref qh, .ref qm, .ref qv, .int bb, .long ab])), (qm, .inl (cA, 16, .inl kd_0))] H := hP
        have hD : va_D A [(h0, .inr (0, [.ref qh, .ref qm, .ref qv, .int bb, .long ab])), (qm, .inl (cA, 16, .inl kd_0))] := hD
        refine lv_aload_n hx hb dX0_emptyBlock_21 rfl (lv_at hl 1 rfl) ?_
        refine lv_iconst (v := 0) hx hb dX0_emptyBlock_22 (by decide) ?_
        refine va_put (D := (dC, dI)) (ci := 0) (v := .int 0) (ty := .int) (C := RX0) (T := TX0) (N := 5) hx hb hts ki0 tyX0 tyX0_ok nmX0 hown hK hP hD hS 0 rfl rfl 3 (by decide) k1 (fun _ h9 => h9) rfl (by decide +kernel) rfl rfl (Nat.le_of_ble_eq_true rfl) dX0_emptyBlock_23 (fun H locs hP hD hS => ?_)
        have hP : va_P (dC, dI) vwCl [(h0, .inr (0, [.ref qh, .ref qm, .ref qv, .int 0, .long ab])), (qm, .inl (cA, 16, .inl kd_0))] H := hP
        have hD : va_D A [(h0, .inr (0, [.ref qh, .ref qm, .ref qv, .int 0, .long ab])), (qm, .inl (cA, 16, .inl kd_0))] := hD
        have hP9 := hP.sub (ws' := [(h0, .inr (0, [.ref qh, .ref qm, .ref qv, .int (nI 0), .long ab])), (qm, .inl (cA, 16, .inl kd_0))]) [0, 1] rfl
        have hD9 := hD.sub (ws' := [(h0, .inr (0, [.ref qh, .ref qm, .ref qv, .int (nI 0), .long ab])), (qm, .inl (cA, 16, .inl kd_0))]) [0, 1] (by decide) rfl
        exact W.vret hx hb hr (fun t ht hW => ⟨⟨(), rfl, trivial, by rw [ht]; exact hP9, va_K.moved hW.alike hK, hD9⟩, hS.F ht⟩) hS.2.2 dX0_emptyBlock_26
      · have hlt : i < 16 := kd_lt (n := 16) ex (by omega) (by decide) c5
        refine lv_aload_n hx hb dX0_emptyBlock_8 rfl (lv_at hl 1 rfl) ?_
        refine va_get (D := (dC, dI)) (ci := 0) (v := .ref qm) (C := RX0) (T := TX0) (N := 5) hx hb hts ki0 hown hK hP 0 rfl rfl 1 (by decide) k2 (fun _ h9 => h9) rfl dX0_emptyBlock_9 ?_
        refine lv_iload_n hx hb dX0_emptyBlock_12 rfl (lv_at hl 0 rfl) ?_
        refine lv_iconst (v := 0) hx hb dX0_emptyBlock_13 (by decide) ?_
        refine kd_ist i hx hb hK hP hD hS 1 0 rfl rfl ex hlt (by decide) dX0_emptyBlock_14 (fun f14 ef14 H locs hP hD hS => ?_)
        have hP : va_P (dC, dI) vwCl [(h0, .inr (0, [.ref qh, .ref qm, .ref qv, .int bb, .long ab])), (qm, .inl (cA, 16, .inl f14))] H := hP
        have hD : va_D A [(h0, .inr (0, [.ref qh, .ref qm, .ref qv, .int bb, .long ab])), (qm, .inl (cA, 16, .inl f14))] := hD
        obtain ⟨x15, ex15⟩ : ∃ zz : Int32, zz = x + 1 := ⟨_, rfl⟩
        refine lv_iinc (v := x15) (lv' := [(1, .int x15), (0, .ref h0)]) hx hb dX0_emptyBlock_15 hl (k := 0) rfl (by rw [ex15]; rfl) (by decide) rfl (fun ls hl => ?_)
        refine lv_goto (tgt := 2) hx hb dX0_emptyBlock_18 (by decide) ?_
        exact ih  (i + 1) x15 f14 (by omega) (by omega) (by rw [ex15, ex]; exact nI_1 i) (fun j hj => by rw [ef14]; unfold upd; split; rfl; exact hf j (by omega)) _ _ ls (hP.sub [0, 1] rfl) (hD.sub [0, 1] (by decide) rfl) hS (lv_sub hl [0, 1] rfl)
  exact lp 17 0 0 mm (by omega) (by omega) rfl (fun j hj => absurd hj (Nat.not_lt_zero j)) _ _ ls (hP.sub [0, 1] rfl) (hD.sub [0, 1] (by decide) rfl) hS (lv_sub hl [0, 1] rfl)

set_option maxHeartbeats 4000000 in
set_option maxRecDepth 100000 in
theorem cX0_begin_ok (l : Launch) (dC : Nat → ClassId) (dI : Nat → Nat → Nat) (cA : ClassId) (tb : Nat → Nat) (sz : Nat) (h0 : Nat) (qh : Nat) (qm : Nat) (qv : Nat) (hh : Nat → Int32) (mm : Nat → Int32) (bb : Int32) (ab : Int64) (nn : Int32) (kk : Int32) : Met l yX0_begin wsX0_begin ({ frames := 1, cells := 0, slots := 0, locals := 21 }) (va_Pc [.ref h0, .int nn, .int kk] (kd_I (dC, dI) cA tb sz [(h0, .inr (0, [.ref qh, .ref qm, .ref qv, .int bb, .long ab])), (qh, .inl (cA, 8, .inl hh)), (qm, .inl (cA, 16, .inl mm))])) (va_Qv (fun (u : Unit) => True) (fun u t => kd_O (dC, dI) cA (va_A [(h0, .inr (0, [.ref qh, .ref qm, .ref qv, .int bb, .long ab])), (qh, .inl (cA, 8, .inl hh)), (qm, .inl (cA, 16, .inl mm))] sz) [(h0, .inr (0, [.ref qh, .ref qm, .ref qv, .int (nI 0), .long 0])), (qh, .inl (cA, 8, .inl (kd_h0 nn kk))), (qm, .inl (cA, 16, .inl kd_0))] t) (va_A [(h0, .inr (0, [.ref qh, .ref qm, .ref qv, .int bb, .long ab])), (qh, .inl (cA, 8, .inl hh)), (qm, .inl (cA, 16, .inl mm))] sz)) 0 0 (va_A [(h0, .inr (0, [.ref qh, .ref qm, .ref qv, .int bb, .long ab])), (qh, .inl (cA, 8, .inl hh)), (qm, .inl (cA, 16, .inl mm))] sz) := by
  refine Met.ofW (cc := cX0_begin) (maxL := 4) (ret := none) (by decide) rfl ?_
  intro p e s m args below meth c s₁ B hml hv
  obtain ⟨rfl, hsz, hP, hK, hD0, hT⟩ := hv
  have hx := B.exec
  have hb := B.bytes
  have hr := B.returns
  have hts := atoms_spec (ws := wsX0_begin) B.pre
  have hown : s.vm.findClass RX0 = some m.cls := findClass_of_methodNamed B.named
  have hlocks := B.notSynchronized
  have ki0 : ∀ w ∈ u_ws RX0 TX0 5, w ∈ wsX0_begin := by decide +kernel
  have k1 := hts (.fieldLink RX0 9 "KeyedDigest$Chain" "h" "[I") (by decide +kernel)
  have k2 := hts (.constant RX0 30 16842752) (by decide +kernel)
  have k3 := hts (.fieldLink RX0 23 "KeyedDigest$Chain" "allBytes" "J") (by decide +kernel)
  have k4 := hts (.fieldLink RX0 27 "KeyedDigest$Chain" "IV" "[I") (by decide +kernel)
  subst hsz
  have hD := hD0.self (sz := s.heap.size)
  generalize hAe : va_A [(h0, .inr (0, [.ref qh, .ref qm, .ref qv, .int bb, .long ab])), (qh, .inl (cA, 8, .inl hh)), (qm, .inl (cA, 16, .inl mm))] s.heap.size = A at hD hT ⊢
  have hA : ∀ q : Nat, s.heap.size ≤ q → A q := fun q h => by rw [← hAe]; exact Or.inr h
  have hS : va_S A s.heap s.heap [] := va_S.rf
  have hP : va_P (dC, dI) vwCl [(h0, .inr (0, [.ref qh, .ref qm, .ref qv, .int bb, .long ab])), (qh, .inl (cA, 8, .inl hh)), (qm, .inl (cA, 16, .inl mm))] s.heap := hP
  have hl := lv_entry ([.ref h0, .int nn, .int kk]) (n := 4) (Nat.le_of_ble_eq_true rfl)
  rw [lg_entry_eq]
  generalize (lg_sl ([.ref h0, .int nn, .int kk]) ++ List.replicate (4 - (lg_sl ([.ref h0, .int nn, .int kk])).length) Slot.unset).toArray = ls at hl ⊢
  have hl : lv_has ls 4 [(0, .ref h0), (1, .int nn), (2, .int kk)] := hl
  refine lv_iconst (v := 0) hx hb dX0_begin_0 (by decide) ?_
  refine lv_istore_n (lv' := [(3, .int 0), (0, .ref h0), (1, .int nn), (2, .int kk)]) hx hb dX0_begin_1 rfl hl (by decide) rfl (fun ls hl => ?_)
  have lp : ∀ (k : Nat) (i : Nat) (x : Int32) (f : Nat → Int32), (i ≤ 8) → (8 - i < k) → (x = nI i) → (∀ j, j < i → f j = kd_iv j) → ∀ (H : Heap) (locs : List Loc) (ls : Array Slot), va_P (dC, dI) vwCl [(h0, .inr (0, [.ref qh, .ref qm, .ref qv, .int bb, .long ab])), (qh, .inl (cA, 8, .inl f)), (qm, .inl (cA, 16, .inl mm))] H → va_D A [(h0, .inr (0, [.ref qh, .ref qm, .ref qv, .int bb, .long ab])), (qh, .inl (cA, 8, .inl f)), (qm, .inl (cA, 16, .inl mm))] → va_S A s.heap H locs → lv_has ls 4 [(3, .int x), (0, .ref h0), (1, .int nn), (2, .int kk)] → W p l e (headSpec wsX0_begin { frames := 1, cells := 0, slots := 0, locals := 21 }).room s m ([.ref h0, .int nn, .int kk]).toArray below meth c H locs 0 0 (MQ below (va_Qv (fun (u : Unit) => True) (fun u t => kd_O (dC, dI) cA A [(h0, .inr (0, [.ref qh, .ref qm, .ref qv, .int (nI 0), .long 0])), (qh, .inl (cA, 8, .inl (kd_h0 nn kk))), (qm, .inl (cA, 16, .inl kd_0))] t) A) ([.ref h0, .int nn, .int kk]).toArray s 0 0 A) (F0 m 2 ls []) := by
    intro k
    induction k with
    | zero =>
      intro i x f hi hk ex hf
      omega
    | succ k ih =>
      intro i x f hi hk ex hf H locs ls hP hD hS hl
      refine lv_iload_n hx hb dX0_begin_2 rfl (lv_at hl 0 rfl) ?_
      refine lv_bipush (v := 8) hx hb dX0_begin_3 (by decide) ?_
      refine lv_icmp_ge (tgt := 25) hx hb dX0_begin_5 (by decide) (fun c5 => ?_) (fun c5 => ?_)
      · have hge : 8 ≤ i := kd_ge (n := 8) ex (by omega) (by decide) c5
        have hP := kd_arrP hP hD 1 rfl kd_iv (fun j hj => hf j (by omega))
        have hD := hD.set (p := 1) (e := .inl (cA, 8, .inl kd_iv)) rfl
        have hP : va_P (dC, dI) vwCl [(h0, .inr (0, [.ref qh, .ref qm, .ref qv, .int bb, .long ab])), (qh, .inl (cA, 8, .inl kd_iv)), (qm, .inl (cA, 16, .inl mm))] H := hP
        have hD : va_D A [(h0, .inr (0, [.ref qh, .ref qm, .ref qv, .int bb, .long ab])), (qh, .inl (cA, 8, .inl kd_iv)), (qm, .inl (cA, 16, .inl mm))] := hD
        refine lv_aload_n hx hb dX0_begin_25 rfl (lv_at hl 1 rfl) ?_
        refine va_get (D := (dC, dI)) (ci := 0) (v := .ref qh) (C := RX0) (T := TX0) (N := 5) hx hb hts ki0 hown hK hP 0 rfl rfl 0 (by decide) k1 (fun _ h9 => h9) rfl dX0_begin_26 ?_
        refine lv_iconst (v := 0) hx hb dX0_begin_29 (by decide) ?_
        refine lv_dup2_11 hx hb dX0_begin_30 rfl rfl ?_
        refine kd_ild 0 hx hb hK hP 1 0 rfl rfl rfl (by decide) (by decide) dX0_begin_31 ?_
        refine lv_ldc (v := 16842752) hx hb hown k2 dX0_begin_32 ?_
        refine lv_sipush (v := 256) hx hb dX0_begin_34 (by decide) ?_
        refine lv_iload_n hx hb dX0_begin_37 rfl (lv_at hl 3 rfl) ?_
        refine lv_imul hx hb dX0_begin_38 ?_
        refine lv_iadd hx hb dX0_begin_39 ?_
        refine lv_iload_n hx hb dX0_begin_40 rfl (lv_at hl 2 rfl) ?_
        refine lv_iadd hx hb dX0_begin_41 ?_
        refine lv_ixor hx hb dX0_begin_42 ?_
        refine lv_topi (fun x43 ex43 => ?_)
        refine kd_ist 0 hx hb hK hP hD hS 1 0 rfl rfl rfl (by decide) (by decide) dX0_begin_43 (fun f43 ef43 H locs hP hD hS => ?_)
        have hP : va_P (dC, dI) vwCl [(h0, .inr (0, [.ref qh, .ref qm, .ref qv, .int bb, .long ab])), (qh, .inl (cA, 8, .inl f43)), (qm, .inl (cA, 16, .inl mm))] H := hP
        have hD : va_D A [(h0, .inr (0, [.ref qh, .ref qm, .ref qv, .int bb, .long ab])), (qh, .inl (cA, 8, .inl f43)), (qm, .inl (cA, 16, .inl mm))] := hD
        obtain rfl : f43 = kd_h0 nn kk := by rw [ef43, ex43]; rfl
        have hP : va_P (dC, dI) vwCl [(h0, .inr (0, [.ref qh, .ref qm, .ref qv, .int bb, .long ab])), (qh, .inl (cA, 8, .inl (kd_h0 nn kk))), (qm, .inl (cA, 16, .inl mm))] H := hP
        have hD : va_D A [(h0, .inr (0, [.ref qh, .ref qm, .ref qv, .int bb, .long ab])), (qh, .inl (cA, 8, .inl (kd_h0 nn kk))), (qm, .inl (cA, 16, .inl mm))] := hD
        refine lv_aload_n hx hb dX0_begin_44 rfl (lv_at hl 1 rfl) ?_
        refine lv_lconst (v := 0) hx hb dX0_begin_45 (by decide) ?_
        refine va_put (D := (dC, dI)) (ci := 0) (v := .long 0) (ty := .long) (C := RX0) (T := TX0) (N := 5) hx hb hts ki0 tyX0 tyX0_ok nmX0 hown hK hP hD hS 0 rfl rfl 4 (by decide) k3 (fun _ h9 => h9) rfl (by decide +kernel) rfl rfl (Nat.le_of_ble_eq_true rfl) dX0_begin_46 (fun H locs hP hD hS => ?_)
        have hP : va_P (dC, dI) vwCl [(h0, .inr (0, [.ref qh, .ref qm, .ref qv, .int bb, .long 0])), (qh, .inl (cA, 8, .inl (kd_h0 nn kk))), (qm, .inl (cA, 16, .inl mm))] H := hP
        have hD : va_D A [(h0, .inr (0, [.ref qh, .ref qm, .ref qv, .int bb, .long 0])), (qh, .inl (cA, 8, .inl (kd_h0 nn kk))), (qm, .inl (cA, 16, .inl mm))] := hD
        refine lv_aload_n hx hb dX0_begin_49 rfl (lv_at hl 1 rfl) ?_
        have hPc := hP.sub (ws' := [(h0, .inr (0, [.ref qh, .ref qm, .ref qv, .int bb, .long 0])), (qm, .inl (cA, 16, .inl mm))]) [0, 2] rfl
        have hDc := hD.sub (ws' := [(h0, .inr (0, [.ref qh, .ref qm, .ref qv, .int bb, .long 0])), (qm, .inl (cA, 16, .inl mm))]) [0, 2] (by decide) rfl
        have hFc := va_free (wc := [(h0, .inr (0, [.ref qh, .ref qm, .ref qv, .int bb, .long 0])), (qm, .inl (cA, 16, .inl mm))]) hD hS hA [0, 2] rfl
        refine va_callv (va_runV (As := []) (rest := []) ⟨hx, hb, hml, hown, hts⟩ (cX0_emptyBlock_ok l dC dI cA tb H.size h0 qh qm qv mm bb 0 ) (cwV 0 hts gX0_begin_X0_emptyBlock rfl rfl rfl (by decide +kernel) ⟨Nat.le_of_ble_eq_true rfl, Nat.le_of_ble_eq_true rfl⟩) ⟨fun a U g mk q => kd_calling rfl rfl q, va_recv hK hPc (ci := 0) (q0 := 0) rfl rfl, fun U hU hW => ⟨rfl, kd_pre hPc hK hDc hT hS hFc U hU hW⟩⟩ rfl rfl hl.1 rfl (lv_room (Nat.le_of_ble_eq_true rfl)) dX0_begin_50 ⟨Nat.le_of_ble_eq_true rfl, Nat.le_of_ble_eq_true rfl⟩) hS (fun q _ h => hFc q h) hFc (fun u t H1 locs ht hvm hw hB hz1 hk1 hS => ?_)
        have hw50 : True := hw
        have hP1 : va_P (dC, dI) vwCl [(h0, .inr (0, [.ref qh, .ref qm, .ref qv, .int (nI 0), .long 0])), (qm, .inl (cA, 16, .inl kd_0))] H1 := by rw [← ht]; exact hB.1
        have hD1 : va_D (va_A [(h0, .inr (0, [.ref qh, .ref qm, .ref qv, .int bb, .long 0])), (qm, .inl (cA, 16, .inl mm))] H.size) [(h0, .inr (0, [.ref qh, .ref qm, .ref qv, .int (nI 0), .long 0])), (qm, .inl (cA, 16, .inl kd_0))] := hB.2.2
        obtain ⟨hP, hD⟩ := va_join (wr := [(qh, .inl (cA, 8, .inl (kd_h0 nn kk)))]) (w1 := [(h0, .inr (0, [.ref qh, .ref qm, .ref qv, .int (nI 0), .long 0])), (qm, .inl (cA, 16, .inl kd_0))]) hP hD [0, 2] [1] rfl rfl (by decide) (by decide) hk1 hFc hP1 hD1
        clear hw hB hk1 hPc hDc hFc hP1 hD1 hvm hz1
        generalize H1 = H at hP hS ⊢
        have hP : va_P (dC, dI) vwCl [(qh, .inl (cA, 8, .inl (kd_h0 nn kk))), (h0, .inr (0, [.ref qh, .ref qm, .ref qv, .int (nI 0), .long 0])), (qm, .inl (cA, 16, .inl kd_0))] H := hP
        have hD : va_D A [(qh, .inl (cA, 8, .inl (kd_h0 nn kk))), (h0, .inr (0, [.ref qh, .ref qm, .ref qv, .int (nI 0), .long 0])), (qm, .inl (cA, 16, .inl kd_0))] := hD
        have hP9 := hP.sub (ws' := [(h0, .inr (0, [.ref qh, .ref qm, .ref qv, .int (nI 0), .long 0])), (qh, .inl (cA, 8, .inl (kd_h0 nn kk))), (qm, .inl (cA, 16, .inl kd_0))]) [1, 0, 2] rfl
        have hD9 := hD.sub (ws' := [(h0, .inr (0, [.ref qh, .ref qm, .ref qv, .int (nI 0), .long 0])), (qh, .inl (cA, 8, .inl (kd_h0 nn kk))), (qm, .inl (cA, 16, .inl kd_0))]) [1, 0, 2] (by decide) rfl
        exact W.vret hx hb hr (fun t ht hW => ⟨⟨(), rfl, trivial, by rw [ht]; exact hP9, va_K.moved hW.alike hK, hD9⟩, hS.F ht⟩) hS.2.2 dX0_begin_53
      · have hlt : i < 8 := kd_lt (n := 8) ex (by omega) (by decide) c5
        refine lv_aload_n hx hb dX0_begin_8 rfl (lv_at hl 1 rfl) ?_
        refine va_get (D := (dC, dI)) (ci := 0) (v := .ref qh) (C := RX0) (T := TX0) (N := 5) hx hb hts ki0 hown hK hP 0 rfl rfl 0 (by decide) k1 (fun _ h9 => h9) rfl dX0_begin_9 ?_
        refine lv_iload_n hx hb dX0_begin_12 rfl (lv_at hl 0 rfl) ?_
        refine va_gets hx hb hT.1 hS hown k4 (fun _ h9 => h9) dX0_begin_13 ?_
        refine lv_iload_n hx hb dX0_begin_16 rfl (lv_at hl 0 rfl) ?_
        refine kd_ti i hx hb hT.2.1 hS ex hlt (by decide) dX0_begin_17 ?_
        refine lv_topi (fun x18 ex18 => ?_)
        refine kd_ist i hx hb hK hP hD hS 1 0 rfl rfl ex hlt (by decide) dX0_begin_18 (fun f18 ef18 H locs hP hD hS => ?_)
        have hP : va_P (dC, dI) vwCl [(h0, .inr (0, [.ref qh, .ref qm, .ref qv, .int bb, .long ab])), (qh, .inl (cA, 8, .inl f18)), (qm, .inl (cA, 16, .inl mm))] H := hP
        have hD : va_D A [(h0, .inr (0, [.ref qh, .ref qm, .ref qv, .int bb, .long ab])), (qh, .inl (cA, 8, .inl f18)), (qm, .inl (cA, 16, .inl mm))] := hD
        obtain ⟨x19, ex19⟩ : ∃ zz : Int32, zz = x + 1 := ⟨_, rfl⟩
        refine lv_iinc (v := x19) (lv' := [(3, .int x19), (0, .ref h0), (1, .int nn), (2, .int kk)]) hx hb dX0_begin_19 hl (k := 0) rfl (by rw [ex19]; rfl) (by decide) rfl (fun ls hl => ?_)
        refine lv_goto (tgt := 2) hx hb dX0_begin_22 (by decide) ?_
        exact ih  (i + 1) x19 f18 (by omega) (by omega) (by rw [ex19, ex]; exact nI_1 i) (fun j hj => by rw [ef18]; unfold upd; split; (subst j; exact ex18); exact hf j (by omega)) _ _ ls (hP.sub [0, 1, 2] rfl) (hD.sub [0, 1, 2] (by decide) rfl) hS (lv_sub hl [0, 1, 2, 3] rfl)
  exact lp 9 0 0 hh (by omega) (by omega) rfl (fun j hj => absurd hj (Nat.not_lt_zero j)) _ _ ls (hP.sub [0, 1, 2] rfl) (hD.sub [0, 1, 2] (by decide) rfl) hS (lv_sub hl [0, 1, 2, 3] rfl)

set_option maxHeartbeats 4000000 in
set_option maxRecDepth 100000 in
theorem cX0_mixFour_ok (l : Launch) (dC : Nat → ClassId) (dI : Nat → Nat → Nat) (cA : ClassId) (tb : Nat → Nat) (sz : Nat) (h0 : Nat) (qh : Nat) (qm : Nat) (qv : Nat) (mm : Nat → Int32) (vv : Nat → Int32) (bb : Int32) (ab : Int64) (na : Nat) (nb : Nat) (nc : Nat) (nd : Nat) (nx : Nat) (ny : Nat) (hna : na < 16) (hnb : nb < 16) (hnc : nc < 16) (hnd : nd < 16) (hnx : nx < 16) (hny : ny < 16) : Met l yX0_mixFour wsX0_mixFour ({ frames := 1, cells := 0, slots := 0, locals := 21 }) (va_Pc [.ref h0, .int (nI na), .int (nI nb), .int (nI nc), .int (nI nd), .int (nI nx), .int (nI ny)] (kd_I (dC, dI) cA tb sz [(h0, .inr (0, [.ref qh, .ref qm, .ref qv, .int bb, .long ab])), (qm, .inl (cA, 16, .inl mm)), (qv, .inl (cA, 16, .inl vv))])) (va_Qv (fun (u : (Nat → Int32)) => u = kd_G na nb nc nd (mm nx) (mm ny) vv) (fun u t => kd_O (dC, dI) cA (va_A [(h0, .inr (0, [.ref qh, .ref qm, .ref qv, .int bb, .long ab])), (qm, .inl (cA, 16, .inl mm)), (qv, .inl (cA, 16, .inl vv))] sz) [(h0, .inr (0, [.ref qh, .ref qm, .ref qv, .int bb, .long ab])), (qm, .inl (cA, 16, .inl mm)), (qv, .inl (cA, 16, .inl u))] t) (va_A [(h0, .inr (0, [.ref qh, .ref qm, .ref qv, .int bb, .long ab])), (qm, .inl (cA, 16, .inl mm)), (qv, .inl (cA, 16, .inl vv))] sz)) 0 0 (va_A [(h0, .inr (0, [.ref qh, .ref qm, .ref qv, .int bb, .long ab])), (qm, .inl (cA, 16, .inl mm)), (qv, .inl (cA, 16, .inl vv))] sz) := by
  refine Met.ofW (cc := cX0_mixFour) (maxL := 7) (ret := none) (by decide) rfl ?_
  intro p e s m args below meth c s₁ B hml hv
  obtain ⟨rfl, hsz, hP, hK, hD0, hT⟩ := hv
  have hx := B.exec
  have hb := B.bytes
  have hr := B.returns
  have hts := atoms_spec (ws := wsX0_mixFour) B.pre
  have hown : s.vm.findClass RX0 = some m.cls := findClass_of_methodNamed B.named
  have hlocks := B.notSynchronized
  have ki0 : ∀ w ∈ u_ws RX0 TX0 5, w ∈ wsX0_mixFour := by decide +kernel
  have k1 := hts (.fieldLink RX0 16 "KeyedDigest$Chain" "v" "[I") (by decide +kernel)
  have k2 := hts (.fieldLink RX0 13 "KeyedDigest$Chain" "m" "[I") (by decide +kernel)
  subst hsz
  have hD := hD0.self (sz := s.heap.size)
  generalize hAe : va_A [(h0, .inr (0, [.ref qh, .ref qm, .ref qv, .int bb, .long ab])), (qm, .inl (cA, 16, .inl mm)), (qv, .inl (cA, 16, .inl vv))] s.heap.size = A at hD hT ⊢
  have hA : ∀ q : Nat, s.heap.size ≤ q → A q := fun q h => by rw [← hAe]; exact Or.inr h
  have hS : va_S A s.heap s.heap [] := va_S.rf
  have hP : va_P (dC, dI) vwCl [(h0, .inr (0, [.ref qh, .ref qm, .ref qv, .int bb, .long ab])), (qm, .inl (cA, 16, .inl mm)), (qv, .inl (cA, 16, .inl vv))] s.heap := hP
  have hl := lv_entry ([.ref h0, .int (nI na), .int (nI nb), .int (nI nc), .int (nI nd), .int (nI nx), .int (nI ny)]) (n := 7) (Nat.le_of_ble_eq_true rfl)
  rw [lg_entry_eq]
  generalize (lg_sl ([.ref h0, .int (nI na), .int (nI nb), .int (nI nc), .int (nI nd), .int (nI nx), .int (nI ny)]) ++ List.replicate (7 - (lg_sl ([.ref h0, .int (nI na), .int (nI nb), .int (nI nc), .int (nI nd), .int (nI nx), .int (nI ny)])).length) Slot.unset).toArray = ls at hl ⊢
  have hl : lv_has ls 7 [(0, .ref h0), (1, .int (nI na)), (2, .int (nI nb)), (3, .int (nI nc)), (4, .int (nI nd)), (5, .int (nI nx)), (6, .int (nI ny))] := hl
  refine lv_aload_n hx hb dX0_mixFour_0 rfl (lv_at hl 0 rfl) ?_
  refine va_get (D := (dC, dI)) (ci := 0) (v := .ref qv) (C := RX0) (T := TX0) (N := 5) hx hb hts ki0 hown hK hP 0 rfl rfl 2 (by decide) k1 (fun _ h9 => h9) rfl dX0_mixFour_1 ?_
  refine lv_iload_n hx hb dX0_mixFour_4 rfl (lv_at hl 1 rfl) ?_
  refine lv_aload_n hx hb dX0_mixFour_5 rfl (lv_at hl 0 rfl) ?_
  refine va_get (D := (dC, dI)) (ci := 0) (v := .ref qv) (C := RX0) (T := TX0) (N := 5) hx hb hts ki0 hown hK hP 0 rfl rfl 2 (by decide) k1 (fun _ h9 => h9) rfl dX0_mixFour_6 ?_
  refine lv_iload_n hx hb dX0_mixFour_9 rfl (lv_at hl 1 rfl) ?_
  refine kd_ild na hx hb hK hP 2 0 rfl rfl rfl (by omega) (by decide) dX0_mixFour_10 ?_
  refine lv_aload_n hx hb dX0_mixFour_11 rfl (lv_at hl 0 rfl) ?_
  refine va_get (D := (dC, dI)) (ci := 0) (v := .ref qv) (C := RX0) (T := TX0) (N := 5) hx hb hts ki0 hown hK hP 0 rfl rfl 2 (by decide) k1 (fun _ h9 => h9) rfl dX0_mixFour_12 ?_
  refine lv_iload_n hx hb dX0_mixFour_15 rfl (lv_at hl 2 rfl) ?_
  refine kd_ild nb hx hb hK hP 2 0 rfl rfl rfl (by omega) (by decide) dX0_mixFour_16 ?_
  refine lv_iadd hx hb dX0_mixFour_17 ?_
  refine lv_aload_n hx hb dX0_mixFour_18 rfl (lv_at hl 0 rfl) ?_
  refine va_get (D := (dC, dI)) (ci := 0) (v := .ref qm) (C := RX0) (T := TX0) (N := 5) hx hb hts ki0 hown hK hP 0 rfl rfl 1 (by decide) k2 (fun _ h9 => h9) rfl dX0_mixFour_19 ?_
  refine lv_iload hx hb dX0_mixFour_22 (lv_at hl 5 rfl) ?_
  refine kd_ild nx hx hb hK hP 1 0 rfl rfl rfl (by omega) (by decide) dX0_mixFour_24 ?_
  refine lv_iadd hx hb dX0_mixFour_25 ?_
  refine lv_topi (fun x26 ex26 => ?_)
  refine kd_ist na hx hb hK hP hD hS 2 0 rfl rfl rfl (by omega) (by decide) dX0_mixFour_26 (fun f26 ef26 H locs hP hD hS => ?_)
  have hP : va_P (dC, dI) vwCl [(h0, .inr (0, [.ref qh, .ref qm, .ref qv, .int bb, .long ab])), (qm, .inl (cA, 16, .inl mm)), (qv, .inl (cA, 16, .inl f26))] H := hP
  have hD : va_D A [(h0, .inr (0, [.ref qh, .ref qm, .ref qv, .int bb, .long ab])), (qm, .inl (cA, 16, .inl mm)), (qv, .inl (cA, 16, .inl f26))] := hD
  refine lv_aload_n hx hb dX0_mixFour_27 rfl (lv_at hl 0 rfl) ?_
  refine va_get (D := (dC, dI)) (ci := 0) (v := .ref qv) (C := RX0) (T := TX0) (N := 5) hx hb hts ki0 hown hK hP 0 rfl rfl 2 (by decide) k1 (fun _ h9 => h9) rfl dX0_mixFour_28 ?_
  refine lv_iload hx hb dX0_mixFour_31 (lv_at hl 4 rfl) ?_
  refine lv_aload_n hx hb dX0_mixFour_33 rfl (lv_at hl 0 rfl) ?_
  refine va_get (D := (dC, dI)) (ci := 0) (v := .ref qv) (C := RX0) (T := TX0) (N := 5) hx hb hts ki0 hown hK hP 0 rfl rfl 2 (by decide) k1 (fun _ h9 => h9) rfl dX0_mixFour_34 ?_
  refine lv_iload hx hb dX0_mixFour_37 (lv_at hl 4 rfl) ?_
  refine kd_ild nd hx hb hK hP 2 0 rfl rfl rfl (by omega) (by decide) dX0_mixFour_39 ?_
  refine lv_aload_n hx hb dX0_mixFour_40 rfl (lv_at hl 0 rfl) ?_
  refine va_get (D := (dC, dI)) (ci := 0) (v := .ref qv) (C := RX0) (T := TX0) (N := 5) hx hb hts ki0 hown hK hP 0 rfl rfl 2 (by decide) k1 (fun _ h9 => h9) rfl dX0_mixFour_41 ?_
  refine lv_iload_n hx hb dX0_mixFour_44 rfl (lv_at hl 1 rfl) ?_
  refine kd_ild na hx hb hK hP 2 0 rfl rfl rfl (by omega) (by decide) dX0_mixFour_45 ?_
  refine lv_ixor hx hb dX0_mixFour_46 ?_
  refine lv_bipush (v := 16) hx hb dX0_mixFour_47 (by decide) ?_
  have hPc := hP.sub (ws' := []) [] rfl
  have hDc := hD.sub (ws' := []) [] (by decide) rfl
  have hFc := va_free (wc := []) hD hS hA [] rfl
  refine va_calli (va_runS (As := [.int ((f26 nd) ^^^ (f26 na)), .int 16]) (rest := [.int (nI nd), .ref qv]) ⟨hx, hb, hml, hown, hts⟩ (cX0_turnDown_ok l dC dI cA tb H.size ((f26 nd) ^^^ (f26 na)) 16 ) (va_cwS 2 hts gX0_mixFour_X0_turnDown rfl rfl rfl (by decide +kernel) ⟨Nat.le_of_ble_eq_true rfl, Nat.le_of_ble_eq_true rfl⟩) ⟨fun a U g mk q => kd_calling rfl rfl q, fun U hU hW => ⟨rfl, kd_pre hPc hK hDc hT hS hFc U hU hW⟩⟩ rfl rfl hl.1 rfl (lv_room (Nat.le_of_ble_eq_true rfl)) dX0_mixFour_49 ⟨Nat.le_of_ble_eq_true rfl, Nat.le_of_ble_eq_true rfl⟩) hS (fun q _ h => hFc q h) hFc (fun r49 u t H1 locs ht hvm hw hB hz1 hk1 hS => ?_)
  have hw49 : r49 = kd_rot ((f26 nd) ^^^ (f26 na)) 16 := hw
  have hP1 : va_P (dC, dI) vwCl [] H1 := by rw [← ht]; exact hB.1
  have hD1 : va_D (va_A [] H.size) [] := hB.2.2
  obtain ⟨hP, hD⟩ := va_join (wr := [(h0, .inr (0, [.ref qh, .ref qm, .ref qv, .int bb, .long ab])), (qm, .inl (cA, 16, .inl mm)), (qv, .inl (cA, 16, .inl f26))]) (w1 := []) hP hD [] [0, 1, 2] rfl rfl (by decide) (by decide) hk1 hFc hP1 hD1
  clear hw hB hk1 hPc hDc hFc hP1 hD1 hvm hz1
  generalize H1 = H at hP hS ⊢
  have hP : va_P (dC, dI) vwCl [(h0, .inr (0, [.ref qh, .ref qm, .ref qv, .int bb, .long ab])), (qm, .inl (cA, 16, .inl mm)), (qv, .inl (cA, 16, .inl f26))] H := hP
  have hD : va_D A [(h0, .inr (0, [.ref qh, .ref qm, .ref qv, .int bb, .long ab])), (qm, .inl (cA, 16, .inl mm)), (qv, .inl (cA, 16, .inl f26))] := hD
  refine kd_ist nd hx hb hK hP hD hS 2 0 rfl rfl rfl (by omega) (by decide) dX0_mixFour_52 (fun f52 ef52 H locs hP hD hS => ?_)
  have hP : va_P (dC, dI) vwCl [(h0, .inr (0, [.ref qh, .ref qm, .ref qv, .int bb, .long ab])), (qm, .inl (cA, 16, .inl mm)), (qv, .inl (cA, 16, .inl f52))] H := hP
  have hD : va_D A [(h0, .inr (0, [.ref qh, .ref qm, .ref qv, .int bb, .long ab])), (qm, .inl (cA, 16, .inl mm)), (qv, .inl (cA, 16, .inl f52))] := hD
  refine lv_aload_n hx hb dX0_mixFour_53 rfl (lv_at hl 0 rfl) ?_
  refine va_get (D := (dC, dI)) (ci := 0) (v := .ref qv) (C := RX0) (T := TX0) (N := 5) hx hb hts ki0 hown hK hP 0 rfl rfl 2 (by decide) k1 (fun _ h9 => h9) rfl dX0_mixFour_54 ?_
  refine lv_iload_n hx hb dX0_mixFour_57 rfl (lv_at hl 3 rfl) ?_
  refine lv_aload_n hx hb dX0_mixFour_58 rfl (lv_at hl 0 rfl) ?_
  refine va_get (D := (dC, dI)) (ci := 0) (v := .ref qv) (C := RX0) (T := TX0) (N := 5) hx hb hts ki0 hown hK hP 0 rfl rfl 2 (by decide) k1 (fun _ h9 => h9) rfl dX0_mixFour_59 ?_
  refine lv_iload_n hx hb dX0_mixFour_62 rfl (lv_at hl 3 rfl) ?_
  refine kd_ild nc hx hb hK hP 2 0 rfl rfl rfl (by omega) (by decide) dX0_mixFour_63 ?_
  refine lv_aload_n hx hb dX0_mixFour_64 rfl (lv_at hl 0 rfl) ?_
  refine va_get (D := (dC, dI)) (ci := 0) (v := .ref qv) (C := RX0) (T := TX0) (N := 5) hx hb hts ki0 hown hK hP 0 rfl rfl 2 (by decide) k1 (fun _ h9 => h9) rfl dX0_mixFour_65 ?_
  refine lv_iload hx hb dX0_mixFour_68 (lv_at hl 4 rfl) ?_
  refine kd_ild nd hx hb hK hP 2 0 rfl rfl rfl (by omega) (by decide) dX0_mixFour_70 ?_
  refine lv_iadd hx hb dX0_mixFour_71 ?_
  refine lv_topi (fun x72 ex72 => ?_)
  refine kd_ist nc hx hb hK hP hD hS 2 0 rfl rfl rfl (by omega) (by decide) dX0_mixFour_72 (fun f72 ef72 H locs hP hD hS => ?_)
  have hP : va_P (dC, dI) vwCl [(h0, .inr (0, [.ref qh, .ref qm, .ref qv, .int bb, .long ab])), (qm, .inl (cA, 16, .inl mm)), (qv, .inl (cA, 16, .inl f72))] H := hP
  have hD : va_D A [(h0, .inr (0, [.ref qh, .ref qm, .ref qv, .int bb, .long ab])), (qm, .inl (cA, 16, .inl mm)), (qv, .inl (cA, 16, .inl f72))] := hD
  refine lv_aload_n hx hb dX0_mixFour_73 rfl (lv_at hl 0 rfl) ?_
  refine va_get (D := (dC, dI)) (ci := 0) (v := .ref qv) (C := RX0) (T := TX0) (N := 5) hx hb hts ki0 hown hK hP 0 rfl rfl 2 (by decide) k1 (fun _ h9 => h9) rfl dX0_mixFour_74 ?_
  refine lv_iload_n hx hb dX0_mixFour_77 rfl (lv_at hl 2 rfl) ?_
  refine lv_aload_n hx hb dX0_mixFour_78 rfl (lv_at hl 0 rfl) ?_
  refine va_get (D := (dC, dI)) (ci := 0) (v := .ref qv) (C := RX0) (T := TX0) (N := 5) hx hb hts ki0 hown hK hP 0 rfl rfl 2 (by decide) k1 (fun _ h9 => h9) rfl dX0_mixFour_79 ?_
  refine lv_iload_n hx hb dX0_mixFour_82 rfl (lv_at hl 2 rfl) ?_
  refine kd_ild nb hx hb hK hP 2 0 rfl rfl rfl (by omega) (by decide) dX0_mixFour_83 ?_
  refine lv_aload_n hx hb dX0_mixFour_84 rfl (lv_at hl 0 rfl) ?_
  refine va_get (D := (dC, dI)) (ci := 0) (v := .ref qv) (C := RX0) (T := TX0) (N := 5) hx hb hts ki0 hown hK hP 0 rfl rfl 2 (by decide) k1 (fun _ h9 => h9) rfl dX0_mixFour_85 ?_
  refine lv_iload_n hx hb dX0_mixFour_88 rfl (lv_at hl 3 rfl) ?_
  refine kd_ild nc hx hb hK hP 2 0 rfl rfl rfl (by omega) (by decide) dX0_mixFour_89 ?_
  refine lv_ixor hx hb dX0_mixFour_90 ?_
  refine lv_bipush (v := 12) hx hb dX0_mixFour_91 (by decide) ?_
  have hPc := hP.sub (ws' := []) [] rfl
  have hDc := hD.sub (ws' := []) [] (by decide) rfl
  have hFc := va_free (wc := []) hD hS hA [] rfl
  refine va_calli (va_runS (As := [.int ((f72 nb) ^^^ (f72 nc)), .int 12]) (rest := [.int (nI nb), .ref qv]) ⟨hx, hb, hml, hown, hts⟩ (cX0_turnDown_ok l dC dI cA tb H.size ((f72 nb) ^^^ (f72 nc)) 12 ) (va_cwS 2 hts gX0_mixFour_X0_turnDown rfl rfl rfl (by decide +kernel) ⟨Nat.le_of_ble_eq_true rfl, Nat.le_of_ble_eq_true rfl⟩) ⟨fun a U g mk q => kd_calling rfl rfl q, fun U hU hW => ⟨rfl, kd_pre hPc hK hDc hT hS hFc U hU hW⟩⟩ rfl rfl hl.1 rfl (lv_room (Nat.le_of_ble_eq_true rfl)) dX0_mixFour_93 ⟨Nat.le_of_ble_eq_true rfl, Nat.le_of_ble_eq_true rfl⟩) hS (fun q _ h => hFc q h) hFc (fun r93 u t H1 locs ht hvm hw hB hz1 hk1 hS => ?_)
  have hw93 : r93 = kd_rot ((f72 nb) ^^^ (f72 nc)) 12 := hw
  have hP1 : va_P (dC, dI) vwCl [] H1 := by rw [← ht]; exact hB.1
  have hD1 : va_D (va_A [] H.size) [] := hB.2.2
  obtain ⟨hP, hD⟩ := va_join (wr := [(h0, .inr (0, [.ref qh, .ref qm, .ref qv, .int bb, .long ab])), (qm, .inl (cA, 16, .inl mm)), (qv, .inl (cA, 16, .inl f72))]) (w1 := []) hP hD [] [0, 1, 2] rfl rfl (by decide) (by decide) hk1 hFc hP1 hD1
  clear hw hB hk1 hPc hDc hFc hP1 hD1 hvm hz1
  generalize H1 = H at hP hS ⊢
  have hP : va_P (dC, dI) vwCl [(h0, .inr (0, [.ref qh, .ref qm, .ref qv, .int bb, .long ab])), (qm, .inl (cA, 16, .inl mm)), (qv, .inl (cA, 16, .inl f72))] H := hP
  have hD : va_D A [(h0, .inr (0, [.ref qh, .ref qm, .ref qv, .int bb, .long ab])), (qm, .inl (cA, 16, .inl mm)), (qv, .inl (cA, 16, .inl f72))] := hD
  refine kd_ist nb hx hb hK hP hD hS 2 0 rfl rfl rfl (by omega) (by decide) dX0_mixFour_96 (fun f96 ef96 H locs hP hD hS => ?_)
  have hP : va_P (dC, dI) vwCl [(h0, .inr (0, [.ref qh, .ref qm, .ref qv, .int bb, .long ab])), (qm, .inl (cA, 16, .inl mm)), (qv, .inl (cA, 16, .inl f96))] H := hP
  have hD : va_D A [(h0, .inr (0, [.ref qh, .ref qm, .ref qv, .int bb, .long ab])), (qm, .inl (cA, 16, .inl mm)), (qv, .inl (cA, 16, .inl f96))] := hD
  refine lv_aload_n hx hb dX0_mixFour_97 rfl (lv_at hl 0 rfl) ?_
  refine va_get (D := (dC, dI)) (ci := 0) (v := .ref qv) (C := RX0) (T := TX0) (N := 5) hx hb hts ki0 hown hK hP 0 rfl rfl 2 (by decide) k1 (fun _ h9 => h9) rfl dX0_mixFour_98 ?_
  refine lv_iload_n hx hb dX0_mixFour_101 rfl (lv_at hl 1 rfl) ?_
  refine lv_aload_n hx hb dX0_mixFour_102 rfl (lv_at hl 0 rfl) ?_
  refine va_get (D := (dC, dI)) (ci := 0) (v := .ref qv) (C := RX0) (T := TX0) (N := 5) hx hb hts ki0 hown hK hP 0 rfl rfl 2 (by decide) k1 (fun _ h9 => h9) rfl dX0_mixFour_103 ?_
  refine lv_iload_n hx hb dX0_mixFour_106 rfl (lv_at hl 1 rfl) ?_
  refine kd_ild na hx hb hK hP 2 0 rfl rfl rfl (by omega) (by decide) dX0_mixFour_107 ?_
  refine lv_aload_n hx hb dX0_mixFour_108 rfl (lv_at hl 0 rfl) ?_
  refine va_get (D := (dC, dI)) (ci := 0) (v := .ref qv) (C := RX0) (T := TX0) (N := 5) hx hb hts ki0 hown hK hP 0 rfl rfl 2 (by decide) k1 (fun _ h9 => h9) rfl dX0_mixFour_109 ?_
  refine lv_iload_n hx hb dX0_mixFour_112 rfl (lv_at hl 2 rfl) ?_
  refine kd_ild nb hx hb hK hP 2 0 rfl rfl rfl (by omega) (by decide) dX0_mixFour_113 ?_
  refine lv_iadd hx hb dX0_mixFour_114 ?_
  refine lv_aload_n hx hb dX0_mixFour_115 rfl (lv_at hl 0 rfl) ?_
  refine va_get (D := (dC, dI)) (ci := 0) (v := .ref qm) (C := RX0) (T := TX0) (N := 5) hx hb hts ki0 hown hK hP 0 rfl rfl 1 (by decide) k2 (fun _ h9 => h9) rfl dX0_mixFour_116 ?_
  refine lv_iload hx hb dX0_mixFour_119 (lv_at hl 6 rfl) ?_
  refine kd_ild ny hx hb hK hP 1 0 rfl rfl rfl (by omega) (by decide) dX0_mixFour_121 ?_
  refine lv_iadd hx hb dX0_mixFour_122 ?_
  refine lv_topi (fun x123 ex123 => ?_)
  refine kd_ist na hx hb hK hP hD hS 2 0 rfl rfl rfl (by omega) (by decide) dX0_mixFour_123 (fun f123 ef123 H locs hP hD hS => ?_)
  have hP : va_P (dC, dI) vwCl [(h0, .inr (0, [.ref qh, .ref qm, .ref qv, .int bb, .long ab])), (qm, .inl (cA, 16, .inl mm)), (qv, .inl (cA, 16, .inl f123))] H := hP
  have hD : va_D A [(h0, .inr (0, [.ref qh, .ref qm, .ref qv, .int bb, .long ab])), (qm, .inl (cA, 16, .inl mm)), (qv, .inl (cA, 16, .inl f123))] := hD
  refine lv_aload_n hx hb dX0_mixFour_124 rfl (lv_at hl 0 rfl) ?_
  refine va_get (D := (dC, dI)) (ci := 0) (v := .ref qv) (C := RX0) (T := TX0) (N := 5) hx hb hts ki0 hown hK hP 0 rfl rfl 2 (by decide) k1 (fun _ h9 => h9) rfl dX0_mixFour_125 ?_
  refine lv_iload hx hb dX0_mixFour_128 (lv_at hl 4 rfl) ?_
  refine lv_aload_n hx hb dX0_mixFour_130 rfl (lv_at hl 0 rfl) ?_
  refine va_get (D := (dC, dI)) (ci := 0) (v := .ref qv) (C := RX0) (T := TX0) (N := 5) hx hb hts ki0 hown hK hP 0 rfl rfl 2 (by decide) k1 (fun _ h9 => h9) rfl dX0_mixFour_131 ?_
  refine lv_iload hx hb dX0_mixFour_134 (lv_at hl 4 rfl) ?_
  refine kd_ild nd hx hb hK hP 2 0 rfl rfl rfl (by omega) (by decide) dX0_mixFour_136 ?_
  refine lv_aload_n hx hb dX0_mixFour_137 rfl (lv_at hl 0 rfl) ?_
  refine va_get (D := (dC, dI)) (ci := 0) (v := .ref qv) (C := RX0) (T := TX0) (N := 5) hx hb hts ki0 hown hK hP 0 rfl rfl 2 (by decide) k1 (fun _ h9 => h9) rfl dX0_mixFour_138 ?_
  refine lv_iload_n hx hb dX0_mixFour_141 rfl (lv_at hl 1 rfl) ?_
  refine kd_ild na hx hb hK hP 2 0 rfl rfl rfl (by omega) (by decide) dX0_mixFour_142 ?_
  refine lv_ixor hx hb dX0_mixFour_143 ?_
  refine lv_bipush (v := 8) hx hb dX0_mixFour_144 (by decide) ?_
  have hPc := hP.sub (ws' := []) [] rfl
  have hDc := hD.sub (ws' := []) [] (by decide) rfl
  have hFc := va_free (wc := []) hD hS hA [] rfl
  refine va_calli (va_runS (As := [.int ((f123 nd) ^^^ (f123 na)), .int 8]) (rest := [.int (nI nd), .ref qv]) ⟨hx, hb, hml, hown, hts⟩ (cX0_turnDown_ok l dC dI cA tb H.size ((f123 nd) ^^^ (f123 na)) 8 ) (va_cwS 2 hts gX0_mixFour_X0_turnDown rfl rfl rfl (by decide +kernel) ⟨Nat.le_of_ble_eq_true rfl, Nat.le_of_ble_eq_true rfl⟩) ⟨fun a U g mk q => kd_calling rfl rfl q, fun U hU hW => ⟨rfl, kd_pre hPc hK hDc hT hS hFc U hU hW⟩⟩ rfl rfl hl.1 rfl (lv_room (Nat.le_of_ble_eq_true rfl)) dX0_mixFour_146 ⟨Nat.le_of_ble_eq_true rfl, Nat.le_of_ble_eq_true rfl⟩) hS (fun q _ h => hFc q h) hFc (fun r146 u t H1 locs ht hvm hw hB hz1 hk1 hS => ?_)
  have hw146 : r146 = kd_rot ((f123 nd) ^^^ (f123 na)) 8 := hw
  have hP1 : va_P (dC, dI) vwCl [] H1 := by rw [← ht]; exact hB.1
  have hD1 : va_D (va_A [] H.size) [] := hB.2.2
  obtain ⟨hP, hD⟩ := va_join (wr := [(h0, .inr (0, [.ref qh, .ref qm, .ref qv, .int bb, .long ab])), (qm, .inl (cA, 16, .inl mm)), (qv, .inl (cA, 16, .inl f123))]) (w1 := []) hP hD [] [0, 1, 2] rfl rfl (by decide) (by decide) hk1 hFc hP1 hD1
  clear hw hB hk1 hPc hDc hFc hP1 hD1 hvm hz1
  generalize H1 = H at hP hS ⊢
  have hP : va_P (dC, dI) vwCl [(h0, .inr (0, [.ref qh, .ref qm, .ref qv, .int bb, .long ab])), (qm, .inl (cA, 16, .inl mm)), (qv, .inl (cA, 16, .inl f123))] H := hP
  have hD : va_D A [(h0, .inr (0, [.ref qh, .ref qm, .ref qv, .int bb, .long ab])), (qm, .inl (cA, 16, .inl mm)), (qv, .inl (cA, 16, .inl f123))] := hD
  refine kd_ist nd hx hb hK hP hD hS 2 0 rfl rfl rfl (by omega) (by decide) dX0_mixFour_149 (fun f149 ef149 H locs hP hD hS => ?_)
  have hP : va_P (dC, dI) vwCl [(h0, .inr (0, [.ref qh, .ref qm, .ref qv, .int bb, .long ab])), (qm, .inl (cA, 16, .inl mm)), (qv, .inl (cA, 16, .inl f149))] H := hP
  have hD : va_D A [(h0, .inr (0, [.ref qh, .ref qm, .ref qv, .int bb, .long ab])), (qm, .inl (cA, 16, .inl mm)), (qv, .inl (cA, 16, .inl f149))] := hD
  refine lv_aload_n hx hb dX0_mixFour_150 rfl (lv_at hl 0 rfl) ?_
  refine va_get (D := (dC, dI)) (ci := 0) (v := .ref qv) (C := RX0) (T := TX0) (N := 5) hx hb hts ki0 hown hK hP 0 rfl rfl 2 (by decide) k1 (fun _ h9 => h9) rfl dX0_mixFour_151 ?_
  refine lv_iload_n hx hb dX0_mixFour_154 rfl (lv_at hl 3 rfl) ?_
  refine lv_aload_n hx hb dX0_mixFour_155 rfl (lv_at hl 0 rfl) ?_
  refine va_get (D := (dC, dI)) (ci := 0) (v := .ref qv) (C := RX0) (T := TX0) (N := 5) hx hb hts ki0 hown hK hP 0 rfl rfl 2 (by decide) k1 (fun _ h9 => h9) rfl dX0_mixFour_156 ?_
  refine lv_iload_n hx hb dX0_mixFour_159 rfl (lv_at hl 3 rfl) ?_
  refine kd_ild nc hx hb hK hP 2 0 rfl rfl rfl (by omega) (by decide) dX0_mixFour_160 ?_
  refine lv_aload_n hx hb dX0_mixFour_161 rfl (lv_at hl 0 rfl) ?_
  refine va_get (D := (dC, dI)) (ci := 0) (v := .ref qv) (C := RX0) (T := TX0) (N := 5) hx hb hts ki0 hown hK hP 0 rfl rfl 2 (by decide) k1 (fun _ h9 => h9) rfl dX0_mixFour_162 ?_
  refine lv_iload hx hb dX0_mixFour_165 (lv_at hl 4 rfl) ?_
  refine kd_ild nd hx hb hK hP 2 0 rfl rfl rfl (by omega) (by decide) dX0_mixFour_167 ?_
  refine lv_iadd hx hb dX0_mixFour_168 ?_
  refine lv_topi (fun x169 ex169 => ?_)
  refine kd_ist nc hx hb hK hP hD hS 2 0 rfl rfl rfl (by omega) (by decide) dX0_mixFour_169 (fun f169 ef169 H locs hP hD hS => ?_)
  have hP : va_P (dC, dI) vwCl [(h0, .inr (0, [.ref qh, .ref qm, .ref qv, .int bb, .long ab])), (qm, .inl (cA, 16, .inl mm)), (qv, .inl (cA, 16, .inl f169))] H := hP
  have hD : va_D A [(h0, .inr (0, [.ref qh, .ref qm, .ref qv, .int bb, .long ab])), (qm, .inl (cA, 16, .inl mm)), (qv, .inl (cA, 16, .inl f169))] := hD
  refine lv_aload_n hx hb dX0_mixFour_170 rfl (lv_at hl 0 rfl) ?_
  refine va_get (D := (dC, dI)) (ci := 0) (v := .ref qv) (C := RX0) (T := TX0) (N := 5) hx hb hts ki0 hown hK hP 0 rfl rfl 2 (by decide) k1 (fun _ h9 => h9) rfl dX0_mixFour_171 ?_
  refine lv_iload_n hx hb dX0_mixFour_174 rfl (lv_at hl 2 rfl) ?_
  refine lv_aload_n hx hb dX0_mixFour_175 rfl (lv_at hl 0 rfl) ?_
  refine va_get (D := (dC, dI)) (ci := 0) (v := .ref qv) (C := RX0) (T := TX0) (N := 5) hx hb hts ki0 hown hK hP 0 rfl rfl 2 (by decide) k1 (fun _ h9 => h9) rfl dX0_mixFour_176 ?_
  refine lv_iload_n hx hb dX0_mixFour_179 rfl (lv_at hl 2 rfl) ?_
  refine kd_ild nb hx hb hK hP 2 0 rfl rfl rfl (by omega) (by decide) dX0_mixFour_180 ?_
  refine lv_aload_n hx hb dX0_mixFour_181 rfl (lv_at hl 0 rfl) ?_
  refine va_get (D := (dC, dI)) (ci := 0) (v := .ref qv) (C := RX0) (T := TX0) (N := 5) hx hb hts ki0 hown hK hP 0 rfl rfl 2 (by decide) k1 (fun _ h9 => h9) rfl dX0_mixFour_182 ?_
  refine lv_iload_n hx hb dX0_mixFour_185 rfl (lv_at hl 3 rfl) ?_
  refine kd_ild nc hx hb hK hP 2 0 rfl rfl rfl (by omega) (by decide) dX0_mixFour_186 ?_
  refine lv_ixor hx hb dX0_mixFour_187 ?_
  refine lv_bipush (v := 7) hx hb dX0_mixFour_188 (by decide) ?_
  have hPc := hP.sub (ws' := []) [] rfl
  have hDc := hD.sub (ws' := []) [] (by decide) rfl
  have hFc := va_free (wc := []) hD hS hA [] rfl
  refine va_calli (va_runS (As := [.int ((f169 nb) ^^^ (f169 nc)), .int 7]) (rest := [.int (nI nb), .ref qv]) ⟨hx, hb, hml, hown, hts⟩ (cX0_turnDown_ok l dC dI cA tb H.size ((f169 nb) ^^^ (f169 nc)) 7 ) (va_cwS 2 hts gX0_mixFour_X0_turnDown rfl rfl rfl (by decide +kernel) ⟨Nat.le_of_ble_eq_true rfl, Nat.le_of_ble_eq_true rfl⟩) ⟨fun a U g mk q => kd_calling rfl rfl q, fun U hU hW => ⟨rfl, kd_pre hPc hK hDc hT hS hFc U hU hW⟩⟩ rfl rfl hl.1 rfl (lv_room (Nat.le_of_ble_eq_true rfl)) dX0_mixFour_190 ⟨Nat.le_of_ble_eq_true rfl, Nat.le_of_ble_eq_true rfl⟩) hS (fun q _ h => hFc q h) hFc (fun r190 u t H1 locs ht hvm hw hB hz1 hk1 hS => ?_)
  have hw190 : r190 = kd_rot ((f169 nb) ^^^ (f169 nc)) 7 := hw
  have hP1 : va_P (dC, dI) vwCl [] H1 := by rw [← ht]; exact hB.1
  have hD1 : va_D (va_A [] H.size) [] := hB.2.2
  obtain ⟨hP, hD⟩ := va_join (wr := [(h0, .inr (0, [.ref qh, .ref qm, .ref qv, .int bb, .long ab])), (qm, .inl (cA, 16, .inl mm)), (qv, .inl (cA, 16, .inl f169))]) (w1 := []) hP hD [] [0, 1, 2] rfl rfl (by decide) (by decide) hk1 hFc hP1 hD1
  clear hw hB hk1 hPc hDc hFc hP1 hD1 hvm hz1
  generalize H1 = H at hP hS ⊢
  have hP : va_P (dC, dI) vwCl [(h0, .inr (0, [.ref qh, .ref qm, .ref qv, .int bb, .long ab])), (qm, .inl (cA, 16, .inl mm)), (qv, .inl (cA, 16, .inl f169))] H := hP
  have hD : va_D A [(h0, .inr (0, [.ref qh, .ref qm, .ref qv, .int bb, .long ab])), (qm, .inl (cA, 16, .inl mm)), (qv, .inl (cA, 16, .inl f169))] := hD
  refine kd_ist nb hx hb hK hP hD hS 2 0 rfl rfl rfl (by omega) (by decide) dX0_mixFour_193 (fun f193 ef193 H locs hP hD hS => ?_)
  have hP : va_P (dC, dI) vwCl [(h0, .inr (0, [.ref qh, .ref qm, .ref qv, .int bb, .long ab])), (qm, .inl (cA, 16, .inl mm)), (qv, .inl (cA, 16, .inl f193))] H := hP
  have hD : va_D A [(h0, .inr (0, [.ref qh, .ref qm, .ref qv, .int bb, .long ab])), (qm, .inl (cA, 16, .inl mm)), (qv, .inl (cA, 16, .inl f193))] := hD
  have g1 : f26 = kd_g1 na nb (mm nx) vv := by rw [ef26, ex26]; rfl
  have g2 : f52 = kd_g2 nd na 16 f26 := by rw [ef52, hw49]; rfl
  have g3 : f72 = kd_g3 nc nd f52 := by rw [ef72, ex72]; rfl
  have g4 : f96 = kd_g2 nb nc 12 f72 := by rw [ef96, hw93]; rfl
  have g5 : f123 = kd_g1 na nb (mm ny) f96 := by rw [ef123, ex123]; rfl
  have g6 : f149 = kd_g2 nd na 8 f123 := by rw [ef149, hw146]; rfl
  have g7 : f169 = kd_g3 nc nd f149 := by rw [ef169, ex169]; rfl
  have g8 : f193 = kd_g2 nb nc 7 f169 := by rw [ef193, hw190]; rfl
  have hP9 := hP.sub (ws' := [(h0, .inr (0, [.ref qh, .ref qm, .ref qv, .int bb, .long ab])), (qm, .inl (cA, 16, .inl mm)), (qv, .inl (cA, 16, .inl f193))]) [0, 1, 2] rfl
  have hD9 := hD.sub (ws' := [(h0, .inr (0, [.ref qh, .ref qm, .ref qv, .int bb, .long ab])), (qm, .inl (cA, 16, .inl mm)), (qv, .inl (cA, 16, .inl f193))]) [0, 1, 2] (by decide) rfl
  exact W.vret hx hb hr (fun t ht hW => ⟨⟨(f193), rfl, (by dsimp only; rw [g8, g7, g6, g5, g4, g3, g2, g1]; rfl), by rw [ht]; exact hP9, va_K.moved hW.alike hK, hD9⟩, hS.F ht⟩) hS.2.2 dX0_mixFour_194
end
section
set_option maxHeartbeats 4000000 in
set_option maxRecDepth 100000 in
theorem cX0_mixRound_ok (l : Launch) (dC : Nat → ClassId) (dI : Nat → Nat → Nat) (cA : ClassId) (tb : Nat → Nat) (sz : Nat) (h0 : Nat) (qh : Nat) (qm : Nat) (qv : Nat) (mm : Nat → Int32) (vv : Nat → Int32) (bb : Int32) (ab : Int64) (sv : Int32) (n : Nat) (hn : n < 10) (es : sv = nI (16 * n)) : Met l yX0_mixRound wsX0_mixRound ({ frames := 2, cells := 0, slots := 0, locals := 47 }) (va_Pc [.ref h0, .int sv] (kd_I (dC, dI) cA tb sz [(h0, .inr (0, [.ref qh, .ref qm, .ref qv, .int bb, .long ab])), (qm, .inl (cA, 16, .inl mm)), (qv, .inl (cA, 16, .inl vv))])) (va_Qv (fun (u : (Nat → Int32)) => u = kd_round mm n vv) (fun u t => kd_O (dC, dI) cA (va_A [(h0, .inr (0, [.ref qh, .ref qm, .ref qv, .int bb, .long ab])), (qm, .inl (cA, 16, .inl mm)), (qv, .inl (cA, 16, .inl vv))] sz) [(h0, .inr (0, [.ref qh, .ref qm, .ref qv, .int bb, .long ab])), (qm, .inl (cA, 16, .inl mm)), (qv, .inl (cA, 16, .inl u))] t) (va_A [(h0, .inr (0, [.ref qh, .ref qm, .ref qv, .int bb, .long ab])), (qm, .inl (cA, 16, .inl mm)), (qv, .inl (cA, 16, .inl vv))] sz)) 0 0 (va_A [(h0, .inr (0, [.ref qh, .ref qm, .ref qv, .int bb, .long ab])), (qm, .inl (cA, 16, .inl mm)), (qv, .inl (cA, 16, .inl vv))] sz) := by
  refine Met.ofW (cc := cX0_mixRound) (maxL := 2) (ret := none) (by decide) rfl ?_
  intro p e s m args below meth c s₁ B hml hv
  obtain ⟨rfl, hsz, hP, hK, hD0, hT⟩ := hv
  have hx := B.exec
  have hb := B.bytes
  have hr := B.returns
  have hts := atoms_spec (ws := wsX0_mixRound) B.pre
  have hown : s.vm.findClass RX0 = some m.cls := findClass_of_methodNamed B.named
  have hlocks := B.notSynchronized
  have k0 := hts (.fieldLink RX0 46 "KeyedDigest$Chain" "PLACES" "[I") (by decide +kernel)
  subst hsz
  have hD := hD0.self (sz := s.heap.size)
  generalize hAe : va_A [(h0, .inr (0, [.ref qh, .ref qm, .ref qv, .int bb, .long ab])), (qm, .inl (cA, 16, .inl mm)), (qv, .inl (cA, 16, .inl vv))] s.heap.size = A at hD hT ⊢
  have hA : ∀ q : Nat, s.heap.size ≤ q → A q := fun q h => by rw [← hAe]; exact Or.inr h
  have hS : va_S A s.heap s.heap [] := va_S.rf
  have hP : va_P (dC, dI) vwCl [(h0, .inr (0, [.ref qh, .ref qm, .ref qv, .int bb, .long ab])), (qm, .inl (cA, 16, .inl mm)), (qv, .inl (cA, 16, .inl vv))] s.heap := hP
  have hl := lv_entry ([.ref h0, .int sv]) (n := 2) (Nat.le_of_ble_eq_true rfl)
  rw [lg_entry_eq]
  generalize (lg_sl ([.ref h0, .int sv]) ++ List.replicate (2 - (lg_sl ([.ref h0, .int sv])).length) Slot.unset).toArray = ls at hl ⊢
  have hl : lv_has ls 2 [(0, .ref h0), (1, .int sv)] := hl
  refine lv_aload_n hx hb dX0_mixRound_0 rfl (lv_at hl 0 rfl) ?_
  refine lv_iconst (v := 0) hx hb dX0_mixRound_1 (by decide) ?_
  refine lv_iconst (v := 4) hx hb dX0_mixRound_2 (by decide) ?_
  refine lv_bipush (v := 8) hx hb dX0_mixRound_3 (by decide) ?_
  refine lv_bipush (v := 12) hx hb dX0_mixRound_5 (by decide) ?_
  refine va_gets hx hb hT.2.2.1 hS hown k0 (fun _ h9 => h9) dX0_mixRound_7 ?_
  refine lv_iload_n hx hb dX0_mixRound_10 rfl (lv_at hl 1 rfl) ?_
  refine kd_ti (16 * n) hx hb hT.2.2.2 hS es (by omega) (by decide) dX0_mixRound_11 ?_
  refine va_gets hx hb hT.2.2.1 hS hown k0 (fun _ h9 => h9) dX0_mixRound_12 ?_
  refine lv_iload_n hx hb dX0_mixRound_15 rfl (lv_at hl 1 rfl) ?_
  refine lv_iconst (v := 1) hx hb dX0_mixRound_16 (by decide) ?_
  refine lv_iadd hx hb dX0_mixRound_17 ?_
  refine kd_ti (16 * n + 1) hx hb hT.2.2.2 hS (by rw [es]; exact nI_add _ _) (by omega) (by decide) dX0_mixRound_18 ?_
  have hPc := hP.sub (ws' := [(h0, .inr (0, [.ref qh, .ref qm, .ref qv, .int bb, .long ab])), (qm, .inl (cA, 16, .inl mm)), (qv, .inl (cA, 16, .inl vv))]) [0, 1, 2] rfl
  have hDc := hD.sub (ws' := [(h0, .inr (0, [.ref qh, .ref qm, .ref qv, .int bb, .long ab])), (qm, .inl (cA, 16, .inl mm)), (qv, .inl (cA, 16, .inl vv))]) [0, 1, 2] (by decide) rfl
  have hFc := va_free (wc := [(h0, .inr (0, [.ref qh, .ref qm, .ref qv, .int bb, .long ab])), (qm, .inl (cA, 16, .inl mm)), (qv, .inl (cA, 16, .inl vv))]) hD hS hA [0, 1, 2] rfl
  refine va_callv (va_runV (As := [.int 0, .int 4, .int 8, .int 12, .int (kd_PL (16 * n)), .int (kd_PL (16 * n + 1))]) (rest := []) ⟨hx, hb, hml, hown, hts⟩ (cX0_mixFour_ok l dC dI cA tb s.heap.size h0 qh qm qv mm vv bb ab 0 4 8 12 (kd_pl (16 * n)) (kd_pl (16 * n + 1)) (by decide) (by decide) (by decide) (by decide) (kd_pl_lt _ (by omega)) (kd_pl_lt _ (by omega))) (cwV 6 hts gX0_mixRound_X0_mixFour rfl rfl rfl (by decide +kernel) ⟨Nat.le_of_ble_eq_true rfl, Nat.le_of_ble_eq_true rfl⟩) ⟨fun a U g mk q => kd_calling rfl rfl q, va_recv hK hPc (ci := 0) (q0 := 0) rfl rfl, fun U hU hW => ⟨rfl, kd_pre hPc hK hDc hT hS hFc U hU hW⟩⟩ rfl rfl hl.1 rfl (lv_room (Nat.le_of_ble_eq_true rfl)) dX0_mixRound_19 ⟨Nat.le_of_ble_eq_true rfl, Nat.le_of_ble_eq_true rfl⟩) hS (fun q _ h => hFc q h) hFc (fun u t H1 locs ht hvm hw hB hz1 hk1 hS => ?_)
  obtain ⟨vo19, rfl⟩ : ∃ z, z = u := ⟨_, rfl⟩
  have hw19 : vo19 = kd_G 0 4 8 12 (mm (kd_pl (16 * n))) (mm (kd_pl (16 * n + 1))) vv := hw
  have hP1 : va_P (dC, dI) vwCl [(h0, .inr (0, [.ref qh, .ref qm, .ref qv, .int bb, .long ab])), (qm, .inl (cA, 16, .inl mm)), (qv, .inl (cA, 16, .inl vo19))] H1 := by rw [← ht]; exact hB.1
  have hD1 : va_D (va_A [(h0, .inr (0, [.ref qh, .ref qm, .ref qv, .int bb, .long ab])), (qm, .inl (cA, 16, .inl mm)), (qv, .inl (cA, 16, .inl vv))] s.heap.size) [(h0, .inr (0, [.ref qh, .ref qm, .ref qv, .int bb, .long ab])), (qm, .inl (cA, 16, .inl mm)), (qv, .inl (cA, 16, .inl vo19))] := hB.2.2
  obtain ⟨hP, hD⟩ := va_join (wr := []) (w1 := [(h0, .inr (0, [.ref qh, .ref qm, .ref qv, .int bb, .long ab])), (qm, .inl (cA, 16, .inl mm)), (qv, .inl (cA, 16, .inl vo19))]) hP hD [0, 1, 2] [] rfl rfl (by decide) (by decide) hk1 hFc hP1 hD1
  clear hw hB hk1 hPc hDc hFc hP1 hD1 hvm hz1
  generalize H1 = H at hP hS ⊢
  have hP : va_P (dC, dI) vwCl [(h0, .inr (0, [.ref qh, .ref qm, .ref qv, .int bb, .long ab])), (qm, .inl (cA, 16, .inl mm)), (qv, .inl (cA, 16, .inl vo19))] H := hP
  have hD : va_D A [(h0, .inr (0, [.ref qh, .ref qm, .ref qv, .int bb, .long ab])), (qm, .inl (cA, 16, .inl mm)), (qv, .inl (cA, 16, .inl vo19))] := hD
  refine lv_aload_n hx hb dX0_mixRound_22 rfl (lv_at hl 0 rfl) ?_
  refine lv_iconst (v := 1) hx hb dX0_mixRound_23 (by decide) ?_
  refine lv_iconst (v := 5) hx hb dX0_mixRound_24 (by decide) ?_
  refine lv_bipush (v := 9) hx hb dX0_mixRound_25 (by decide) ?_
  refine lv_bipush (v := 13) hx hb dX0_mixRound_27 (by decide) ?_
  refine va_gets hx hb hT.2.2.1 hS hown k0 (fun _ h9 => h9) dX0_mixRound_29 ?_
  refine lv_iload_n hx hb dX0_mixRound_32 rfl (lv_at hl 1 rfl) ?_
  refine lv_iconst (v := 2) hx hb dX0_mixRound_33 (by decide) ?_
  refine lv_iadd hx hb dX0_mixRound_34 ?_
  refine kd_ti (16 * n + 2) hx hb hT.2.2.2 hS (by rw [es]; exact nI_add _ _) (by omega) (by decide) dX0_mixRound_35 ?_
  refine va_gets hx hb hT.2.2.1 hS hown k0 (fun _ h9 => h9) dX0_mixRound_36 ?_
  refine lv_iload_n hx hb dX0_mixRound_39 rfl (lv_at hl 1 rfl) ?_
  refine lv_iconst (v := 3) hx hb dX0_mixRound_40 (by decide) ?_
  refine lv_iadd hx hb dX0_mixRound_41 ?_
  refine kd_ti (16 * n + 3) hx hb hT.2.2.2 hS (by rw [es]; exact nI_add _ _) (by omega) (by decide) dX0_mixRound_42 ?_
  have hPc := hP.sub (ws' := [(h0, .inr (0, [.ref qh, .ref qm, .ref qv, .int bb, .long ab])), (qm, .inl (cA, 16, .inl mm)), (qv, .inl (cA, 16, .inl vo19))]) [0, 1, 2] rfl
  have hDc := hD.sub (ws' := [(h0, .inr (0, [.ref qh, .ref qm, .ref qv, .int bb, .long ab])), (qm, .inl (cA, 16, .inl mm)), (qv, .inl (cA, 16, .inl vo19))]) [0, 1, 2] (by decide) rfl
  have hFc := va_free (wc := [(h0, .inr (0, [.ref qh, .ref qm, .ref qv, .int bb, .long ab])), (qm, .inl (cA, 16, .inl mm)), (qv, .inl (cA, 16, .inl vo19))]) hD hS hA [0, 1, 2] rfl
  refine va_callv (va_runV (As := [.int 1, .int 5, .int 9, .int 13, .int (kd_PL (16 * n + 2)), .int (kd_PL (16 * n + 3))]) (rest := []) ⟨hx, hb, hml, hown, hts⟩ (cX0_mixFour_ok l dC dI cA tb H.size h0 qh qm qv mm vo19 bb ab 1 5 9 13 (kd_pl (16 * n + 2)) (kd_pl (16 * n + 3)) (by decide) (by decide) (by decide) (by decide) (kd_pl_lt _ (by omega)) (kd_pl_lt _ (by omega))) (cwV 6 hts gX0_mixRound_X0_mixFour rfl rfl rfl (by decide +kernel) ⟨Nat.le_of_ble_eq_true rfl, Nat.le_of_ble_eq_true rfl⟩) ⟨fun a U g mk q => kd_calling rfl rfl q, va_recv hK hPc (ci := 0) (q0 := 0) rfl rfl, fun U hU hW => ⟨rfl, kd_pre hPc hK hDc hT hS hFc U hU hW⟩⟩ rfl rfl hl.1 rfl (lv_room (Nat.le_of_ble_eq_true rfl)) dX0_mixRound_43 ⟨Nat.le_of_ble_eq_true rfl, Nat.le_of_ble_eq_true rfl⟩) hS (fun q _ h => hFc q h) hFc (fun u t H1 locs ht hvm hw hB hz1 hk1 hS => ?_)
  obtain ⟨vo43, rfl⟩ : ∃ z, z = u := ⟨_, rfl⟩
  have hw43 : vo43 = kd_G 1 5 9 13 (mm (kd_pl (16 * n + 2))) (mm (kd_pl (16 * n + 3))) vo19 := hw
  have hP1 : va_P (dC, dI) vwCl [(h0, .inr (0, [.ref qh, .ref qm, .ref qv, .int bb, .long ab])), (qm, .inl (cA, 16, .inl mm)), (qv, .inl (cA, 16, .inl vo43))] H1 := by rw [← ht]; exact hB.1
  have hD1 : va_D (va_A [(h0, .inr (0, [.ref qh, .ref qm, .ref qv, .int bb, .long ab])), (qm, .inl (cA, 16, .inl mm)), (qv, .inl (cA, 16, .inl vo19))] H.size) [(h0, .inr (0, [.ref qh, .ref qm, .ref qv, .int bb, .long ab])), (qm, .inl (cA, 16, .inl mm)), (qv, .inl (cA, 16, .inl vo43))] := hB.2.2
  obtain ⟨hP, hD⟩ := va_join (wr := []) (w1 := [(h0, .inr (0, [.ref qh, .ref qm, .ref qv, .int bb, .long ab])), (qm, .inl (cA, 16, .inl mm)), (qv, .inl (cA, 16, .inl vo43))]) hP hD [0, 1, 2] [] rfl rfl (by decide) (by decide) hk1 hFc hP1 hD1
  clear hw hB hk1 hPc hDc hFc hP1 hD1 hvm hz1
  generalize H1 = H at hP hS ⊢
  have hP : va_P (dC, dI) vwCl [(h0, .inr (0, [.ref qh, .ref qm, .ref qv, .int bb, .long ab])), (qm, .inl (cA, 16, .inl mm)), (qv, .inl (cA, 16, .inl vo43))] H := hP
  have hD : va_D A [(h0, .inr (0, [.ref qh, .ref qm, .ref qv, .int bb, .long ab])), (qm, .inl (cA, 16, .inl mm)), (qv, .inl (cA, 16, .inl vo43))] := hD
  refine lv_aload_n hx hb dX0_mixRound_46 rfl (lv_at hl 0 rfl) ?_
  refine lv_iconst (v := 2) hx hb dX0_mixRound_47 (by decide) ?_
  refine lv_bipush (v := 6) hx hb dX0_mixRound_48 (by decide) ?_
  refine lv_bipush (v := 10) hx hb dX0_mixRound_50 (by decide) ?_
  refine lv_bipush (v := 14) hx hb dX0_mixRound_52 (by decide) ?_
  refine va_gets hx hb hT.2.2.1 hS hown k0 (fun _ h9 => h9) dX0_mixRound_54 ?_
  refine lv_iload_n hx hb dX0_mixRound_57 rfl (lv_at hl 1 rfl) ?_
  refine lv_iconst (v := 4) hx hb dX0_mixRound_58 (by decide) ?_
  refine lv_iadd hx hb dX0_mixRound_59 ?_
  refine kd_ti (16 * n + 4) hx hb hT.2.2.2 hS (by rw [es]; exact nI_add _ _) (by omega) (by decide) dX0_mixRound_60 ?_
  refine va_gets hx hb hT.2.2.1 hS hown k0 (fun _ h9 => h9) dX0_mixRound_61 ?_
  refine lv_iload_n hx hb dX0_mixRound_64 rfl (lv_at hl 1 rfl) ?_
  refine lv_iconst (v := 5) hx hb dX0_mixRound_65 (by decide) ?_
  refine lv_iadd hx hb dX0_mixRound_66 ?_
  refine kd_ti (16 * n + 5) hx hb hT.2.2.2 hS (by rw [es]; exact nI_add _ _) (by omega) (by decide) dX0_mixRound_67 ?_
  have hPc := hP.sub (ws' := [(h0, .inr (0, [.ref qh, .ref qm, .ref qv, .int bb, .long ab])), (qm, .inl (cA, 16, .inl mm)), (qv, .inl (cA, 16, .inl vo43))]) [0, 1, 2] rfl
  have hDc := hD.sub (ws' := [(h0, .inr (0, [.ref qh, .ref qm, .ref qv, .int bb, .long ab])), (qm, .inl (cA, 16, .inl mm)), (qv, .inl (cA, 16, .inl vo43))]) [0, 1, 2] (by decide) rfl
  have hFc := va_free (wc := [(h0, .inr (0, [.ref qh, .ref qm, .ref qv, .int bb, .long ab])), (qm, .inl (cA, 16, .inl mm)), (qv, .inl (cA, 16, .inl vo43))]) hD hS hA [0, 1, 2] rfl
  refine va_callv (va_runV (As := [.int 2, .int 6, .int 10, .int 14, .int (kd_PL (16 * n + 4)), .int (kd_PL (16 * n + 5))]) (rest := []) ⟨hx, hb, hml, hown, hts⟩ (cX0_mixFour_ok l dC dI cA tb H.size h0 qh qm qv mm vo43 bb ab 2 6 10 14 (kd_pl (16 * n + 4)) (kd_pl (16 * n + 5)) (by decide) (by decide) (by decide) (by decide) (kd_pl_lt _ (by omega)) (kd_pl_lt _ (by omega))) (cwV 6 hts gX0_mixRound_X0_mixFour rfl rfl rfl (by decide +kernel) ⟨Nat.le_of_ble_eq_true rfl, Nat.le_of_ble_eq_true rfl⟩) ⟨fun a U g mk q => kd_calling rfl rfl q, va_recv hK hPc (ci := 0) (q0 := 0) rfl rfl, fun U hU hW => ⟨rfl, kd_pre hPc hK hDc hT hS hFc U hU hW⟩⟩ rfl rfl hl.1 rfl (lv_room (Nat.le_of_ble_eq_true rfl)) dX0_mixRound_68 ⟨Nat.le_of_ble_eq_true rfl, Nat.le_of_ble_eq_true rfl⟩) hS (fun q _ h => hFc q h) hFc (fun u t H1 locs ht hvm hw hB hz1 hk1 hS => ?_)
  obtain ⟨vo68, rfl⟩ : ∃ z, z = u := ⟨_, rfl⟩
  have hw68 : vo68 = kd_G 2 6 10 14 (mm (kd_pl (16 * n + 4))) (mm (kd_pl (16 * n + 5))) vo43 := hw
  have hP1 : va_P (dC, dI) vwCl [(h0, .inr (0, [.ref qh, .ref qm, .ref qv, .int bb, .long ab])), (qm, .inl (cA, 16, .inl mm)), (qv, .inl (cA, 16, .inl vo68))] H1 := by rw [← ht]; exact hB.1
  have hD1 : va_D (va_A [(h0, .inr (0, [.ref qh, .ref qm, .ref qv, .int bb, .long ab])), (qm, .inl (cA, 16, .inl mm)), (qv, .inl (cA, 16, .inl vo43))] H.size) [(h0, .inr (0, [.ref qh, .ref qm, .ref qv, .int bb, .long ab])), (qm, .inl (cA, 16, .inl mm)), (qv, .inl (cA, 16, .inl vo68))] := hB.2.2
  obtain ⟨hP, hD⟩ := va_join (wr := []) (w1 := [(h0, .inr (0, [.ref qh, .ref qm, .ref qv, .int bb, .long ab])), (qm, .inl (cA, 16, .inl mm)), (qv, .inl (cA, 16, .inl vo68))]) hP hD [0, 1, 2] [] rfl rfl (by decide) (by decide) hk1 hFc hP1 hD1
  clear hw hB hk1 hPc hDc hFc hP1 hD1 hvm hz1
  generalize H1 = H at hP hS ⊢
  have hP : va_P (dC, dI) vwCl [(h0, .inr (0, [.ref qh, .ref qm, .ref qv, .int bb, .long ab])), (qm, .inl (cA, 16, .inl mm)), (qv, .inl (cA, 16, .inl vo68))] H := hP
  have hD : va_D A [(h0, .inr (0, [.ref qh, .ref qm, .ref qv, .int bb, .long ab])), (qm, .inl (cA, 16, .inl mm)), (qv, .inl (cA, 16, .inl vo68))] := hD
  refine lv_aload_n hx hb dX0_mixRound_71 rfl (lv_at hl 0 rfl) ?_
  refine lv_iconst (v := 3) hx hb dX0_mixRound_72 (by decide) ?_
  refine lv_bipush (v := 7) hx hb dX0_mixRound_73 (by decide) ?_
  refine lv_bipush (v := 11) hx hb dX0_mixRound_75 (by decide) ?_
  refine lv_bipush (v := 15) hx hb dX0_mixRound_77 (by decide) ?_
  refine va_gets hx hb hT.2.2.1 hS hown k0 (fun _ h9 => h9) dX0_mixRound_79 ?_
  refine lv_iload_n hx hb dX0_mixRound_82 rfl (lv_at hl 1 rfl) ?_
  refine lv_bipush (v := 6) hx hb dX0_mixRound_83 (by decide) ?_
  refine lv_iadd hx hb dX0_mixRound_85 ?_
  refine kd_ti (16 * n + 6) hx hb hT.2.2.2 hS (by rw [es]; exact nI_add _ _) (by omega) (by decide) dX0_mixRound_86 ?_
  refine va_gets hx hb hT.2.2.1 hS hown k0 (fun _ h9 => h9) dX0_mixRound_87 ?_
  refine lv_iload_n hx hb dX0_mixRound_90 rfl (lv_at hl 1 rfl) ?_
  refine lv_bipush (v := 7) hx hb dX0_mixRound_91 (by decide) ?_
  refine lv_iadd hx hb dX0_mixRound_93 ?_
  refine kd_ti (16 * n + 7) hx hb hT.2.2.2 hS (by rw [es]; exact nI_add _ _) (by omega) (by decide) dX0_mixRound_94 ?_
  have hPc := hP.sub (ws' := [(h0, .inr (0, [.ref qh, .ref qm, .ref qv, .int bb, .long ab])), (qm, .inl (cA, 16, .inl mm)), (qv, .inl (cA, 16, .inl vo68))]) [0, 1, 2] rfl
  have hDc := hD.sub (ws' := [(h0, .inr (0, [.ref qh, .ref qm, .ref qv, .int bb, .long ab])), (qm, .inl (cA, 16, .inl mm)), (qv, .inl (cA, 16, .inl vo68))]) [0, 1, 2] (by decide) rfl
  have hFc := va_free (wc := [(h0, .inr (0, [.ref qh, .ref qm, .ref qv, .int bb, .long ab])), (qm, .inl (cA, 16, .inl mm)), (qv, .inl (cA, 16, .inl vo68))]) hD hS hA [0, 1, 2] rfl
  refine va_callv (va_runV (As := [.int 3, .int 7, .int 11, .int 15, .int (kd_PL (16 * n + 6)), .int (kd_PL (16 * n + 7))]) (rest := []) ⟨hx, hb, hml, hown, hts⟩ (cX0_mixFour_ok l dC dI cA tb H.size h0 qh qm qv mm vo68 bb ab 3 7 11 15 (kd_pl (16 * n + 6)) (kd_pl (16 * n + 7)) (by decide) (by decide) (by decide) (by decide) (kd_pl_lt _ (by omega)) (kd_pl_lt _ (by omega))) (cwV 6 hts gX0_mixRound_X0_mixFour rfl rfl rfl (by decide +kernel) ⟨Nat.le_of_ble_eq_true rfl, Nat.le_of_ble_eq_true rfl⟩) ⟨fun a U g mk q => kd_calling rfl rfl q, va_recv hK hPc (ci := 0) (q0 := 0) rfl rfl, fun U hU hW => ⟨rfl, kd_pre hPc hK hDc hT hS hFc U hU hW⟩⟩ rfl rfl hl.1 rfl (lv_room (Nat.le_of_ble_eq_true rfl)) dX0_mixRound_95 ⟨Nat.le_of_ble_eq_true rfl, Nat.le_of_ble_eq_true rfl⟩) hS (fun q _ h => hFc q h) hFc (fun u t H1 locs ht hvm hw hB hz1 hk1 hS => ?_)
  obtain ⟨vo95, rfl⟩ : ∃ z, z = u := ⟨_, rfl⟩
  have hw95 : vo95 = kd_G 3 7 11 15 (mm (kd_pl (16 * n + 6))) (mm (kd_pl (16 * n + 7))) vo68 := hw
  have hP1 : va_P (dC, dI) vwCl [(h0, .inr (0, [.ref qh, .ref qm, .ref qv, .int bb, .long ab])), (qm, .inl (cA, 16, .inl mm)), (qv, .inl (cA, 16, .inl vo95))] H1 := by rw [← ht]; exact hB.1
  have hD1 : va_D (va_A [(h0, .inr (0, [.ref qh, .ref qm, .ref qv, .int bb, .long ab])), (qm, .inl (cA, 16, .inl mm)), (qv, .inl (cA, 16, .inl vo68))] H.size) [(h0, .inr (0, [.ref qh, .ref qm, .ref qv, .int bb, .long ab])), (qm, .inl (cA, 16, .inl mm)), (qv, .inl (cA, 16, .inl vo95))] := hB.2.2
  obtain ⟨hP, hD⟩ := va_join (wr := []) (w1 := [(h0, .inr (0, [.ref qh, .ref qm, .ref qv, .int bb, .long ab])), (qm, .inl (cA, 16, .inl mm)), (qv, .inl (cA, 16, .inl vo95))]) hP hD [0, 1, 2] [] rfl rfl (by decide) (by decide) hk1 hFc hP1 hD1
  clear hw hB hk1 hPc hDc hFc hP1 hD1 hvm hz1
  generalize H1 = H at hP hS ⊢
  have hP : va_P (dC, dI) vwCl [(h0, .inr (0, [.ref qh, .ref qm, .ref qv, .int bb, .long ab])), (qm, .inl (cA, 16, .inl mm)), (qv, .inl (cA, 16, .inl vo95))] H := hP
  have hD : va_D A [(h0, .inr (0, [.ref qh, .ref qm, .ref qv, .int bb, .long ab])), (qm, .inl (cA, 16, .inl mm)), (qv, .inl (cA, 16, .inl vo95))] := hD
  refine lv_aload_n hx hb dX0_mixRound_98 rfl (lv_at hl 0 rfl) ?_
  refine lv_iconst (v := 0) hx hb dX0_mixRound_99 (by decide) ?_
  refine lv_iconst (v := 5) hx hb dX0_mixRound_100 (by decide) ?_
  refine lv_bipush (v := 10) hx hb dX0_mixRound_101 (by decide) ?_
  refine lv_bipush (v := 15) hx hb dX0_mixRound_103 (by decide) ?_
  refine va_gets hx hb hT.2.2.1 hS hown k0 (fun _ h9 => h9) dX0_mixRound_105 ?_
  refine lv_iload_n hx hb dX0_mixRound_108 rfl (lv_at hl 1 rfl) ?_
  refine lv_bipush (v := 8) hx hb dX0_mixRound_109 (by decide) ?_
  refine lv_iadd hx hb dX0_mixRound_111 ?_
  refine kd_ti (16 * n + 8) hx hb hT.2.2.2 hS (by rw [es]; exact nI_add _ _) (by omega) (by decide) dX0_mixRound_112 ?_
  refine va_gets hx hb hT.2.2.1 hS hown k0 (fun _ h9 => h9) dX0_mixRound_113 ?_
  refine lv_iload_n hx hb dX0_mixRound_116 rfl (lv_at hl 1 rfl) ?_
  refine lv_bipush (v := 9) hx hb dX0_mixRound_117 (by decide) ?_
  refine lv_iadd hx hb dX0_mixRound_119 ?_
  refine kd_ti (16 * n + 9) hx hb hT.2.2.2 hS (by rw [es]; exact nI_add _ _) (by omega) (by decide) dX0_mixRound_120 ?_
  have hPc := hP.sub (ws' := [(h0, .inr (0, [.ref qh, .ref qm, .ref qv, .int bb, .long ab])), (qm, .inl (cA, 16, .inl mm)), (qv, .inl (cA, 16, .inl vo95))]) [0, 1, 2] rfl
  have hDc := hD.sub (ws' := [(h0, .inr (0, [.ref qh, .ref qm, .ref qv, .int bb, .long ab])), (qm, .inl (cA, 16, .inl mm)), (qv, .inl (cA, 16, .inl vo95))]) [0, 1, 2] (by decide) rfl
  have hFc := va_free (wc := [(h0, .inr (0, [.ref qh, .ref qm, .ref qv, .int bb, .long ab])), (qm, .inl (cA, 16, .inl mm)), (qv, .inl (cA, 16, .inl vo95))]) hD hS hA [0, 1, 2] rfl
  refine va_callv (va_runV (As := [.int 0, .int 5, .int 10, .int 15, .int (kd_PL (16 * n + 8)), .int (kd_PL (16 * n + 9))]) (rest := []) ⟨hx, hb, hml, hown, hts⟩ (cX0_mixFour_ok l dC dI cA tb H.size h0 qh qm qv mm vo95 bb ab 0 5 10 15 (kd_pl (16 * n + 8)) (kd_pl (16 * n + 9)) (by decide) (by decide) (by decide) (by decide) (kd_pl_lt _ (by omega)) (kd_pl_lt _ (by omega))) (cwV 6 hts gX0_mixRound_X0_mixFour rfl rfl rfl (by decide +kernel) ⟨Nat.le_of_ble_eq_true rfl, Nat.le_of_ble_eq_true rfl⟩) ⟨fun a U g mk q => kd_calling rfl rfl q, va_recv hK hPc (ci := 0) (q0 := 0) rfl rfl, fun U hU hW => ⟨rfl, kd_pre hPc hK hDc hT hS hFc U hU hW⟩⟩ rfl rfl hl.1 rfl (lv_room (Nat.le_of_ble_eq_true rfl)) dX0_mixRound_121 ⟨Nat.le_of_ble_eq_true rfl, Nat.le_of_ble_eq_true rfl⟩) hS (fun q _ h => hFc q h) hFc (fun u t H1 locs ht hvm hw hB hz1 hk1 hS => ?_)
  obtain ⟨vo121, rfl⟩ : ∃ z, z = u := ⟨_, rfl⟩
  have hw121 : vo121 = kd_G 0 5 10 15 (mm (kd_pl (16 * n + 8))) (mm (kd_pl (16 * n + 9))) vo95 := hw
  have hP1 : va_P (dC, dI) vwCl [(h0, .inr (0, [.ref qh, .ref qm, .ref qv, .int bb, .long ab])), (qm, .inl (cA, 16, .inl mm)), (qv, .inl (cA, 16, .inl vo121))] H1 := by rw [← ht]; exact hB.1
  have hD1 : va_D (va_A [(h0, .inr (0, [.ref qh, .ref qm, .ref qv, .int bb, .long ab])), (qm, .inl (cA, 16, .inl mm)), (qv, .inl (cA, 16, .inl vo95))] H.size) [(h0, .inr (0, [.ref qh, .ref qm, .ref qv, .int bb, .long ab])), (qm, .inl (cA, 16, .inl mm)), (qv, .inl (cA, 16, .inl vo121))] := hB.2.2
  obtain ⟨hP, hD⟩ := va_join (wr := []) (w1 := [(h0, .inr (0, [.ref qh, .ref qm, .ref qv, .int bb, .long ab])), (qm, .inl (cA, 16, .inl mm)), (qv, .inl (cA, 16, .inl vo121))]) hP hD [0, 1, 2] [] rfl rfl (by decide) (by decide) hk1 hFc hP1 hD1
  clear hw hB hk1 hPc hDc hFc hP1 hD1 hvm hz1
  generalize H1 = H at hP hS ⊢
  have hP : va_P (dC, dI) vwCl [(h0, .inr (0, [.ref qh, .ref qm, .ref qv, .int bb, .long ab])), (qm, .inl (cA, 16, .inl mm)), (qv, .inl (cA, 16, .inl vo121))] H := hP
  have hD : va_D A [(h0, .inr (0, [.ref qh, .ref qm, .ref qv, .int bb, .long ab])), (qm, .inl (cA, 16, .inl mm)), (qv, .inl (cA, 16, .inl vo121))] := hD
  refine lv_aload_n hx hb dX0_mixRound_124 rfl (lv_at hl 0 rfl) ?_
  refine lv_iconst (v := 1) hx hb dX0_mixRound_125 (by decide) ?_
  refine lv_bipush (v := 6) hx hb dX0_mixRound_126 (by decide) ?_
  refine lv_bipush (v := 11) hx hb dX0_mixRound_128 (by decide) ?_
  refine lv_bipush (v := 12) hx hb dX0_mixRound_130 (by decide) ?_
  refine va_gets hx hb hT.2.2.1 hS hown k0 (fun _ h9 => h9) dX0_mixRound_132 ?_
  refine lv_iload_n hx hb dX0_mixRound_135 rfl (lv_at hl 1 rfl) ?_
  refine lv_bipush (v := 10) hx hb dX0_mixRound_136 (by decide) ?_
  refine lv_iadd hx hb dX0_mixRound_138 ?_
  refine kd_ti (16 * n + 10) hx hb hT.2.2.2 hS (by rw [es]; exact nI_add _ _) (by omega) (by decide) dX0_mixRound_139 ?_
  refine va_gets hx hb hT.2.2.1 hS hown k0 (fun _ h9 => h9) dX0_mixRound_140 ?_
  refine lv_iload_n hx hb dX0_mixRound_143 rfl (lv_at hl 1 rfl) ?_
  refine lv_bipush (v := 11) hx hb dX0_mixRound_144 (by decide) ?_
  refine lv_iadd hx hb dX0_mixRound_146 ?_
  refine kd_ti (16 * n + 11) hx hb hT.2.2.2 hS (by rw [es]; exact nI_add _ _) (by omega) (by decide) dX0_mixRound_147 ?_
  have hPc := hP.sub (ws' := [(h0, .inr (0, [.ref qh, .ref qm, .ref qv, .int bb, .long ab])), (qm, .inl (cA, 16, .inl mm)), (qv, .inl (cA, 16, .inl vo121))]) [0, 1, 2] rfl
  have hDc := hD.sub (ws' := [(h0, .inr (0, [.ref qh, .ref qm, .ref qv, .int bb, .long ab])), (qm, .inl (cA, 16, .inl mm)), (qv, .inl (cA, 16, .inl vo121))]) [0, 1, 2] (by decide) rfl
  have hFc := va_free (wc := [(h0, .inr (0, [.ref qh, .ref qm, .ref qv, .int bb, .long ab])), (qm, .inl (cA, 16, .inl mm)), (qv, .inl (cA, 16, .inl vo121))]) hD hS hA [0, 1, 2] rfl
  refine va_callv (va_runV (As := [.int 1, .int 6, .int 11, .int 12, .int (kd_PL (16 * n + 10)), .int (kd_PL (16 * n + 11))]) (rest := []) ⟨hx, hb, hml, hown, hts⟩ (cX0_mixFour_ok l dC dI cA tb H.size h0 qh qm qv mm vo121 bb ab 1 6 11 12 (kd_pl (16 * n + 10)) (kd_pl (16 * n + 11)) (by decide) (by decide) (by decide) (by decide) (kd_pl_lt _ (by omega)) (kd_pl_lt _ (by omega))) (cwV 6 hts gX0_mixRound_X0_mixFour rfl rfl rfl (by decide +kernel) ⟨Nat.le_of_ble_eq_true rfl, Nat.le_of_ble_eq_true rfl⟩) ⟨fun a U g mk q => kd_calling rfl rfl q, va_recv hK hPc (ci := 0) (q0 := 0) rfl rfl, fun U hU hW => ⟨rfl, kd_pre hPc hK hDc hT hS hFc U hU hW⟩⟩ rfl rfl hl.1 rfl (lv_room (Nat.le_of_ble_eq_true rfl)) dX0_mixRound_148 ⟨Nat.le_of_ble_eq_true rfl, Nat.le_of_ble_eq_true rfl⟩) hS (fun q _ h => hFc q h) hFc (fun u t H1 locs ht hvm hw hB hz1 hk1 hS => ?_)
  obtain ⟨vo148, rfl⟩ : ∃ z, z = u := ⟨_, rfl⟩
  have hw148 : vo148 = kd_G 1 6 11 12 (mm (kd_pl (16 * n + 10))) (mm (kd_pl (16 * n + 11))) vo121 := hw
  have hP1 : va_P (dC, dI) vwCl [(h0, .inr (0, [.ref qh, .ref qm, .ref qv, .int bb, .long ab])), (qm, .inl (cA, 16, .inl mm)), (qv, .inl (cA, 16, .inl vo148))] H1 := by rw [← ht]; exact hB.1
  have hD1 : va_D (va_A [(h0, .inr (0, [.ref qh, .ref qm, .ref qv, .int bb, .long ab])), (qm, .inl (cA, 16, .inl mm)), (qv, .inl (cA, 16, .inl vo121))] H.size) [(h0, .inr (0, [.ref qh, .ref qm, .ref qv, .int bb, .long ab])), (qm, .inl (cA, 16, .inl mm)), (qv, .inl (cA, 16, .inl vo148))] := hB.2.2
  obtain ⟨hP, hD⟩ := va_join (wr := []) (w1 := [(h0, .inr (0, [.ref qh, .ref qm, .ref qv, .int bb, .long ab])), (qm, .inl (cA, 16, .inl mm)), (qv, .inl (cA, 16, .inl vo148))]) hP hD [0, 1, 2] [] rfl rfl (by decide) (by decide) hk1 hFc hP1 hD1
  clear hw hB hk1 hPc hDc hFc hP1 hD1 hvm hz1
  generalize H1 = H at hP hS ⊢
  have hP : va_P (dC, dI) vwCl [(h0, .inr (0, [.ref qh, .ref qm, .ref qv, .int bb, .long ab])), (qm, .inl (cA, 16, .inl mm)), (qv, .inl (cA, 16, .inl vo148))] H := hP
  have hD : va_D A [(h0, .inr (0, [.ref qh, .ref qm, .ref qv, .int bb, .long ab])), (qm, .inl (cA, 16, .inl mm)), (qv, .inl (cA, 16, .inl vo148))] := hD
  refine lv_aload_n hx hb dX0_mixRound_151 rfl (lv_at hl 0 rfl) ?_
  refine lv_iconst (v := 2) hx hb dX0_mixRound_152 (by decide) ?_
  refine lv_bipush (v := 7) hx hb dX0_mixRound_153 (by decide) ?_
  refine lv_bipush (v := 8) hx hb dX0_mixRound_155 (by decide) ?_
  refine lv_bipush (v := 13) hx hb dX0_mixRound_157 (by decide) ?_
  refine va_gets hx hb hT.2.2.1 hS hown k0 (fun _ h9 => h9) dX0_mixRound_159 ?_
  refine lv_iload_n hx hb dX0_mixRound_162 rfl (lv_at hl 1 rfl) ?_
  refine lv_bipush (v := 12) hx hb dX0_mixRound_163 (by decide) ?_
  refine lv_iadd hx hb dX0_mixRound_165 ?_
  refine kd_ti (16 * n + 12) hx hb hT.2.2.2 hS (by rw [es]; exact nI_add _ _) (by omega) (by decide) dX0_mixRound_166 ?_
  refine va_gets hx hb hT.2.2.1 hS hown k0 (fun _ h9 => h9) dX0_mixRound_167 ?_
  refine lv_iload_n hx hb dX0_mixRound_170 rfl (lv_at hl 1 rfl) ?_
  refine lv_bipush (v := 13) hx hb dX0_mixRound_171 (by decide) ?_
  refine lv_iadd hx hb dX0_mixRound_173 ?_
  refine kd_ti (16 * n + 13) hx hb hT.2.2.2 hS (by rw [es]; exact nI_add _ _) (by omega) (by decide) dX0_mixRound_174 ?_
  have hPc := hP.sub (ws' := [(h0, .inr (0, [.ref qh, .ref qm, .ref qv, .int bb, .long ab])), (qm, .inl (cA, 16, .inl mm)), (qv, .inl (cA, 16, .inl vo148))]) [0, 1, 2] rfl
  have hDc := hD.sub (ws' := [(h0, .inr (0, [.ref qh, .ref qm, .ref qv, .int bb, .long ab])), (qm, .inl (cA, 16, .inl mm)), (qv, .inl (cA, 16, .inl vo148))]) [0, 1, 2] (by decide) rfl
  have hFc := va_free (wc := [(h0, .inr (0, [.ref qh, .ref qm, .ref qv, .int bb, .long ab])), (qm, .inl (cA, 16, .inl mm)), (qv, .inl (cA, 16, .inl vo148))]) hD hS hA [0, 1, 2] rfl
  refine va_callv (va_runV (As := [.int 2, .int 7, .int 8, .int 13, .int (kd_PL (16 * n + 12)), .int (kd_PL (16 * n + 13))]) (rest := []) ⟨hx, hb, hml, hown, hts⟩ (cX0_mixFour_ok l dC dI cA tb H.size h0 qh qm qv mm vo148 bb ab 2 7 8 13 (kd_pl (16 * n + 12)) (kd_pl (16 * n + 13)) (by decide) (by decide) (by decide) (by decide) (kd_pl_lt _ (by omega)) (kd_pl_lt _ (by omega))) (cwV 6 hts gX0_mixRound_X0_mixFour rfl rfl rfl (by decide +kernel) ⟨Nat.le_of_ble_eq_true rfl, Nat.le_of_ble_eq_true rfl⟩) ⟨fun a U g mk q => kd_calling rfl rfl q, va_recv hK hPc (ci := 0) (q0 := 0) rfl rfl, fun U hU hW => ⟨rfl, kd_pre hPc hK hDc hT hS hFc U hU hW⟩⟩ rfl rfl hl.1 rfl (lv_room (Nat.le_of_ble_eq_true rfl)) dX0_mixRound_175 ⟨Nat.le_of_ble_eq_true rfl, Nat.le_of_ble_eq_true rfl⟩) hS (fun q _ h => hFc q h) hFc (fun u t H1 locs ht hvm hw hB hz1 hk1 hS => ?_)
  obtain ⟨vo175, rfl⟩ : ∃ z, z = u := ⟨_, rfl⟩
  have hw175 : vo175 = kd_G 2 7 8 13 (mm (kd_pl (16 * n + 12))) (mm (kd_pl (16 * n + 13))) vo148 := hw
  have hP1 : va_P (dC, dI) vwCl [(h0, .inr (0, [.ref qh, .ref qm, .ref qv, .int bb, .long ab])), (qm, .inl (cA, 16, .inl mm)), (qv, .inl (cA, 16, .inl vo175))] H1 := by rw [← ht]; exact hB.1
  have hD1 : va_D (va_A [(h0, .inr (0, [.ref qh, .ref qm, .ref qv, .int bb, .long ab])), (qm, .inl (cA, 16, .inl mm)), (qv, .inl (cA, 16, .inl vo148))] H.size) [(h0, .inr (0, [.ref qh, .ref qm, .ref qv, .int bb, .long ab])), (qm, .inl (cA, 16, .inl mm)), (qv, .inl (cA, 16, .inl vo175))] := hB.2.2
  obtain ⟨hP, hD⟩ := va_join (wr := []) (w1 := [(h0, .inr (0, [.ref qh, .ref qm, .ref qv, .int bb, .long ab])), (qm, .inl (cA, 16, .inl mm)), (qv, .inl (cA, 16, .inl vo175))]) hP hD [0, 1, 2] [] rfl rfl (by decide) (by decide) hk1 hFc hP1 hD1
  clear hw hB hk1 hPc hDc hFc hP1 hD1 hvm hz1
  generalize H1 = H at hP hS ⊢
  have hP : va_P (dC, dI) vwCl [(h0, .inr (0, [.ref qh, .ref qm, .ref qv, .int bb, .long ab])), (qm, .inl (cA, 16, .inl mm)), (qv, .inl (cA, 16, .inl vo175))] H := hP
  have hD : va_D A [(h0, .inr (0, [.ref qh, .ref qm, .ref qv, .int bb, .long ab])), (qm, .inl (cA, 16, .inl mm)), (qv, .inl (cA, 16, .inl vo175))] := hD
  refine lv_aload_n hx hb dX0_mixRound_178 rfl (lv_at hl 0 rfl) ?_
  refine lv_iconst (v := 3) hx hb dX0_mixRound_179 (by decide) ?_
  refine lv_iconst (v := 4) hx hb dX0_mixRound_180 (by decide) ?_
  refine lv_bipush (v := 9) hx hb dX0_mixRound_181 (by decide) ?_
  refine lv_bipush (v := 14) hx hb dX0_mixRound_183 (by decide) ?_
  refine va_gets hx hb hT.2.2.1 hS hown k0 (fun _ h9 => h9) dX0_mixRound_185 ?_
  refine lv_iload_n hx hb dX0_mixRound_188 rfl (lv_at hl 1 rfl) ?_
  refine lv_bipush (v := 14) hx hb dX0_mixRound_189 (by decide) ?_
  refine lv_iadd hx hb dX0_mixRound_191 ?_
  refine kd_ti (16 * n + 14) hx hb hT.2.2.2 hS (by rw [es]; exact nI_add _ _) (by omega) (by decide) dX0_mixRound_192 ?_
  refine va_gets hx hb hT.2.2.1 hS hown k0 (fun _ h9 => h9) dX0_mixRound_193 ?_
  refine lv_iload_n hx hb dX0_mixRound_196 rfl (lv_at hl 1 rfl) ?_
  refine lv_bipush (v := 15) hx hb dX0_mixRound_197 (by decide) ?_
  refine lv_iadd hx hb dX0_mixRound_199 ?_
  refine kd_ti (16 * n + 15) hx hb hT.2.2.2 hS (by rw [es]; exact nI_add _ _) (by omega) (by decide) dX0_mixRound_200 ?_
  have hPc := hP.sub (ws' := [(h0, .inr (0, [.ref qh, .ref qm, .ref qv, .int bb, .long ab])), (qm, .inl (cA, 16, .inl mm)), (qv, .inl (cA, 16, .inl vo175))]) [0, 1, 2] rfl
  have hDc := hD.sub (ws' := [(h0, .inr (0, [.ref qh, .ref qm, .ref qv, .int bb, .long ab])), (qm, .inl (cA, 16, .inl mm)), (qv, .inl (cA, 16, .inl vo175))]) [0, 1, 2] (by decide) rfl
  have hFc := va_free (wc := [(h0, .inr (0, [.ref qh, .ref qm, .ref qv, .int bb, .long ab])), (qm, .inl (cA, 16, .inl mm)), (qv, .inl (cA, 16, .inl vo175))]) hD hS hA [0, 1, 2] rfl
  refine va_callv (va_runV (As := [.int 3, .int 4, .int 9, .int 14, .int (kd_PL (16 * n + 14)), .int (kd_PL (16 * n + 15))]) (rest := []) ⟨hx, hb, hml, hown, hts⟩ (cX0_mixFour_ok l dC dI cA tb H.size h0 qh qm qv mm vo175 bb ab 3 4 9 14 (kd_pl (16 * n + 14)) (kd_pl (16 * n + 15)) (by decide) (by decide) (by decide) (by decide) (kd_pl_lt _ (by omega)) (kd_pl_lt _ (by omega))) (cwV 6 hts gX0_mixRound_X0_mixFour rfl rfl rfl (by decide +kernel) ⟨Nat.le_of_ble_eq_true rfl, Nat.le_of_ble_eq_true rfl⟩) ⟨fun a U g mk q => kd_calling rfl rfl q, va_recv hK hPc (ci := 0) (q0 := 0) rfl rfl, fun U hU hW => ⟨rfl, kd_pre hPc hK hDc hT hS hFc U hU hW⟩⟩ rfl rfl hl.1 rfl (lv_room (Nat.le_of_ble_eq_true rfl)) dX0_mixRound_201 ⟨Nat.le_of_ble_eq_true rfl, Nat.le_of_ble_eq_true rfl⟩) hS (fun q _ h => hFc q h) hFc (fun u t H1 locs ht hvm hw hB hz1 hk1 hS => ?_)
  obtain ⟨vo201, rfl⟩ : ∃ z, z = u := ⟨_, rfl⟩
  have hw201 : vo201 = kd_G 3 4 9 14 (mm (kd_pl (16 * n + 14))) (mm (kd_pl (16 * n + 15))) vo175 := hw
  have hP1 : va_P (dC, dI) vwCl [(h0, .inr (0, [.ref qh, .ref qm, .ref qv, .int bb, .long ab])), (qm, .inl (cA, 16, .inl mm)), (qv, .inl (cA, 16, .inl vo201))] H1 := by rw [← ht]; exact hB.1
  have hD1 : va_D (va_A [(h0, .inr (0, [.ref qh, .ref qm, .ref qv, .int bb, .long ab])), (qm, .inl (cA, 16, .inl mm)), (qv, .inl (cA, 16, .inl vo175))] H.size) [(h0, .inr (0, [.ref qh, .ref qm, .ref qv, .int bb, .long ab])), (qm, .inl (cA, 16, .inl mm)), (qv, .inl (cA, 16, .inl vo201))] := hB.2.2
  obtain ⟨hP, hD⟩ := va_join (wr := []) (w1 := [(h0, .inr (0, [.ref qh, .ref qm, .ref qv, .int bb, .long ab])), (qm, .inl (cA, 16, .inl mm)), (qv, .inl (cA, 16, .inl vo201))]) hP hD [0, 1, 2] [] rfl rfl (by decide) (by decide) hk1 hFc hP1 hD1
  clear hw hB hk1 hPc hDc hFc hP1 hD1 hvm hz1
  generalize H1 = H at hP hS ⊢
  have hP : va_P (dC, dI) vwCl [(h0, .inr (0, [.ref qh, .ref qm, .ref qv, .int bb, .long ab])), (qm, .inl (cA, 16, .inl mm)), (qv, .inl (cA, 16, .inl vo201))] H := hP
  have hD : va_D A [(h0, .inr (0, [.ref qh, .ref qm, .ref qv, .int bb, .long ab])), (qm, .inl (cA, 16, .inl mm)), (qv, .inl (cA, 16, .inl vo201))] := hD
  have hP9 := hP.sub (ws' := [(h0, .inr (0, [.ref qh, .ref qm, .ref qv, .int bb, .long ab])), (qm, .inl (cA, 16, .inl mm)), (qv, .inl (cA, 16, .inl vo201))]) [0, 1, 2] rfl
  have hD9 := hD.sub (ws' := [(h0, .inr (0, [.ref qh, .ref qm, .ref qv, .int bb, .long ab])), (qm, .inl (cA, 16, .inl mm)), (qv, .inl (cA, 16, .inl vo201))]) [0, 1, 2] (by decide) rfl
  exact W.vret hx hb hr (fun t ht hW => ⟨⟨(vo201), rfl, (by dsimp only; rw [hw201, hw175, hw148, hw121, hw95, hw68, hw43, hw19]; rfl), by rw [ht]; exact hP9, va_K.moved hW.alike hK, hD9⟩, hS.F ht⟩) hS.2.2 dX0_mixRound_204

set_option maxHeartbeats 4000000 in
set_option maxRecDepth 100000 in
theorem cX0_mix_ok (l : Launch) (dC : Nat → ClassId) (dI : Nat → Nat → Nat) (cA : ClassId) (tb : Nat → Nat) (sz : Nat) (h0 : Nat) (qh : Nat) (qm : Nat) (qv : Nat) (hh : Nat → Int32) (mm : Nat → Int32) (vv : Nat → Int32) (bb : Int32) (ab : Int64) (lm : Int32) : Met l yX0_mix wsX0_mix ({ frames := 3, cells := 0, slots := 0, locals := 68 }) (va_Pc [.ref h0, .int lm] (kd_I (dC, dI) cA tb sz [(h0, .inr (0, [.ref qh, .ref qm, .ref qv, .int bb, .long ab])), (qh, .inl (cA, 8, .inl hh)), (qm, .inl (cA, 16, .inl mm)), (qv, .inl (cA, 16, .inl vv))])) (va_Qv (fun (u : (Nat → Int32)) => True) (fun u t => kd_O (dC, dI) cA (va_A [(h0, .inr (0, [.ref qh, .ref qm, .ref qv, .int bb, .long ab])), (qh, .inl (cA, 8, .inl hh)), (qm, .inl (cA, 16, .inl mm)), (qv, .inl (cA, 16, .inl vv))] sz) [(h0, .inr (0, [.ref qh, .ref qm, .ref qv, .int bb, .long ab])), (qh, .inl (cA, 8, .inl (kd_mix hh mm ab lm))), (qm, .inl (cA, 16, .inl mm)), (qv, .inl (cA, 16, .inl u))] t) (va_A [(h0, .inr (0, [.ref qh, .ref qm, .ref qv, .int bb, .long ab])), (qh, .inl (cA, 8, .inl hh)), (qm, .inl (cA, 16, .inl mm)), (qv, .inl (cA, 16, .inl vv))] sz)) 0 0 (va_A [(h0, .inr (0, [.ref qh, .ref qm, .ref qv, .int bb, .long ab])), (qh, .inl (cA, 8, .inl hh)), (qm, .inl (cA, 16, .inl mm)), (qv, .inl (cA, 16, .inl vv))] sz) := by
  refine Met.ofW (cc := cX0_mix) (maxL := 3) (ret := none) (by decide) rfl ?_
  intro p e s m args below meth c s₁ B hml hv
  obtain ⟨rfl, hsz, hP, hK, hD0, hT⟩ := hv
  have hx := B.exec
  have hb := B.bytes
  have hr := B.returns
  have hts := atoms_spec (ws := wsX0_mix) B.pre
  have hown : s.vm.findClass RX0 = some m.cls := findClass_of_methodNamed B.named
  have hlocks := B.notSynchronized
  have ki0 : ∀ w ∈ u_ws RX0 TX0 5, w ∈ wsX0_mix := by decide +kernel
  have k1 := hts (.fieldLink RX0 16 "KeyedDigest$Chain" "v" "[I") (by decide +kernel)
  have k2 := hts (.fieldLink RX0 23 "KeyedDigest$Chain" "allBytes" "J") (by decide +kernel)
  have k3 := hts (.fieldLink RX0 9 "KeyedDigest$Chain" "h" "[I") (by decide +kernel)
  have k4 := hts (.fieldLink RX0 27 "KeyedDigest$Chain" "IV" "[I") (by decide +kernel)
  subst hsz
  have hD := hD0.self (sz := s.heap.size)
  generalize hAe : va_A [(h0, .inr (0, [.ref qh, .ref qm, .ref qv, .int bb, .long ab])), (qh, .inl (cA, 8, .inl hh)), (qm, .inl (cA, 16, .inl mm)), (qv, .inl (cA, 16, .inl vv))] s.heap.size = A at hD hT ⊢
  have hA : ∀ q : Nat, s.heap.size ≤ q → A q := fun q h => by rw [← hAe]; exact Or.inr h
  have hS : va_S A s.heap s.heap [] := va_S.rf
  have hP : va_P (dC, dI) vwCl [(h0, .inr (0, [.ref qh, .ref qm, .ref qv, .int bb, .long ab])), (qh, .inl (cA, 8, .inl hh)), (qm, .inl (cA, 16, .inl mm)), (qv, .inl (cA, 16, .inl vv))] s.heap := hP
  have hl := lv_entry ([.ref h0, .int lm]) (n := 3) (Nat.le_of_ble_eq_true rfl)
  rw [lg_entry_eq]
  generalize (lg_sl ([.ref h0, .int lm]) ++ List.replicate (3 - (lg_sl ([.ref h0, .int lm])).length) Slot.unset).toArray = ls at hl ⊢
  have hl : lv_has ls 3 [(0, .ref h0), (1, .int lm)] := hl
  refine lv_iconst (v := 0) hx hb dX0_mix_0 (by decide) ?_
  refine lv_istore_n (lv' := [(2, .int 0), (0, .ref h0), (1, .int lm)]) hx hb dX0_mix_1 rfl hl (by decide) rfl (fun ls hl => ?_)
  have lp1 : ∀ (k : Nat) (i : Nat) (x : Int32) (f : Nat → Int32), (i ≤ 8) → (8 - i < k) → (x = nI i) → (∀ j, j < i → f j = hh j ∧ f (j + 8) = kd_iv j) → ∀ (H : Heap) (locs : List Loc) (ls : Array Slot), va_P (dC, dI) vwCl [(h0, .inr (0, [.ref qh, .ref qm, .ref qv, .int bb, .long ab])), (qh, .inl (cA, 8, .inl hh)), (qm, .inl (cA, 16, .inl mm)), (qv, .inl (cA, 16, .inl f))] H → va_D A [(h0, .inr (0, [.ref qh, .ref qm, .ref qv, .int bb, .long ab])), (qh, .inl (cA, 8, .inl hh)), (qm, .inl (cA, 16, .inl mm)), (qv, .inl (cA, 16, .inl f))] → va_S A s.heap H locs → lv_has ls 3 [(2, .int x), (0, .ref h0), (1, .int lm)] → W p l e (headSpec wsX0_mix { frames := 3, cells := 0, slots := 0, locals := 68 }).room s m ([.ref h0, .int lm]).toArray below meth c H locs 0 0 (MQ below (va_Qv (fun (u : (Nat → Int32)) => True) (fun u t => kd_O (dC, dI) cA A [(h0, .inr (0, [.ref qh, .ref qm, .ref qv, .int bb, .long ab])), (qh, .inl (cA, 8, .inl (kd_mix hh mm ab lm))), (qm, .inl (cA, 16, .inl mm)), (qv, .inl (cA, 16, .inl u))] t) A) ([.ref h0, .int lm]).toArray s 0 0 A) (F0 m 2 ls []) := by
    intro k
    induction k with
    | zero =>
      intro i x f hi hk ex hf
      omega
    | succ k ih =>
      intro i x f hi hk ex hf H locs ls hP hD hS hl
      refine lv_iload_n hx hb dX0_mix_2 rfl (lv_at hl 0 rfl) ?_
      refine lv_bipush (v := 8) hx hb dX0_mix_3 (by decide) ?_
      refine lv_icmp_ge (tgt := 40) hx hb dX0_mix_5 (by decide) (fun c5 => ?_) (fun c5 => ?_)
      · have hge : 8 ≤ i := kd_ge (n := 8) ex (by omega) (by decide) c5
        have hP := kd_arrP hP hD 3 rfl (kd_v00 hh) (fun j hj => kd_v00_of hf hge j hj)
        have hD := hD.set (p := 3) (e := .inl (cA, 16, .inl (kd_v00 hh))) rfl
        have hP : va_P (dC, dI) vwCl [(h0, .inr (0, [.ref qh, .ref qm, .ref qv, .int bb, .long ab])), (qh, .inl (cA, 8, .inl hh)), (qm, .inl (cA, 16, .inl mm)), (qv, .inl (cA, 16, .inl (kd_v00 hh)))] H := hP
        have hD : va_D A [(h0, .inr (0, [.ref qh, .ref qm, .ref qv, .int bb, .long ab])), (qh, .inl (cA, 8, .inl hh)), (qm, .inl (cA, 16, .inl mm)), (qv, .inl (cA, 16, .inl (kd_v00 hh)))] := hD
        refine lv_aload_n hx hb dX0_mix_40 rfl (lv_at hl 1 rfl) ?_
        refine va_get (D := (dC, dI)) (ci := 0) (v := .ref qv) (C := RX0) (T := TX0) (N := 5) hx hb hts ki0 hown hK hP 0 rfl rfl 2 (by decide) k1 (fun _ h9 => h9) rfl dX0_mix_41 ?_
        refine lv_bipush (v := 12) hx hb dX0_mix_44 (by decide) ?_
        refine lv_dup2_11 hx hb dX0_mix_46 rfl rfl ?_
        refine kd_ild 12 hx hb hK hP 3 0 rfl rfl rfl (by decide) (by decide) dX0_mix_47 ?_
        refine lv_aload_n hx hb dX0_mix_48 rfl (lv_at hl 1 rfl) ?_
        refine va_get (D := (dC, dI)) (ci := 0) (v := .long ab) (C := RX0) (T := TX0) (N := 5) hx hb hts ki0 hown hK hP 0 rfl rfl 4 (by decide) k2 (fun _ h9 => h9) rfl dX0_mix_49 ?_
        refine lv_l2i (v := ab.toInt32) hx hb dX0_mix_52 rfl ?_
        refine lv_ixor hx hb dX0_mix_53 ?_
        refine lv_topi (fun x54 ex54 => ?_)
        refine kd_ist 12 hx hb hK hP hD hS 3 0 rfl rfl rfl (by decide) (by decide) dX0_mix_54 (fun f54 ef54 H locs hP hD hS => ?_)
        have hP : va_P (dC, dI) vwCl [(h0, .inr (0, [.ref qh, .ref qm, .ref qv, .int bb, .long ab])), (qh, .inl (cA, 8, .inl hh)), (qm, .inl (cA, 16, .inl mm)), (qv, .inl (cA, 16, .inl f54))] H := hP
        have hD : va_D A [(h0, .inr (0, [.ref qh, .ref qm, .ref qv, .int bb, .long ab])), (qh, .inl (cA, 8, .inl hh)), (qm, .inl (cA, 16, .inl mm)), (qv, .inl (cA, 16, .inl f54))] := hD
        refine lv_aload_n hx hb dX0_mix_55 rfl (lv_at hl 1 rfl) ?_
        refine va_get (D := (dC, dI)) (ci := 0) (v := .ref qv) (C := RX0) (T := TX0) (N := 5) hx hb hts ki0 hown hK hP 0 rfl rfl 2 (by decide) k1 (fun _ h9 => h9) rfl dX0_mix_56 ?_
        refine lv_bipush (v := 13) hx hb dX0_mix_59 (by decide) ?_
        refine lv_dup2_11 hx hb dX0_mix_61 rfl rfl ?_
        refine kd_ild 13 hx hb hK hP 3 0 rfl rfl rfl (by decide) (by decide) dX0_mix_62 ?_
        refine lv_aload_n hx hb dX0_mix_63 rfl (lv_at hl 1 rfl) ?_
        refine va_get (D := (dC, dI)) (ci := 0) (v := .long ab) (C := RX0) (T := TX0) (N := 5) hx hb hts ki0 hown hK hP 0 rfl rfl 4 (by decide) k2 (fun _ h9 => h9) rfl dX0_mix_64 ?_
        refine lv_bipush (v := 32) hx hb dX0_mix_67 (by decide) ?_
        refine lv_lushr (v := kd_lushr ab 32) hx hb dX0_mix_69 rfl ?_
        refine lv_l2i (v := (kd_lushr ab 32).toInt32) hx hb dX0_mix_70 rfl ?_
        refine lv_ixor hx hb dX0_mix_71 ?_
        refine lv_topi (fun x72 ex72 => ?_)
        refine kd_ist 13 hx hb hK hP hD hS 3 0 rfl rfl rfl (by decide) (by decide) dX0_mix_72 (fun f72 ef72 H locs hP hD hS => ?_)
        have hP : va_P (dC, dI) vwCl [(h0, .inr (0, [.ref qh, .ref qm, .ref qv, .int bb, .long ab])), (qh, .inl (cA, 8, .inl hh)), (qm, .inl (cA, 16, .inl mm)), (qv, .inl (cA, 16, .inl f72))] H := hP
        have hD : va_D A [(h0, .inr (0, [.ref qh, .ref qm, .ref qv, .int bb, .long ab])), (qh, .inl (cA, 8, .inl hh)), (qm, .inl (cA, 16, .inl mm)), (qv, .inl (cA, 16, .inl f72))] := hD
        refine lv_aload_n hx hb dX0_mix_73 rfl (lv_at hl 1 rfl) ?_
        refine va_get (D := (dC, dI)) (ci := 0) (v := .ref qv) (C := RX0) (T := TX0) (N := 5) hx hb hts ki0 hown hK hP 0 rfl rfl 2 (by decide) k1 (fun _ h9 => h9) rfl dX0_mix_74 ?_
        refine lv_bipush (v := 14) hx hb dX0_mix_77 (by decide) ?_
        refine lv_dup2_11 hx hb dX0_mix_79 rfl rfl ?_
        refine kd_ild 14 hx hb hK hP 3 0 rfl rfl rfl (by decide) (by decide) dX0_mix_80 ?_
        refine lv_iload_n hx hb dX0_mix_81 rfl (lv_at hl 2 rfl) ?_
        refine lv_ixor hx hb dX0_mix_82 ?_
        refine lv_topi (fun x83 ex83 => ?_)
        refine kd_ist 14 hx hb hK hP hD hS 3 0 rfl rfl rfl (by decide) (by decide) dX0_mix_83 (fun f83 ef83 H locs hP hD hS => ?_)
        have hP : va_P (dC, dI) vwCl [(h0, .inr (0, [.ref qh, .ref qm, .ref qv, .int bb, .long ab])), (qh, .inl (cA, 8, .inl hh)), (qm, .inl (cA, 16, .inl mm)), (qv, .inl (cA, 16, .inl f83))] H := hP
        have hD : va_D A [(h0, .inr (0, [.ref qh, .ref qm, .ref qv, .int bb, .long ab])), (qh, .inl (cA, 8, .inl hh)), (qm, .inl (cA, 16, .inl mm)), (qv, .inl (cA, 16, .inl f83))] := hD
        obtain rfl : f83 = kd_v0 hh ab lm := by rw [ef83, ex83, ef72, ex72, ef54, ex54]; rfl
        have hP : va_P (dC, dI) vwCl [(h0, .inr (0, [.ref qh, .ref qm, .ref qv, .int bb, .long ab])), (qh, .inl (cA, 8, .inl hh)), (qm, .inl (cA, 16, .inl mm)), (qv, .inl (cA, 16, .inl (kd_v0 hh ab lm)))] H := hP
        have hD : va_D A [(h0, .inr (0, [.ref qh, .ref qm, .ref qv, .int bb, .long ab])), (qh, .inl (cA, 8, .inl hh)), (qm, .inl (cA, 16, .inl mm)), (qv, .inl (cA, 16, .inl (kd_v0 hh ab lm)))] := hD
        refine lv_iconst (v := 0) hx hb dX0_mix_84 (by decide) ?_
        refine lv_istore_n (lv' := [(2, .int 0), (0, .ref h0), (1, .int lm)]) hx hb dX0_mix_85 rfl hl (by decide) rfl (fun ls hl => ?_)
        have lp2 : ∀ (k : Nat) (n : Nat) (y : Int32) (g : Nat → Int32), (n ≤ 10) → (10 - n < k) → (y = nI n) → (g = kd_rounds mm n (kd_v0 hh ab lm)) → ∀ (H : Heap) (locs : List Loc) (ls : Array Slot), va_P (dC, dI) vwCl [(h0, .inr (0, [.ref qh, .ref qm, .ref qv, .int bb, .long ab])), (qh, .inl (cA, 8, .inl hh)), (qm, .inl (cA, 16, .inl mm)), (qv, .inl (cA, 16, .inl g))] H → va_D A [(h0, .inr (0, [.ref qh, .ref qm, .ref qv, .int bb, .long ab])), (qh, .inl (cA, 8, .inl hh)), (qm, .inl (cA, 16, .inl mm)), (qv, .inl (cA, 16, .inl g))] → va_S A s.heap H locs → lv_has ls 3 [(2, .int y), (0, .ref h0), (1, .int lm)] → W p l e (headSpec wsX0_mix { frames := 3, cells := 0, slots := 0, locals := 68 }).room s m ([.ref h0, .int lm]).toArray below meth c H locs 0 0 (MQ below (va_Qv (fun (u : (Nat → Int32)) => True) (fun u t => kd_O (dC, dI) cA A [(h0, .inr (0, [.ref qh, .ref qm, .ref qv, .int bb, .long ab])), (qh, .inl (cA, 8, .inl (kd_mix hh mm ab lm))), (qm, .inl (cA, 16, .inl mm)), (qv, .inl (cA, 16, .inl u))] t) A) ([.ref h0, .int lm]).toArray s 0 0 A) (F0 m 86 ls []) := by
          intro k
          induction k with
          | zero =>
            intro n y g hi hk ey hg
            omega
          | succ k ih =>
            intro n y g hi hk ey hg H locs ls hP hD hS hl
            refine lv_iload_n hx hb dX0_mix_86 rfl (lv_at hl 0 rfl) ?_
            refine lv_bipush (v := 10) hx hb dX0_mix_87 (by decide) ?_
            refine lv_icmp_ge (tgt := 106) hx hb dX0_mix_89 (by decide) (fun c89 => ?_) (fun c89 => ?_)
            · have hge : 10 ≤ n := kd_ge (n := 10) ey (by omega) (by decide) c89
              obtain rfl : n = 10 := by omega
              subst hg
              refine lv_iconst (v := 0) hx hb dX0_mix_106 (by decide) ?_
              refine lv_istore_n (lv' := [(2, .int 0), (0, .ref h0), (1, .int lm)]) hx hb dX0_mix_107 rfl hl (by decide) rfl (fun ls hl => ?_)
              have lp3 : ∀ (k : Nat) (j : Nat) (z : Int32) (g3 : Nat → Int32), (j ≤ 8) → (8 - j < k) → (z = nI j) → (∀ q, g3 q = if q < j then kd_mix hh mm ab lm q else hh q) → ∀ (H : Heap) (locs : List Loc) (ls : Array Slot), va_P (dC, dI) vwCl [(h0, .inr (0, [.ref qh, .ref qm, .ref qv, .int bb, .long ab])), (qh, .inl (cA, 8, .inl g3)), (qm, .inl (cA, 16, .inl mm)), (qv, .inl (cA, 16, .inl (kd_rounds mm 10 (kd_v0 hh ab lm))))] H → va_D A [(h0, .inr (0, [.ref qh, .ref qm, .ref qv, .int bb, .long ab])), (qh, .inl (cA, 8, .inl g3)), (qm, .inl (cA, 16, .inl mm)), (qv, .inl (cA, 16, .inl (kd_rounds mm 10 (kd_v0 hh ab lm))))] → va_S A s.heap H locs → lv_has ls 3 [(2, .int z), (0, .ref h0), (1, .int lm)] → W p l e (headSpec wsX0_mix { frames := 3, cells := 0, slots := 0, locals := 68 }).room s m ([.ref h0, .int lm]).toArray below meth c H locs 0 0 (MQ below (va_Qv (fun (u : (Nat → Int32)) => True) (fun u t => kd_O (dC, dI) cA A [(h0, .inr (0, [.ref qh, .ref qm, .ref qv, .int bb, .long ab])), (qh, .inl (cA, 8, .inl (kd_mix hh mm ab lm))), (qm, .inl (cA, 16, .inl mm)), (qv, .inl (cA, 16, .inl u))] t) A) ([.ref h0, .int lm]).toArray s 0 0 A) (F0 m 108 ls []) := by
                intro k
                induction k with
                | zero =>
                  intro j z g3 hi hk ez hg3
                  omega
                | succ k ih =>
                  intro j z g3 hi hk ez hg3 H locs ls hP hD hS hl
                  refine lv_iload_n hx hb dX0_mix_108 rfl (lv_at hl 0 rfl) ?_
                  refine lv_bipush (v := 8) hx hb dX0_mix_109 (by decide) ?_
                  refine lv_icmp_ge (tgt := 145) hx hb dX0_mix_111 (by decide) (fun c111 => ?_) (fun c111 => ?_)
                  · have hge : 8 ≤ j := kd_ge (n := 8) ez (by omega) (by decide) c111
                    have hP := kd_arrP hP hD 1 rfl (kd_mix hh mm ab lm) (fun q hq => by rw [hg3 q, if_pos (by omega)])
                    have hD := hD.set (p := 1) (e := .inl (cA, 8, .inl (kd_mix hh mm ab lm))) rfl
                    have hP : va_P (dC, dI) vwCl [(h0, .inr (0, [.ref qh, .ref qm, .ref qv, .int bb, .long ab])), (qh, .inl (cA, 8, .inl (kd_mix hh mm ab lm))), (qm, .inl (cA, 16, .inl mm)), (qv, .inl (cA, 16, .inl (kd_rounds mm 10 (kd_v0 hh ab lm))))] H := hP
                    have hD : va_D A [(h0, .inr (0, [.ref qh, .ref qm, .ref qv, .int bb, .long ab])), (qh, .inl (cA, 8, .inl (kd_mix hh mm ab lm))), (qm, .inl (cA, 16, .inl mm)), (qv, .inl (cA, 16, .inl (kd_rounds mm 10 (kd_v0 hh ab lm))))] := hD
                    have hP9 := hP.sub (ws' := [(h0, .inr (0, [.ref qh, .ref qm, .ref qv, .int bb, .long ab])), (qh, .inl (cA, 8, .inl (kd_mix hh mm ab lm))), (qm, .inl (cA, 16, .inl mm)), (qv, .inl (cA, 16, .inl (kd_rounds mm 10 (kd_v0 hh ab lm))))]) [0, 1, 2, 3] rfl
                    have hD9 := hD.sub (ws' := [(h0, .inr (0, [.ref qh, .ref qm, .ref qv, .int bb, .long ab])), (qh, .inl (cA, 8, .inl (kd_mix hh mm ab lm))), (qm, .inl (cA, 16, .inl mm)), (qv, .inl (cA, 16, .inl (kd_rounds mm 10 (kd_v0 hh ab lm))))]) [0, 1, 2, 3] (by decide) rfl
                    exact W.vret hx hb hr (fun t ht hW => ⟨⟨(kd_rounds mm 10 (kd_v0 hh ab lm)), rfl, trivial, by rw [ht]; exact hP9, va_K.moved hW.alike hK, hD9⟩, hS.F ht⟩) hS.2.2 dX0_mix_145
                  · have hlt : j < 8 := kd_lt (n := 8) ez (by omega) (by decide) c111
                    refine lv_aload_n hx hb dX0_mix_114 rfl (lv_at hl 1 rfl) ?_
                    refine va_get (D := (dC, dI)) (ci := 0) (v := .ref qh) (C := RX0) (T := TX0) (N := 5) hx hb hts ki0 hown hK hP 0 rfl rfl 0 (by decide) k3 (fun _ h9 => h9) rfl dX0_mix_115 ?_
                    refine lv_iload_n hx hb dX0_mix_118 rfl (lv_at hl 0 rfl) ?_
                    refine lv_dup2_11 hx hb dX0_mix_119 rfl rfl ?_
                    refine kd_ild j hx hb hK hP 1 0 rfl rfl ez hlt (by decide) dX0_mix_120 ?_
                    refine lv_aload_n hx hb dX0_mix_121 rfl (lv_at hl 1 rfl) ?_
                    refine va_get (D := (dC, dI)) (ci := 0) (v := .ref qv) (C := RX0) (T := TX0) (N := 5) hx hb hts ki0 hown hK hP 0 rfl rfl 2 (by decide) k1 (fun _ h9 => h9) rfl dX0_mix_122 ?_
                    refine lv_iload_n hx hb dX0_mix_125 rfl (lv_at hl 0 rfl) ?_
                    refine kd_ild j hx hb hK hP 3 0 rfl rfl ez (by omega) (by decide) dX0_mix_126 ?_
                    refine lv_aload_n hx hb dX0_mix_127 rfl (lv_at hl 1 rfl) ?_
                    refine va_get (D := (dC, dI)) (ci := 0) (v := .ref qv) (C := RX0) (T := TX0) (N := 5) hx hb hts ki0 hown hK hP 0 rfl rfl 2 (by decide) k1 (fun _ h9 => h9) rfl dX0_mix_128 ?_
                    refine lv_iload_n hx hb dX0_mix_131 rfl (lv_at hl 0 rfl) ?_
                    refine lv_bipush (v := 8) hx hb dX0_mix_132 (by decide) ?_
                    refine lv_iadd hx hb dX0_mix_134 ?_
                    refine kd_ild (j + 8) hx hb hK hP 3 0 rfl rfl (by rw [ez]; exact nI_add _ _) (by omega) (by decide) dX0_mix_135 ?_
                    refine lv_ixor hx hb dX0_mix_136 ?_
                    refine lv_ixor hx hb dX0_mix_137 ?_
                    refine lv_topi (fun x138 ex138 => ?_)
                    refine kd_ist j hx hb hK hP hD hS 1 0 rfl rfl ez hlt (by decide) dX0_mix_138 (fun f138 ef138 H locs hP hD hS => ?_)
                    have hP : va_P (dC, dI) vwCl [(h0, .inr (0, [.ref qh, .ref qm, .ref qv, .int bb, .long ab])), (qh, .inl (cA, 8, .inl f138)), (qm, .inl (cA, 16, .inl mm)), (qv, .inl (cA, 16, .inl (kd_rounds mm 10 (kd_v0 hh ab lm))))] H := hP
                    have hD : va_D A [(h0, .inr (0, [.ref qh, .ref qm, .ref qv, .int bb, .long ab])), (qh, .inl (cA, 8, .inl f138)), (qm, .inl (cA, 16, .inl mm)), (qv, .inl (cA, 16, .inl (kd_rounds mm 10 (kd_v0 hh ab lm))))] := hD
                    obtain ⟨x139, ex139⟩ : ∃ zz : Int32, zz = z + 1 := ⟨_, rfl⟩
                    refine lv_iinc (v := x139) (lv' := [(2, .int x139), (0, .ref h0), (1, .int lm)]) hx hb dX0_mix_139 hl (k := 0) rfl (by rw [ex139]; rfl) (by decide) rfl (fun ls hl => ?_)
                    refine lv_goto (tgt := 108) hx hb dX0_mix_142 (by decide) ?_
                    exact ih  (j + 1) x139 f138 (by omega) (by omega) (by rw [ex139, ez]; exact nI_1 j) (by rw [ef138, ex138]; exact kd_finStep hg3) _ _ ls (hP.sub [0, 1, 2, 3] rfl) (hD.sub [0, 1, 2, 3] (by decide) rfl) hS (lv_sub hl [0, 1, 2] rfl)
              exact lp3 9 0 0 hh (by omega) (by omega) rfl (fun q => (if_neg (Nat.not_lt_zero q)).symm) _ _ ls (hP.sub [0, 1, 2, 3] rfl) (hD.sub [0, 1, 2, 3] (by decide) rfl) hS (lv_sub hl [0, 1, 2] rfl)
            · have hlt : n < 10 := kd_lt (n := 10) ey (by omega) (by decide) c89
              refine lv_aload_n hx hb dX0_mix_92 rfl (lv_at hl 1 rfl) ?_
              refine lv_bipush (v := 16) hx hb dX0_mix_93 (by decide) ?_
              refine lv_iload_n hx hb dX0_mix_95 rfl (lv_at hl 0 rfl) ?_
              refine lv_imul hx hb dX0_mix_96 ?_
              have hPc := hP.sub (ws' := [(h0, .inr (0, [.ref qh, .ref qm, .ref qv, .int bb, .long ab])), (qm, .inl (cA, 16, .inl mm)), (qv, .inl (cA, 16, .inl g))]) [0, 2, 3] rfl
              have hDc := hD.sub (ws' := [(h0, .inr (0, [.ref qh, .ref qm, .ref qv, .int bb, .long ab])), (qm, .inl (cA, 16, .inl mm)), (qv, .inl (cA, 16, .inl g))]) [0, 2, 3] (by decide) rfl
              have hFc := va_free (wc := [(h0, .inr (0, [.ref qh, .ref qm, .ref qv, .int bb, .long ab])), (qm, .inl (cA, 16, .inl mm)), (qv, .inl (cA, 16, .inl g))]) hD hS hA [0, 2, 3] rfl
              refine va_callv (va_runV (As := [.int (16 * y)]) (rest := []) ⟨hx, hb, hml, hown, hts⟩ (cX0_mixRound_ok l dC dI cA tb H.size h0 qh qm qv mm g bb ab (16 * y) n hlt (by rw [ey]; exact pk_mul 16 n)) (cwV 1 hts gX0_mix_X0_mixRound rfl rfl rfl (by decide +kernel) ⟨Nat.le_of_ble_eq_true rfl, Nat.le_of_ble_eq_true rfl⟩) ⟨fun a U g mk q => kd_calling rfl rfl q, va_recv hK hPc (ci := 0) (q0 := 0) rfl rfl, fun U hU hW => ⟨rfl, kd_pre hPc hK hDc hT hS hFc U hU hW⟩⟩ rfl rfl hl.1 rfl (lv_room (Nat.le_of_ble_eq_true rfl)) dX0_mix_97 ⟨Nat.le_of_ble_eq_true rfl, Nat.le_of_ble_eq_true rfl⟩) hS (fun q _ h => hFc q h) hFc (fun u t H1 locs ht hvm hw hB hz1 hk1 hS => ?_)
              obtain ⟨vo97, rfl⟩ : ∃ z, z = u := ⟨_, rfl⟩
              have hw97 : vo97 = kd_round mm n g := hw
              have hP1 : va_P (dC, dI) vwCl [(h0, .inr (0, [.ref qh, .ref qm, .ref qv, .int bb, .long ab])), (qm, .inl (cA, 16, .inl mm)), (qv, .inl (cA, 16, .inl vo97))] H1 := by rw [← ht]; exact hB.1
              have hD1 : va_D (va_A [(h0, .inr (0, [.ref qh, .ref qm, .ref qv, .int bb, .long ab])), (qm, .inl (cA, 16, .inl mm)), (qv, .inl (cA, 16, .inl g))] H.size) [(h0, .inr (0, [.ref qh, .ref qm, .ref qv, .int bb, .long ab])), (qm, .inl (cA, 16, .inl mm)), (qv, .inl (cA, 16, .inl vo97))] := hB.2.2
              obtain ⟨hP, hD⟩ := va_join (wr := [(qh, .inl (cA, 8, .inl hh))]) (w1 := [(h0, .inr (0, [.ref qh, .ref qm, .ref qv, .int bb, .long ab])), (qm, .inl (cA, 16, .inl mm)), (qv, .inl (cA, 16, .inl vo97))]) hP hD [0, 2, 3] [1] rfl rfl (by decide) (by decide) hk1 hFc hP1 hD1
              clear hw hB hk1 hPc hDc hFc hP1 hD1 hvm hz1
              generalize H1 = H at hP hS ⊢
              have hP : va_P (dC, dI) vwCl [(qh, .inl (cA, 8, .inl hh)), (h0, .inr (0, [.ref qh, .ref qm, .ref qv, .int bb, .long ab])), (qm, .inl (cA, 16, .inl mm)), (qv, .inl (cA, 16, .inl vo97))] H := hP
              have hD : va_D A [(qh, .inl (cA, 8, .inl hh)), (h0, .inr (0, [.ref qh, .ref qm, .ref qv, .int bb, .long ab])), (qm, .inl (cA, 16, .inl mm)), (qv, .inl (cA, 16, .inl vo97))] := hD
              obtain ⟨x100, ex100⟩ : ∃ zz : Int32, zz = y + 1 := ⟨_, rfl⟩
              refine lv_iinc (v := x100) (lv' := [(2, .int x100), (0, .ref h0), (1, .int lm)]) hx hb dX0_mix_100 hl (k := 0) rfl (by rw [ex100]; rfl) (by decide) rfl (fun ls hl => ?_)
              refine lv_goto (tgt := 86) hx hb dX0_mix_103 (by decide) ?_
              exact ih  (n + 1) x100 vo97 (by omega) (by omega) (by rw [ex100, ey]; exact nI_1 n) (by rw [hw97, hg]; rfl) _ _ ls (hP.sub [1, 0, 2, 3] rfl) (hD.sub [1, 0, 2, 3] (by decide) rfl) hS (lv_sub hl [0, 1, 2] rfl)
        exact lp2 11 0 0 (kd_v0 hh ab lm) (by omega) (by omega) rfl rfl _ _ ls (hP.sub [0, 1, 2, 3] rfl) (hD.sub [0, 1, 2, 3] (by decide) rfl) hS (lv_sub hl [0, 1, 2] rfl)
      · have hlt : i < 8 := kd_lt (n := 8) ex (by omega) (by decide) c5
        refine lv_aload_n hx hb dX0_mix_8 rfl (lv_at hl 1 rfl) ?_
        refine va_get (D := (dC, dI)) (ci := 0) (v := .ref qv) (C := RX0) (T := TX0) (N := 5) hx hb hts ki0 hown hK hP 0 rfl rfl 2 (by decide) k1 (fun _ h9 => h9) rfl dX0_mix_9 ?_
        refine lv_iload_n hx hb dX0_mix_12 rfl (lv_at hl 0 rfl) ?_
        refine lv_aload_n hx hb dX0_mix_13 rfl (lv_at hl 1 rfl) ?_
        refine va_get (D := (dC, dI)) (ci := 0) (v := .ref qh) (C := RX0) (T := TX0) (N := 5) hx hb hts ki0 hown hK hP 0 rfl rfl 0 (by decide) k3 (fun _ h9 => h9) rfl dX0_mix_14 ?_
        refine lv_iload_n hx hb dX0_mix_17 rfl (lv_at hl 0 rfl) ?_
        refine kd_ild i hx hb hK hP 1 0 rfl rfl ex hlt (by decide) dX0_mix_18 ?_
        refine lv_topi (fun x19 ex19 => ?_)
        refine kd_ist i hx hb hK hP hD hS 3 0 rfl rfl ex (by omega) (by decide) dX0_mix_19 (fun f19 ef19 H locs hP hD hS => ?_)
        have hP : va_P (dC, dI) vwCl [(h0, .inr (0, [.ref qh, .ref qm, .ref qv, .int bb, .long ab])), (qh, .inl (cA, 8, .inl hh)), (qm, .inl (cA, 16, .inl mm)), (qv, .inl (cA, 16, .inl f19))] H := hP
        have hD : va_D A [(h0, .inr (0, [.ref qh, .ref qm, .ref qv, .int bb, .long ab])), (qh, .inl (cA, 8, .inl hh)), (qm, .inl (cA, 16, .inl mm)), (qv, .inl (cA, 16, .inl f19))] := hD
        refine lv_aload_n hx hb dX0_mix_20 rfl (lv_at hl 1 rfl) ?_
        refine va_get (D := (dC, dI)) (ci := 0) (v := .ref qv) (C := RX0) (T := TX0) (N := 5) hx hb hts ki0 hown hK hP 0 rfl rfl 2 (by decide) k1 (fun _ h9 => h9) rfl dX0_mix_21 ?_
        refine lv_iload_n hx hb dX0_mix_24 rfl (lv_at hl 0 rfl) ?_
        refine lv_bipush (v := 8) hx hb dX0_mix_25 (by decide) ?_
        refine lv_iadd hx hb dX0_mix_27 ?_
        refine va_gets hx hb hT.1 hS hown k4 (fun _ h9 => h9) dX0_mix_28 ?_
        refine lv_iload_n hx hb dX0_mix_31 rfl (lv_at hl 0 rfl) ?_
        refine kd_ti i hx hb hT.2.1 hS ex hlt (by decide) dX0_mix_32 ?_
        refine lv_topi (fun x33 ex33 => ?_)
        refine kd_ist (i + 8) hx hb hK hP hD hS 3 0 rfl rfl (by rw [ex]; exact nI_add _ _) (by omega) (by decide) dX0_mix_33 (fun f33 ef33 H locs hP hD hS => ?_)
        have hP : va_P (dC, dI) vwCl [(h0, .inr (0, [.ref qh, .ref qm, .ref qv, .int bb, .long ab])), (qh, .inl (cA, 8, .inl hh)), (qm, .inl (cA, 16, .inl mm)), (qv, .inl (cA, 16, .inl f33))] H := hP
        have hD : va_D A [(h0, .inr (0, [.ref qh, .ref qm, .ref qv, .int bb, .long ab])), (qh, .inl (cA, 8, .inl hh)), (qm, .inl (cA, 16, .inl mm)), (qv, .inl (cA, 16, .inl f33))] := hD
        obtain ⟨x34, ex34⟩ : ∃ zz : Int32, zz = x + 1 := ⟨_, rfl⟩
        refine lv_iinc (v := x34) (lv' := [(2, .int x34), (0, .ref h0), (1, .int lm)]) hx hb dX0_mix_34 hl (k := 0) rfl (by rw [ex34]; rfl) (by decide) rfl (fun ls hl => ?_)
        refine lv_goto (tgt := 2) hx hb dX0_mix_37 (by decide) ?_
        exact ih  (i + 1) x34 f33 (by omega) (by omega) (by rw [ex34, ex]; exact nI_1 i) (fun j hj => by rw [ef33, ef19, ex19, ex33]; exact kd_two hf hj hlt) _ _ ls (hP.sub [0, 1, 2, 3] rfl) (hD.sub [0, 1, 2, 3] (by decide) rfl) hS (lv_sub hl [0, 1, 2] rfl)
  exact lp1 9 0 0 vv (by omega) (by omega) rfl (fun j hj => absurd hj (Nat.not_lt_zero j)) _ _ ls (hP.sub [0, 1, 2, 3] rfl) (hD.sub [0, 1, 2, 3] (by decide) rfl) hS (lv_sub hl [0, 1, 2] rfl)
end
section
set_option maxHeartbeats 4000000 in
set_option maxRecDepth 100000 in
theorem cX0_mixLast_ok (l : Launch) (dC : Nat → ClassId) (dI : Nat → Nat → Nat) (cA : ClassId) (tb : Nat → Nat) (sz : Nat) (h0 : Nat) (qh : Nat) (qm : Nat) (qv : Nat) (hh : Nat → Int32) (mm : Nat → Int32) (vv : Nat → Int32) (bb : Int32) (ab : Int64) : Met l yX0_mixLast wsX0_mixLast ({ frames := 4, cells := 0, slots := 0, locals := 90 }) (va_Pc [.ref h0] (kd_I (dC, dI) cA tb sz [(h0, .inr (0, [.ref qh, .ref qm, .ref qv, .int bb, .long ab])), (qh, .inl (cA, 8, .inl hh)), (qm, .inl (cA, 16, .inl mm)), (qv, .inl (cA, 16, .inl vv))])) (va_Qv (fun (u : (Nat → Int32)) => True) (fun u t => kd_O (dC, dI) cA (va_A [(h0, .inr (0, [.ref qh, .ref qm, .ref qv, .int bb, .long ab])), (qh, .inl (cA, 8, .inl hh)), (qm, .inl (cA, 16, .inl mm)), (qv, .inl (cA, 16, .inl vv))] sz) [(h0, .inr (0, [.ref qh, .ref qm, .ref qv, .int bb, .long ab])), (qh, .inl (cA, 8, .inl (kd_mix hh mm ab (-1)))), (qm, .inl (cA, 16, .inl mm)), (qv, .inl (cA, 16, .inl u))] t) (va_A [(h0, .inr (0, [.ref qh, .ref qm, .ref qv, .int bb, .long ab])), (qh, .inl (cA, 8, .inl hh)), (qm, .inl (cA, 16, .inl mm)), (qv, .inl (cA, 16, .inl vv))] sz)) 0 0 (va_A [(h0, .inr (0, [.ref qh, .ref qm, .ref qv, .int bb, .long ab])), (qh, .inl (cA, 8, .inl hh)), (qm, .inl (cA, 16, .inl mm)), (qv, .inl (cA, 16, .inl vv))] sz) := by
  refine Met.ofW (cc := cX0_mixLast) (maxL := 1) (ret := none) (by decide) rfl ?_
  intro p e s m args below meth c s₁ B hml hv
  obtain ⟨rfl, hsz, hP, hK, hD0, hT⟩ := hv
  have hx := B.exec
  have hb := B.bytes
  have hr := B.returns
  have hts := atoms_spec (ws := wsX0_mixLast) B.pre
  have hown : s.vm.findClass RX0 = some m.cls := findClass_of_methodNamed B.named
  have hlocks := B.notSynchronized
  subst hsz
  have hD := hD0.self (sz := s.heap.size)
  generalize hAe : va_A [(h0, .inr (0, [.ref qh, .ref qm, .ref qv, .int bb, .long ab])), (qh, .inl (cA, 8, .inl hh)), (qm, .inl (cA, 16, .inl mm)), (qv, .inl (cA, 16, .inl vv))] s.heap.size = A at hD hT ⊢
  have hA : ∀ q : Nat, s.heap.size ≤ q → A q := fun q h => by rw [← hAe]; exact Or.inr h
  have hS : va_S A s.heap s.heap [] := va_S.rf
  have hP : va_P (dC, dI) vwCl [(h0, .inr (0, [.ref qh, .ref qm, .ref qv, .int bb, .long ab])), (qh, .inl (cA, 8, .inl hh)), (qm, .inl (cA, 16, .inl mm)), (qv, .inl (cA, 16, .inl vv))] s.heap := hP
  have hl := lv_entry ([.ref h0]) (n := 1) (Nat.le_of_ble_eq_true rfl)
  rw [lg_entry_eq]
  generalize (lg_sl ([.ref h0]) ++ List.replicate (1 - (lg_sl ([.ref h0])).length) Slot.unset).toArray = ls at hl ⊢
  have hl : lv_has ls 1 [(0, .ref h0)] := hl
  refine lv_aload_n hx hb dX0_mixLast_0 rfl (lv_at hl 0 rfl) ?_
  refine lv_iconst (v := (-1)) hx hb dX0_mixLast_1 (by decide) ?_
  have hPc := hP.sub (ws' := [(h0, .inr (0, [.ref qh, .ref qm, .ref qv, .int bb, .long ab])), (qh, .inl (cA, 8, .inl hh)), (qm, .inl (cA, 16, .inl mm)), (qv, .inl (cA, 16, .inl vv))]) [0, 1, 2, 3] rfl
  have hDc := hD.sub (ws' := [(h0, .inr (0, [.ref qh, .ref qm, .ref qv, .int bb, .long ab])), (qh, .inl (cA, 8, .inl hh)), (qm, .inl (cA, 16, .inl mm)), (qv, .inl (cA, 16, .inl vv))]) [0, 1, 2, 3] (by decide) rfl
  have hFc := va_free (wc := [(h0, .inr (0, [.ref qh, .ref qm, .ref qv, .int bb, .long ab])), (qh, .inl (cA, 8, .inl hh)), (qm, .inl (cA, 16, .inl mm)), (qv, .inl (cA, 16, .inl vv))]) hD hS hA [0, 1, 2, 3] rfl
  refine va_callv (va_runV (As := [.int (-1)]) (rest := []) ⟨hx, hb, hml, hown, hts⟩ (cX0_mix_ok l dC dI cA tb s.heap.size h0 qh qm qv hh mm vv bb ab (-1) ) (cwV 1 hts gX0_mixLast_X0_mix rfl rfl rfl (by decide +kernel) ⟨Nat.le_of_ble_eq_true rfl, Nat.le_of_ble_eq_true rfl⟩) ⟨fun a U g mk q => kd_calling rfl rfl q, va_recv hK hPc (ci := 0) (q0 := 0) rfl rfl, fun U hU hW => ⟨rfl, kd_pre hPc hK hDc hT hS hFc U hU hW⟩⟩ rfl rfl hl.1 rfl (lv_room (Nat.le_of_ble_eq_true rfl)) dX0_mixLast_2 ⟨Nat.le_of_ble_eq_true rfl, Nat.le_of_ble_eq_true rfl⟩) hS (fun q _ h => hFc q h) hFc (fun u t H1 locs ht hvm hw hB hz1 hk1 hS => ?_)
  obtain ⟨vo2, rfl⟩ : ∃ z, z = u := ⟨_, rfl⟩
  have hw2 : True := hw
  have hP1 : va_P (dC, dI) vwCl [(h0, .inr (0, [.ref qh, .ref qm, .ref qv, .int bb, .long ab])), (qh, .inl (cA, 8, .inl (kd_mix hh mm ab (-1)))), (qm, .inl (cA, 16, .inl mm)), (qv, .inl (cA, 16, .inl vo2))] H1 := by rw [← ht]; exact hB.1
  have hD1 : va_D (va_A [(h0, .inr (0, [.ref qh, .ref qm, .ref qv, .int bb, .long ab])), (qh, .inl (cA, 8, .inl hh)), (qm, .inl (cA, 16, .inl mm)), (qv, .inl (cA, 16, .inl vv))] s.heap.size) [(h0, .inr (0, [.ref qh, .ref qm, .ref qv, .int bb, .long ab])), (qh, .inl (cA, 8, .inl (kd_mix hh mm ab (-1)))), (qm, .inl (cA, 16, .inl mm)), (qv, .inl (cA, 16, .inl vo2))] := hB.2.2
  obtain ⟨hP, hD⟩ := va_join (wr := []) (w1 := [(h0, .inr (0, [.ref qh, .ref qm, .ref qv, .int bb, .long ab])), (qh, .inl (cA, 8, .inl (kd_mix hh mm ab (-1)))), (qm, .inl (cA, 16, .inl mm)), (qv, .inl (cA, 16, .inl vo2))]) hP hD [0, 1, 2, 3] [] rfl rfl (by decide) (by decide) hk1 hFc hP1 hD1
  clear hw hB hk1 hPc hDc hFc hP1 hD1 hvm hz1
  generalize H1 = H at hP hS ⊢
  have hP : va_P (dC, dI) vwCl [(h0, .inr (0, [.ref qh, .ref qm, .ref qv, .int bb, .long ab])), (qh, .inl (cA, 8, .inl (kd_mix hh mm ab (-1)))), (qm, .inl (cA, 16, .inl mm)), (qv, .inl (cA, 16, .inl vo2))] H := hP
  have hD : va_D A [(h0, .inr (0, [.ref qh, .ref qm, .ref qv, .int bb, .long ab])), (qh, .inl (cA, 8, .inl (kd_mix hh mm ab (-1)))), (qm, .inl (cA, 16, .inl mm)), (qv, .inl (cA, 16, .inl vo2))] := hD
  have hP9 := hP.sub (ws' := [(h0, .inr (0, [.ref qh, .ref qm, .ref qv, .int bb, .long ab])), (qh, .inl (cA, 8, .inl (kd_mix hh mm ab (-1)))), (qm, .inl (cA, 16, .inl mm)), (qv, .inl (cA, 16, .inl vo2))]) [0, 1, 2, 3] rfl
  have hD9 := hD.sub (ws' := [(h0, .inr (0, [.ref qh, .ref qm, .ref qv, .int bb, .long ab])), (qh, .inl (cA, 8, .inl (kd_mix hh mm ab (-1)))), (qm, .inl (cA, 16, .inl mm)), (qv, .inl (cA, 16, .inl vo2))]) [0, 1, 2, 3] (by decide) rfl
  exact W.vret hx hb hr (fun t ht hW => ⟨⟨(vo2), rfl, trivial, by rw [ht]; exact hP9, va_K.moved hW.alike hK, hD9⟩, hS.F ht⟩) hS.2.2 dX0_mixLast_5

set_option maxHeartbeats 4000000 in
set_option maxRecDepth 100000 in
theorem cX0_stateWord_ok (l : Launch) (dC : Nat → ClassId) (dI : Nat → Nat → Nat) (cA : ClassId) (tb : Nat → Nat) (sz : Nat) (h0 : Nat) (qh : Nat) (qm : Nat) (qv : Nat) (hh : Nat → Int32) (bb : Int32) (ab : Int64) (j : Nat) (hj : j < 8) : Met l yX0_stateWord wsX0_stateWord ({ frames := 0, cells := 0, slots := 0, locals := 0 }) (va_Pc [.ref h0, .int (nI j)] (kd_I (dC, dI) cA tb sz [(h0, .inr (0, [.ref qh, .ref qm, .ref qv, .int bb, .long ab])), (qh, .inl (cA, 8, .inl hh))])) (va_Qi (fun (r : Int32) (u : Unit) => r = hh j) (fun u t => kd_O (dC, dI) cA (va_A [(h0, .inr (0, [.ref qh, .ref qm, .ref qv, .int bb, .long ab])), (qh, .inl (cA, 8, .inl hh))] sz) [(h0, .inr (0, [.ref qh, .ref qm, .ref qv, .int bb, .long ab])), (qh, .inl (cA, 8, .inl hh))] t) (va_A [(h0, .inr (0, [.ref qh, .ref qm, .ref qv, .int bb, .long ab])), (qh, .inl (cA, 8, .inl hh))] sz)) 0 0 (va_A [(h0, .inr (0, [.ref qh, .ref qm, .ref qv, .int bb, .long ab])), (qh, .inl (cA, 8, .inl hh))] sz) := by
  refine Met.ofW (cc := cX0_stateWord) (maxL := 2) (ret := (some .int)) (by decide) rfl ?_
  intro p e s m args below meth c s₁ B hml hv
  obtain ⟨rfl, hsz, hP, hK, hD0, hT⟩ := hv
  have hx := B.exec
  have hb := B.bytes
  have hr := B.returns
  have hts := atoms_spec (ws := wsX0_stateWord) B.pre
  have hown : s.vm.findClass RX0 = some m.cls := findClass_of_methodNamed B.named
  have hlocks := B.notSynchronized
  have ki0 : ∀ w ∈ u_ws RX0 TX0 5, w ∈ wsX0_stateWord := by decide +kernel
  have k1 := hts (.fieldLink RX0 9 "KeyedDigest$Chain" "h" "[I") (by decide +kernel)
  subst hsz
  have hD := hD0.self (sz := s.heap.size)
  generalize hAe : va_A [(h0, .inr (0, [.ref qh, .ref qm, .ref qv, .int bb, .long ab])), (qh, .inl (cA, 8, .inl hh))] s.heap.size = A at hD hT ⊢
  have hA : ∀ q : Nat, s.heap.size ≤ q → A q := fun q h => by rw [← hAe]; exact Or.inr h
  have hS : va_S A s.heap s.heap [] := va_S.rf
  have hP : va_P (dC, dI) vwCl [(h0, .inr (0, [.ref qh, .ref qm, .ref qv, .int bb, .long ab])), (qh, .inl (cA, 8, .inl hh))] s.heap := hP
  have hl := lv_entry ([.ref h0, .int (nI j)]) (n := 2) (Nat.le_of_ble_eq_true rfl)
  rw [lg_entry_eq]
  generalize (lg_sl ([.ref h0, .int (nI j)]) ++ List.replicate (2 - (lg_sl ([.ref h0, .int (nI j)])).length) Slot.unset).toArray = ls at hl ⊢
  have hl : lv_has ls 2 [(0, .ref h0), (1, .int (nI j))] := hl
  refine lv_aload_n hx hb dX0_stateWord_0 rfl (lv_at hl 0 rfl) ?_
  refine va_get (D := (dC, dI)) (ci := 0) (v := .ref qh) (C := RX0) (T := TX0) (N := 5) hx hb hts ki0 hown hK hP 0 rfl rfl 0 (by decide) k1 (fun _ h9 => h9) rfl dX0_stateWord_1 ?_
  refine lv_iload_n hx hb dX0_stateWord_4 rfl (lv_at hl 1 rfl) ?_
  refine kd_ild j hx hb hK hP 1 0 rfl rfl rfl (by omega) (by decide) dX0_stateWord_5 ?_
  have hP9 := hP.sub (ws' := [(h0, .inr (0, [.ref qh, .ref qm, .ref qv, .int bb, .long ab])), (qh, .inl (cA, 8, .inl hh))]) [0, 1] rfl
  have hD9 := hD.sub (ws' := [(h0, .inr (0, [.ref qh, .ref qm, .ref qv, .int bb, .long ab])), (qh, .inl (cA, 8, .inl hh))]) [0, 1] (by decide) rfl
  exact W.iret (v := hh j) hx hb hr (fun t ht hW => ⟨⟨hh j, (), rfl, rfl, by rw [ht]; exact hP9, va_K.moved hW.alike hK, hD9⟩, hS.F ht⟩) hS.2.2 dX0_stateWord_6

set_option maxHeartbeats 4000000 in
set_option maxRecDepth 100000 in
theorem cX0_stateByte_ok (l : Launch) (dC : Nat → ClassId) (dI : Nat → Nat → Nat) (cA : ClassId) (tb : Nat → Nat) (sz : Nat) (h0 : Nat) (qh : Nat) (qm : Nat) (qv : Nat) (hh : Nat → Int32) (bb : Int32) (ab : Int64) (j : Nat) (hj : j < 32) : Met l yX0_stateByte wsX0_stateByte ({ frames := 0, cells := 0, slots := 0, locals := 0 }) (va_Pc [.ref h0, .int (nI j)] (kd_I (dC, dI) cA tb sz [(h0, .inr (0, [.ref qh, .ref qm, .ref qv, .int bb, .long ab])), (qh, .inl (cA, 8, .inl hh))])) (va_Qi (fun (r : Int32) (u : Unit) => r = kd_ushr (hh (j / 4)) (8 * (nI j &&& 3)) &&& 255) (fun u t => kd_O (dC, dI) cA (va_A [(h0, .inr (0, [.ref qh, .ref qm, .ref qv, .int bb, .long ab])), (qh, .inl (cA, 8, .inl hh))] sz) [(h0, .inr (0, [.ref qh, .ref qm, .ref qv, .int bb, .long ab])), (qh, .inl (cA, 8, .inl hh))] t) (va_A [(h0, .inr (0, [.ref qh, .ref qm, .ref qv, .int bb, .long ab])), (qh, .inl (cA, 8, .inl hh))] sz)) 0 0 (va_A [(h0, .inr (0, [.ref qh, .ref qm, .ref qv, .int bb, .long ab])), (qh, .inl (cA, 8, .inl hh))] sz) := by
  refine Met.ofW (cc := cX0_stateByte) (maxL := 2) (ret := (some .int)) (by decide) rfl ?_
  intro p e s m args below meth c s₁ B hml hv
  obtain ⟨rfl, hsz, hP, hK, hD0, hT⟩ := hv
  have hx := B.exec
  have hb := B.bytes
  have hr := B.returns
  have hts := atoms_spec (ws := wsX0_stateByte) B.pre
  have hown : s.vm.findClass RX0 = some m.cls := findClass_of_methodNamed B.named
  have hlocks := B.notSynchronized
  have ki0 : ∀ w ∈ u_ws RX0 TX0 5, w ∈ wsX0_stateByte := by decide +kernel
  have k1 := hts (.fieldLink RX0 9 "KeyedDigest$Chain" "h" "[I") (by decide +kernel)
  subst hsz
  have hD := hD0.self (sz := s.heap.size)
  generalize hAe : va_A [(h0, .inr (0, [.ref qh, .ref qm, .ref qv, .int bb, .long ab])), (qh, .inl (cA, 8, .inl hh))] s.heap.size = A at hD hT ⊢
  have hA : ∀ q : Nat, s.heap.size ≤ q → A q := fun q h => by rw [← hAe]; exact Or.inr h
  have hS : va_S A s.heap s.heap [] := va_S.rf
  have hP : va_P (dC, dI) vwCl [(h0, .inr (0, [.ref qh, .ref qm, .ref qv, .int bb, .long ab])), (qh, .inl (cA, 8, .inl hh))] s.heap := hP
  have hl := lv_entry ([.ref h0, .int (nI j)]) (n := 2) (Nat.le_of_ble_eq_true rfl)
  rw [lg_entry_eq]
  generalize (lg_sl ([.ref h0, .int (nI j)]) ++ List.replicate (2 - (lg_sl ([.ref h0, .int (nI j)])).length) Slot.unset).toArray = ls at hl ⊢
  have hl : lv_has ls 2 [(0, .ref h0), (1, .int (nI j))] := hl
  refine lv_aload_n hx hb dX0_stateByte_0 rfl (lv_at hl 0 rfl) ?_
  refine va_get (D := (dC, dI)) (ci := 0) (v := .ref qh) (C := RX0) (T := TX0) (N := 5) hx hb hts ki0 hown hK hP 0 rfl rfl 0 (by decide) k1 (fun _ h9 => h9) rfl dX0_stateByte_1 ?_
  refine lv_iload_n hx hb dX0_stateByte_4 rfl (lv_at hl 1 rfl) ?_
  refine lv_iconst (v := 2) hx hb dX0_stateByte_5 (by decide) ?_
  refine lv_ishr hx hb dX0_stateByte_6 ?_
  refine kd_ild (j / 4) hx hb hK hP 1 0 rfl rfl (kd_shr2 (by omega)) (by omega) (by decide) dX0_stateByte_7 ?_
  refine lv_bipush (v := 8) hx hb dX0_stateByte_8 (by decide) ?_
  refine lv_iload_n hx hb dX0_stateByte_10 rfl (lv_at hl 1 rfl) ?_
  refine lv_iconst (v := 3) hx hb dX0_stateByte_11 (by decide) ?_
  refine lv_iand hx hb dX0_stateByte_12 ?_
  refine lv_imul hx hb dX0_stateByte_13 ?_
  refine lv_iushr (v := kd_ushr (hh (j / 4)) (8 * ((nI j) &&& 3))) hx hb dX0_stateByte_14 rfl ?_
  refine lv_sipush (v := 255) hx hb dX0_stateByte_15 (by decide) ?_
  refine lv_iand hx hb dX0_stateByte_18 ?_
  have hP9 := hP.sub (ws' := [(h0, .inr (0, [.ref qh, .ref qm, .ref qv, .int bb, .long ab])), (qh, .inl (cA, 8, .inl hh))]) [0, 1] rfl
  have hD9 := hD.sub (ws' := [(h0, .inr (0, [.ref qh, .ref qm, .ref qv, .int bb, .long ab])), (qh, .inl (cA, 8, .inl hh))]) [0, 1] (by decide) rfl
  exact W.iret (v := (kd_ushr (hh (j / 4)) (8 * ((nI j) &&& 3))) &&& 255) hx hb hr (fun t ht hW => ⟨⟨(kd_ushr (hh (j / 4)) (8 * ((nI j) &&& 3))) &&& 255, (), rfl, rfl, by rw [ht]; exact hP9, va_K.moved hW.alike hK, hD9⟩, hS.F ht⟩) hS.2.2 dX0_stateByte_19

set_option maxHeartbeats 4000000 in
set_option maxRecDepth 100000 in
theorem cX0_init_ok (l : Launch) (dC : Nat → ClassId) (dI : Nat → Nat → Nat) (cA : ClassId) (tb : Nat → Nat) (sz : Nat) (h0 : Nat) : Met l yX0_init wsX0_init ({ frames := 1, cells := 3, slots := 40, locals := 24 }) (va_Pc [.ref h0] (kd_I (dC, dI) cA tb sz [(h0, .inr (0, [.null, .null, .null, .int 0, .long 0]))])) (va_Qv (fun (u : Nat × Nat × Nat) => True) (fun u t => kd_O (dC, dI) cA (va_A [(h0, .inr (0, [.null, .null, .null, .int 0, .long 0]))] sz) [(h0, .inr (0, [.ref u.1, .ref u.2.1, .ref u.2.2, .int 0, .long 0])), (u.1, .inl (cA, 8, .inl kd_0)), (u.2.1, .inl (cA, 16, .inl kd_0)), (u.2.2, .inl (cA, 16, .inl kd_0))] t) (va_A [(h0, .inr (0, [.null, .null, .null, .int 0, .long 0]))] sz)) 3 40 (va_A [(h0, .inr (0, [.null, .null, .null, .int 0, .long 0]))] sz) := by
  refine Met.ofW (cc := cX0_init) (maxL := 1) (ret := none) (by decide) rfl ?_
  intro p e s m args below meth c s₁ B hml hv
  obtain ⟨rfl, hsz, hP, hK, hD0, hT⟩ := hv
  have hx := B.exec
  have hb := B.bytes
  have hr := B.returns
  have hts := atoms_spec (ws := wsX0_init) B.pre
  have hown : s.vm.findClass RX0 = some m.cls := findClass_of_methodNamed B.named
  have hlocks := B.notSynchronized
  have k0 := hts (.arrayClass .int) (by decide +kernel)
  have ki0 : ∀ w ∈ u_ws RX0 TX0 5, w ∈ wsX0_init := by decide +kernel
  have k2 := hts (.fieldLink RX0 9 "KeyedDigest$Chain" "h" "[I") (by decide +kernel)
  have k3 := hts (.fieldLink RX0 13 "KeyedDigest$Chain" "m" "[I") (by decide +kernel)
  have k4 := hts (.fieldLink RX0 16 "KeyedDigest$Chain" "v" "[I") (by decide +kernel)
  have k5 := hts (.fieldLink RX0 19 "KeyedDigest$Chain" "blockBytes" "I") (by decide +kernel)
  have k6 := hts (.fieldLink RX0 23 "KeyedDigest$Chain" "allBytes" "J") (by decide +kernel)
  have hin : meth.name = "<init>" := (name_of_methodNamed B.named B.method).1
  subst hsz
  have hD := hD0.self (sz := s.heap.size)
  generalize hAe : va_A [(h0, .inr (0, [.null, .null, .null, .int 0, .long 0]))] s.heap.size = A at hD hT ⊢
  have hA : ∀ q : Nat, s.heap.size ≤ q → A q := fun q h => by rw [← hAe]; exact Or.inr h
  have hS : va_S A s.heap s.heap [] := va_S.rf
  have hP : va_P (dC, dI) vwCl [(h0, .inr (0, [.null, .null, .null, .int 0, .long 0]))] s.heap := hP
  have hl := lv_entry ([.ref h0]) (n := 1) (Nat.le_of_ble_eq_true rfl)
  rw [lg_entry_eq]
  generalize (lg_sl ([.ref h0]) ++ List.replicate (1 - (lg_sl ([.ref h0])).length) Slot.unset).toArray = ls at hl ⊢
  have hl : lv_has ls 1 [(0, .ref h0)] := hl
  refine lv_aload_n hx hb dX0_init_0 rfl (lv_at hl 0 rfl) ?_
  refine W.objInit hx hb hown (hts (.methodLink RX0 1 objectInit) (by decide +kernel)) (hts (.instanceMethod objectInit) (by decide +kernel)) (hts (.code objectInit ⟨#[0xb1]⟩ 1 none) (by decide +kernel)) rfl (by rw [hml]; exact hl.1) rfl dX0_init_1 (Nat.le_of_ble_eq_true rfl) (Nat.le_of_ble_eq_true rfl) ?_
  refine W.eq (g2 := F0 m 4 ls []) rfl ?_
  refine lv_aload_n hx hb dX0_init_4 rfl (lv_at hl 0 rfl) ?_
  refine lv_bipush (v := 8) hx hb dX0_init_5 (by decide) ?_
  refine kd_newa hx hb k0 hK hP hD hS hA (n := 8) (N := 8) (by decide) (by decide) (by decide) (Nat.le_of_ble_eq_true rfl) (Nat.le_of_ble_eq_true rfl) dX0_init_7 (fun q7 H hP hD hS => ?_)
  have hP : va_P (dC, dI) vwCl [(h0, .inr (0, [.null, .null, .null, .int 0, .long 0])), (q7, .inl (cA, 8, .inl (fun _ => 0)))] H := hP
  have hD : va_D A [(h0, .inr (0, [.null, .null, .null, .int 0, .long 0])), (q7, .inl (cA, 8, .inl (fun _ => 0)))] := hD
  refine W.widen (k := 1) (n := 8) (by omega) (by omega) ?_
  refine va_putF (D := (dC, dI)) (ci := 0) (v := .ref q7) (ty := .array .int) (C := RX0) (T := TX0) (N := 5) hx hb hts ki0 tyX0 tyX0_ok nmX0 hown hK hP hD hS 0 rfl rfl 0 (by decide) k2 (fun _ h9 => h9) rfl hin rfl (by decide +kernel) rfl rfl (Nat.le_of_ble_eq_true rfl) dX0_init_9 (fun H locs hP hD hS => ?_)
  have hP : va_P (dC, dI) vwCl [(h0, .inr (0, [.ref q7, .null, .null, .int 0, .long 0])), (q7, .inl (cA, 8, .inl (fun _ => 0)))] H := hP
  have hD : va_D A [(h0, .inr (0, [.ref q7, .null, .null, .int 0, .long 0])), (q7, .inl (cA, 8, .inl (fun _ => 0)))] := hD
  refine lv_aload_n hx hb dX0_init_12 rfl (lv_at hl 0 rfl) ?_
  refine lv_bipush (v := 16) hx hb dX0_init_13 (by decide) ?_
  refine kd_newa hx hb k0 hK hP hD hS hA (n := 16) (N := 16) (by decide) (by decide) (by decide) (Nat.le_of_ble_eq_true rfl) (Nat.le_of_ble_eq_true rfl) dX0_init_15 (fun q15 H hP hD hS => ?_)
  have hP : va_P (dC, dI) vwCl [(h0, .inr (0, [.ref q7, .null, .null, .int 0, .long 0])), (q7, .inl (cA, 8, .inl (fun _ => 0))), (q15, .inl (cA, 16, .inl (fun _ => 0)))] H := hP
  have hD : va_D A [(h0, .inr (0, [.ref q7, .null, .null, .int 0, .long 0])), (q7, .inl (cA, 8, .inl (fun _ => 0))), (q15, .inl (cA, 16, .inl (fun _ => 0)))] := hD
  refine W.widen (k := 2) (n := 24) (by omega) (by omega) ?_
  refine va_putF (D := (dC, dI)) (ci := 0) (v := .ref q15) (ty := .array .int) (C := RX0) (T := TX0) (N := 5) hx hb hts ki0 tyX0 tyX0_ok nmX0 hown hK hP hD hS 0 rfl rfl 1 (by decide) k3 (fun _ h9 => h9) rfl hin rfl (by decide +kernel) rfl rfl (Nat.le_of_ble_eq_true rfl) dX0_init_17 (fun H locs hP hD hS => ?_)
  have hP : va_P (dC, dI) vwCl [(h0, .inr (0, [.ref q7, .ref q15, .null, .int 0, .long 0])), (q7, .inl (cA, 8, .inl (fun _ => 0))), (q15, .inl (cA, 16, .inl (fun _ => 0)))] H := hP
  have hD : va_D A [(h0, .inr (0, [.ref q7, .ref q15, .null, .int 0, .long 0])), (q7, .inl (cA, 8, .inl (fun _ => 0))), (q15, .inl (cA, 16, .inl (fun _ => 0)))] := hD
  refine lv_aload_n hx hb dX0_init_20 rfl (lv_at hl 0 rfl) ?_
  refine lv_bipush (v := 16) hx hb dX0_init_21 (by decide) ?_
  refine kd_newa hx hb k0 hK hP hD hS hA (n := 16) (N := 16) (by decide) (by decide) (by decide) (Nat.le_of_ble_eq_true rfl) (Nat.le_of_ble_eq_true rfl) dX0_init_23 (fun q23 H hP hD hS => ?_)
  have hP : va_P (dC, dI) vwCl [(h0, .inr (0, [.ref q7, .ref q15, .null, .int 0, .long 0])), (q7, .inl (cA, 8, .inl (fun _ => 0))), (q15, .inl (cA, 16, .inl (fun _ => 0))), (q23, .inl (cA, 16, .inl (fun _ => 0)))] H := hP
  have hD : va_D A [(h0, .inr (0, [.ref q7, .ref q15, .null, .int 0, .long 0])), (q7, .inl (cA, 8, .inl (fun _ => 0))), (q15, .inl (cA, 16, .inl (fun _ => 0))), (q23, .inl (cA, 16, .inl (fun _ => 0)))] := hD
  refine W.widen (k := 3) (n := 40) (by omega) (by omega) ?_
  refine va_putF (D := (dC, dI)) (ci := 0) (v := .ref q23) (ty := .array .int) (C := RX0) (T := TX0) (N := 5) hx hb hts ki0 tyX0 tyX0_ok nmX0 hown hK hP hD hS 0 rfl rfl 2 (by decide) k4 (fun _ h9 => h9) rfl hin rfl (by decide +kernel) rfl rfl (Nat.le_of_ble_eq_true rfl) dX0_init_25 (fun H locs hP hD hS => ?_)
  have hP : va_P (dC, dI) vwCl [(h0, .inr (0, [.ref q7, .ref q15, .ref q23, .int 0, .long 0])), (q7, .inl (cA, 8, .inl (fun _ => 0))), (q15, .inl (cA, 16, .inl (fun _ => 0))), (q23, .inl (cA, 16, .inl (fun _ => 0)))] H := hP
  have hD : va_D A [(h0, .inr (0, [.ref q7, .ref q15, .ref q23, .int 0, .long 0])), (q7, .inl (cA, 8, .inl (fun _ => 0))), (q15, .inl (cA, 16, .inl (fun _ => 0))), (q23, .inl (cA, 16, .inl (fun _ => 0)))] := hD
  refine lv_aload_n hx hb dX0_init_28 rfl (lv_at hl 0 rfl) ?_
  refine lv_iconst (v := 0) hx hb dX0_init_29 (by decide) ?_
  refine va_put (D := (dC, dI)) (ci := 0) (v := .int 0) (ty := .int) (C := RX0) (T := TX0) (N := 5) hx hb hts ki0 tyX0 tyX0_ok nmX0 hown hK hP hD hS 0 rfl rfl 3 (by decide) k5 (fun _ h9 => h9) rfl (by decide +kernel) rfl rfl (Nat.le_of_ble_eq_true rfl) dX0_init_30 (fun H locs hP hD hS => ?_)
  have hP : va_P (dC, dI) vwCl [(h0, .inr (0, [.ref q7, .ref q15, .ref q23, .int 0, .long 0])), (q7, .inl (cA, 8, .inl (fun _ => 0))), (q15, .inl (cA, 16, .inl (fun _ => 0))), (q23, .inl (cA, 16, .inl (fun _ => 0)))] H := hP
  have hD : va_D A [(h0, .inr (0, [.ref q7, .ref q15, .ref q23, .int 0, .long 0])), (q7, .inl (cA, 8, .inl (fun _ => 0))), (q15, .inl (cA, 16, .inl (fun _ => 0))), (q23, .inl (cA, 16, .inl (fun _ => 0)))] := hD
  refine lv_aload_n hx hb dX0_init_33 rfl (lv_at hl 0 rfl) ?_
  refine lv_lconst (v := 0) hx hb dX0_init_34 (by decide) ?_
  refine va_put (D := (dC, dI)) (ci := 0) (v := .long 0) (ty := .long) (C := RX0) (T := TX0) (N := 5) hx hb hts ki0 tyX0 tyX0_ok nmX0 hown hK hP hD hS 0 rfl rfl 4 (by decide) k6 (fun _ h9 => h9) rfl (by decide +kernel) rfl rfl (Nat.le_of_ble_eq_true rfl) dX0_init_35 (fun H locs hP hD hS => ?_)
  have hP : va_P (dC, dI) vwCl [(h0, .inr (0, [.ref q7, .ref q15, .ref q23, .int 0, .long 0])), (q7, .inl (cA, 8, .inl (fun _ => 0))), (q15, .inl (cA, 16, .inl (fun _ => 0))), (q23, .inl (cA, 16, .inl (fun _ => 0)))] H := hP
  have hD : va_D A [(h0, .inr (0, [.ref q7, .ref q15, .ref q23, .int 0, .long 0])), (q7, .inl (cA, 8, .inl (fun _ => 0))), (q15, .inl (cA, 16, .inl (fun _ => 0))), (q23, .inl (cA, 16, .inl (fun _ => 0)))] := hD
  have hP9 := hP.sub (ws' := [(h0, .inr (0, [.ref q7, .ref q15, .ref q23, .int 0, .long 0])), (q7, .inl (cA, 8, .inl kd_0)), (q15, .inl (cA, 16, .inl kd_0)), (q23, .inl (cA, 16, .inl kd_0))]) [0, 1, 2, 3] rfl
  have hD9 := hD.sub (ws' := [(h0, .inr (0, [.ref q7, .ref q15, .ref q23, .int 0, .long 0])), (q7, .inl (cA, 8, .inl kd_0)), (q15, .inl (cA, 16, .inl kd_0)), (q23, .inl (cA, 16, .inl kd_0))]) [0, 1, 2, 3] (by decide) rfl
  refine W.widen (k := 3) (n := 40) (by omega) (by omega) ?_
  exact W.vret hx hb hr (fun t ht hW => ⟨⟨(q7, q15, q23), rfl, trivial, by rw [ht]; exact hP9, va_K.moved hW.alike hK, hD9⟩, hS.F ht⟩) hS.2.2 dX0_init_38

set_option maxHeartbeats 4000000 in
set_option maxRecDepth 100000 in
theorem cX0_addByte_ok (l : Launch) (dC : Nat → ClassId) (dI : Nat → Nat → Nat) (cA : ClassId) (tb : Nat → Nat) (sz : Nat) (h0 : Nat) (qh : Nat) (qm : Nat) (qv : Nat) (hh : Nat → Int32) (mm : Nat → Int32) (vv : Nat → Int32) (kn : Nat) (ab : Int64) (bv : Int32) (hk : kn ≤ 64) : Met l yX0_addByte wsX0_addByte ({ frames := 4, cells := 0, slots := 0, locals := 90 }) (va_Pc [.ref h0, .int bv] (kd_I (dC, dI) cA tb sz [(h0, .inr (0, [.ref qh, .ref qm, .ref qv, .int (nI kn), .long ab])), (qh, .inl (cA, 8, .inl hh)), (qm, .inl (cA, 16, .inl mm)), (qv, .inl (cA, 16, .inl vv))])) (va_Qv (fun (u : (Nat → Int32) × (Nat → Int32) × (Nat → Int32) × Nat × Int64) => (u.1, u.2.1, u.2.2.2.1, u.2.2.2.2) = kd_add bv (hh, mm, kn, ab)) (fun u t => kd_O (dC, dI) cA (va_A [(h0, .inr (0, [.ref qh, .ref qm, .ref qv, .int (nI kn), .long ab])), (qh, .inl (cA, 8, .inl hh)), (qm, .inl (cA, 16, .inl mm)), (qv, .inl (cA, 16, .inl vv))] sz) [(h0, .inr (0, [.ref qh, .ref qm, .ref qv, .int (nI u.2.2.2.1), .long u.2.2.2.2])), (qh, .inl (cA, 8, .inl u.1)), (qm, .inl (cA, 16, .inl u.2.1)), (qv, .inl (cA, 16, .inl u.2.2.1))] t) (va_A [(h0, .inr (0, [.ref qh, .ref qm, .ref qv, .int (nI kn), .long ab])), (qh, .inl (cA, 8, .inl hh)), (qm, .inl (cA, 16, .inl mm)), (qv, .inl (cA, 16, .inl vv))] sz)) 0 0 (va_A [(h0, .inr (0, [.ref qh, .ref qm, .ref qv, .int (nI kn), .long ab])), (qh, .inl (cA, 8, .inl hh)), (qm, .inl (cA, 16, .inl mm)), (qv, .inl (cA, 16, .inl vv))] sz) := by
  refine Met.ofW (cc := cX0_addByte) (maxL := 2) (ret := none) (by decide) rfl ?_
  intro p e s m args below meth c s₁ B hml hv
  obtain ⟨rfl, hsz, hP, hK, hD0, hT⟩ := hv
  have hx := B.exec
  have hb := B.bytes
  have hr := B.returns
  have hts := atoms_spec (ws := wsX0_addByte) B.pre
  have hown : s.vm.findClass RX0 = some m.cls := findClass_of_methodNamed B.named
  have hlocks := B.notSynchronized
  have ki0 : ∀ w ∈ u_ws RX0 TX0 5, w ∈ wsX0_addByte := by decide +kernel
  have k1 := hts (.fieldLink RX0 19 "KeyedDigest$Chain" "blockBytes" "I") (by decide +kernel)
  have k2 := hts (.fieldLink RX0 13 "KeyedDigest$Chain" "m" "[I") (by decide +kernel)
  have k3 := hts (.fieldLink RX0 23 "KeyedDigest$Chain" "allBytes" "J") (by decide +kernel)
  subst hsz
  have hD := hD0.self (sz := s.heap.size)
  generalize hAe : va_A [(h0, .inr (0, [.ref qh, .ref qm, .ref qv, .int (nI kn), .long ab])), (qh, .inl (cA, 8, .inl hh)), (qm, .inl (cA, 16, .inl mm)), (qv, .inl (cA, 16, .inl vv))] s.heap.size = A at hD hT ⊢
  have hA : ∀ q : Nat, s.heap.size ≤ q → A q := fun q h => by rw [← hAe]; exact Or.inr h
  have hS : va_S A s.heap s.heap [] := va_S.rf
  have hP : va_P (dC, dI) vwCl [(h0, .inr (0, [.ref qh, .ref qm, .ref qv, .int (nI kn), .long ab])), (qh, .inl (cA, 8, .inl hh)), (qm, .inl (cA, 16, .inl mm)), (qv, .inl (cA, 16, .inl vv))] s.heap := hP
  have hl := lv_entry ([.ref h0, .int bv]) (n := 2) (Nat.le_of_ble_eq_true rfl)
  rw [lg_entry_eq]
  generalize (lg_sl ([.ref h0, .int bv]) ++ List.replicate (2 - (lg_sl ([.ref h0, .int bv])).length) Slot.unset).toArray = ls at hl ⊢
  have hl : lv_has ls 2 [(0, .ref h0), (1, .int bv)] := hl
  refine lv_aload_n hx hb dX0_addByte_0 rfl (lv_at hl 0 rfl) ?_
  refine va_get (D := (dC, dI)) (ci := 0) (v := .int (nI kn)) (C := RX0) (T := TX0) (N := 5) hx hb hts ki0 hown hK hP 0 rfl rfl 3 (by decide) k1 (fun _ h9 => h9) rfl dX0_addByte_1 ?_
  refine lv_bipush (v := 64) hx hb dX0_addByte_4 (by decide) ?_
  refine lv_icmp_lt (tgt := 18) hx hb dX0_addByte_6 (by decide) (fun c6 => ?_) (fun c6 => ?_)
  · have hlt : kn < 64 := (nI_ltI (a := kn) (b := 64) (by omega) (by decide)).mp c6
    refine lv_aload_n hx hb dX0_addByte_18 rfl (lv_at hl 0 rfl) ?_
    refine va_get (D := (dC, dI)) (ci := 0) (v := .ref qm) (C := RX0) (T := TX0) (N := 5) hx hb hts ki0 hown hK hP 0 rfl rfl 1 (by decide) k2 (fun _ h9 => h9) rfl dX0_addByte_19 ?_
    refine lv_aload_n hx hb dX0_addByte_22 rfl (lv_at hl 0 rfl) ?_
    refine va_get (D := (dC, dI)) (ci := 0) (v := .int (nI kn)) (C := RX0) (T := TX0) (N := 5) hx hb hts ki0 hown hK hP 0 rfl rfl 3 (by decide) k1 (fun _ h9 => h9) rfl dX0_addByte_23 ?_
    refine lv_iconst (v := 2) hx hb dX0_addByte_26 (by decide) ?_
    refine lv_ishr hx hb dX0_addByte_27 ?_
    refine lv_dup2_11 hx hb dX0_addByte_28 rfl rfl ?_
    refine kd_ild (kn / 4) hx hb hK hP 2 0 rfl rfl (kd_shr2 (by omega)) (by omega) (by decide) dX0_addByte_29 ?_
    refine lv_iload_n hx hb dX0_addByte_30 rfl (lv_at hl 1 rfl) ?_
    refine lv_bipush (v := 8) hx hb dX0_addByte_31 (by decide) ?_
    refine lv_aload_n hx hb dX0_addByte_33 rfl (lv_at hl 0 rfl) ?_
    refine va_get (D := (dC, dI)) (ci := 0) (v := .int (nI kn)) (C := RX0) (T := TX0) (N := 5) hx hb hts ki0 hown hK hP 0 rfl rfl 3 (by decide) k1 (fun _ h9 => h9) rfl dX0_addByte_34 ?_
    refine lv_iconst (v := 3) hx hb dX0_addByte_37 (by decide) ?_
    refine lv_iand hx hb dX0_addByte_38 ?_
    refine lv_imul hx hb dX0_addByte_39 ?_
    refine lv_ishl hx hb dX0_addByte_40 ?_
    refine lv_ior hx hb dX0_addByte_41 ?_
    refine lv_topi (fun x42 ex42 => ?_)
    refine kd_ist (kn / 4) hx hb hK hP hD hS 2 0 rfl rfl (kd_shr2 (by omega)) (by omega) (by decide) dX0_addByte_42 (fun f42 ef42 H locs hP hD hS => ?_)
    have hP : va_P (dC, dI) vwCl [(h0, .inr (0, [.ref qh, .ref qm, .ref qv, .int (nI kn), .long ab])), (qh, .inl (cA, 8, .inl hh)), (qm, .inl (cA, 16, .inl f42)), (qv, .inl (cA, 16, .inl vv))] H := hP
    have hD : va_D A [(h0, .inr (0, [.ref qh, .ref qm, .ref qv, .int (nI kn), .long ab])), (qh, .inl (cA, 8, .inl hh)), (qm, .inl (cA, 16, .inl f42)), (qv, .inl (cA, 16, .inl vv))] := hD
    refine lv_aload_n hx hb dX0_addByte_43 rfl (lv_at hl 0 rfl) ?_
    refine lv_dup hx hb dX0_addByte_44 rfl ?_
    refine va_get (D := (dC, dI)) (ci := 0) (v := .int (nI kn)) (C := RX0) (T := TX0) (N := 5) hx hb hts ki0 hown hK hP 0 rfl rfl 3 (by decide) k1 (fun _ h9 => h9) rfl dX0_addByte_45 ?_
    refine lv_iconst (v := 1) hx hb dX0_addByte_48 (by decide) ?_
    refine lv_iadd hx hb dX0_addByte_49 ?_
    refine lv_topi (fun x50 ex50 => ?_)
    refine va_put (D := (dC, dI)) (ci := 0) (v := .int x50) (ty := .int) (C := RX0) (T := TX0) (N := 5) hx hb hts ki0 tyX0 tyX0_ok nmX0 hown hK hP hD hS 0 rfl rfl 3 (by decide) k1 (fun _ h9 => h9) rfl (by decide +kernel) rfl rfl (Nat.le_of_ble_eq_true rfl) dX0_addByte_50 (fun H locs hP hD hS => ?_)
    have hP : va_P (dC, dI) vwCl [(h0, .inr (0, [.ref qh, .ref qm, .ref qv, .int x50, .long ab])), (qh, .inl (cA, 8, .inl hh)), (qm, .inl (cA, 16, .inl f42)), (qv, .inl (cA, 16, .inl vv))] H := hP
    have hD : va_D A [(h0, .inr (0, [.ref qh, .ref qm, .ref qv, .int x50, .long ab])), (qh, .inl (cA, 8, .inl hh)), (qm, .inl (cA, 16, .inl f42)), (qv, .inl (cA, 16, .inl vv))] := hD
    obtain rfl : x50 = nI (kn + 1) := by rw [ex50]; exact nI_1 kn
    have hP : va_P (dC, dI) vwCl [(h0, .inr (0, [.ref qh, .ref qm, .ref qv, .int (nI (kn + 1)), .long ab])), (qh, .inl (cA, 8, .inl hh)), (qm, .inl (cA, 16, .inl f42)), (qv, .inl (cA, 16, .inl vv))] H := hP
    have hD : va_D A [(h0, .inr (0, [.ref qh, .ref qm, .ref qv, .int (nI (kn + 1)), .long ab])), (qh, .inl (cA, 8, .inl hh)), (qm, .inl (cA, 16, .inl f42)), (qv, .inl (cA, 16, .inl vv))] := hD
    refine lv_aload_n hx hb dX0_addByte_53 rfl (lv_at hl 0 rfl) ?_
    refine lv_dup hx hb dX0_addByte_54 rfl ?_
    refine va_get (D := (dC, dI)) (ci := 0) (v := .long ab) (C := RX0) (T := TX0) (N := 5) hx hb hts ki0 hown hK hP 0 rfl rfl 4 (by decide) k3 (fun _ h9 => h9) rfl dX0_addByte_55 ?_
    refine lv_lconst (v := 1) hx hb dX0_addByte_58 (by decide) ?_
    refine lv_ladd hx hb dX0_addByte_59 ?_
    refine lv_topl (fun x60 ex60 => ?_)
    refine va_put (D := (dC, dI)) (ci := 0) (v := .long x60) (ty := .long) (C := RX0) (T := TX0) (N := 5) hx hb hts ki0 tyX0 tyX0_ok nmX0 hown hK hP hD hS 0 rfl rfl 4 (by decide) k3 (fun _ h9 => h9) rfl (by decide +kernel) rfl rfl (Nat.le_of_ble_eq_true rfl) dX0_addByte_60 (fun H locs hP hD hS => ?_)
    have hP : va_P (dC, dI) vwCl [(h0, .inr (0, [.ref qh, .ref qm, .ref qv, .int (nI (kn + 1)), .long x60])), (qh, .inl (cA, 8, .inl hh)), (qm, .inl (cA, 16, .inl f42)), (qv, .inl (cA, 16, .inl vv))] H := hP
    have hD : va_D A [(h0, .inr (0, [.ref qh, .ref qm, .ref qv, .int (nI (kn + 1)), .long x60])), (qh, .inl (cA, 8, .inl hh)), (qm, .inl (cA, 16, .inl f42)), (qv, .inl (cA, 16, .inl vv))] := hD
    have hP9 := hP.sub (ws' := [(h0, .inr (0, [.ref qh, .ref qm, .ref qv, .int (nI (kn + 1)), .long x60])), (qh, .inl (cA, 8, .inl hh)), (qm, .inl (cA, 16, .inl f42)), (qv, .inl (cA, 16, .inl vv))]) [0, 1, 2, 3] rfl
    have hD9 := hD.sub (ws' := [(h0, .inr (0, [.ref qh, .ref qm, .ref qv, .int (nI (kn + 1)), .long x60])), (qh, .inl (cA, 8, .inl hh)), (qm, .inl (cA, 16, .inl f42)), (qv, .inl (cA, 16, .inl vv))]) [0, 1, 2, 3] (by decide) rfl
    exact W.vret hx hb hr (fun t ht hW => ⟨⟨(hh, f42, vv, kn + 1, x60), rfl, (by dsimp only; unfold kd_add; rw [if_neg (show ¬ 64 ≤ kn from Nat.not_le.mpr hlt), ef42, ex42, ex60]; rfl), by rw [ht]; exact hP9, va_K.moved hW.alike hK, hD9⟩, hS.F ht⟩) hS.2.2 dX0_addByte_63
  · have hge : 64 ≤ kn := Nat.not_lt.mp fun h => c6 ((nI_ltI (a := kn) (b := 64) (by omega) (by decide)).mpr h)
    refine lv_aload_n hx hb dX0_addByte_9 rfl (lv_at hl 0 rfl) ?_
    refine lv_iconst (v := 0) hx hb dX0_addByte_10 (by decide) ?_
    have hPc := hP.sub (ws' := [(h0, .inr (0, [.ref qh, .ref qm, .ref qv, .int (nI kn), .long ab])), (qh, .inl (cA, 8, .inl hh)), (qm, .inl (cA, 16, .inl mm)), (qv, .inl (cA, 16, .inl vv))]) [0, 1, 2, 3] rfl
    have hDc := hD.sub (ws' := [(h0, .inr (0, [.ref qh, .ref qm, .ref qv, .int (nI kn), .long ab])), (qh, .inl (cA, 8, .inl hh)), (qm, .inl (cA, 16, .inl mm)), (qv, .inl (cA, 16, .inl vv))]) [0, 1, 2, 3] (by decide) rfl
    have hFc := va_free (wc := [(h0, .inr (0, [.ref qh, .ref qm, .ref qv, .int (nI kn), .long ab])), (qh, .inl (cA, 8, .inl hh)), (qm, .inl (cA, 16, .inl mm)), (qv, .inl (cA, 16, .inl vv))]) hD hS hA [0, 1, 2, 3] rfl
    refine va_callv (va_runV (As := [.int 0]) (rest := []) ⟨hx, hb, hml, hown, hts⟩ (cX0_mix_ok l dC dI cA tb s.heap.size h0 qh qm qv hh mm vv (nI kn) ab 0 ) (cwV 1 hts gX0_addByte_X0_mix rfl rfl rfl (by decide +kernel) ⟨Nat.le_of_ble_eq_true rfl, Nat.le_of_ble_eq_true rfl⟩) ⟨fun a U g mk q => kd_calling rfl rfl q, va_recv hK hPc (ci := 0) (q0 := 0) rfl rfl, fun U hU hW => ⟨rfl, kd_pre hPc hK hDc hT hS hFc U hU hW⟩⟩ rfl rfl hl.1 rfl (lv_room (Nat.le_of_ble_eq_true rfl)) dX0_addByte_11 ⟨Nat.le_of_ble_eq_true rfl, Nat.le_of_ble_eq_true rfl⟩) hS (fun q _ h => hFc q h) hFc (fun u t H1 locs ht hvm hw hB hz1 hk1 hS => ?_)
    obtain ⟨vo11, rfl⟩ : ∃ z, z = u := ⟨_, rfl⟩
    have hw11 : True := hw
    have hP1 : va_P (dC, dI) vwCl [(h0, .inr (0, [.ref qh, .ref qm, .ref qv, .int (nI kn), .long ab])), (qh, .inl (cA, 8, .inl (kd_mix hh mm ab 0))), (qm, .inl (cA, 16, .inl mm)), (qv, .inl (cA, 16, .inl vo11))] H1 := by rw [← ht]; exact hB.1
    have hD1 : va_D (va_A [(h0, .inr (0, [.ref qh, .ref qm, .ref qv, .int (nI kn), .long ab])), (qh, .inl (cA, 8, .inl hh)), (qm, .inl (cA, 16, .inl mm)), (qv, .inl (cA, 16, .inl vv))] s.heap.size) [(h0, .inr (0, [.ref qh, .ref qm, .ref qv, .int (nI kn), .long ab])), (qh, .inl (cA, 8, .inl (kd_mix hh mm ab 0))), (qm, .inl (cA, 16, .inl mm)), (qv, .inl (cA, 16, .inl vo11))] := hB.2.2
    obtain ⟨hP, hD⟩ := va_join (wr := []) (w1 := [(h0, .inr (0, [.ref qh, .ref qm, .ref qv, .int (nI kn), .long ab])), (qh, .inl (cA, 8, .inl (kd_mix hh mm ab 0))), (qm, .inl (cA, 16, .inl mm)), (qv, .inl (cA, 16, .inl vo11))]) hP hD [0, 1, 2, 3] [] rfl rfl (by decide) (by decide) hk1 hFc hP1 hD1
    clear hw hB hk1 hPc hDc hFc hP1 hD1 hvm hz1
    generalize H1 = H at hP hS ⊢
    have hP : va_P (dC, dI) vwCl [(h0, .inr (0, [.ref qh, .ref qm, .ref qv, .int (nI kn), .long ab])), (qh, .inl (cA, 8, .inl (kd_mix hh mm ab 0))), (qm, .inl (cA, 16, .inl mm)), (qv, .inl (cA, 16, .inl vo11))] H := hP
    have hD : va_D A [(h0, .inr (0, [.ref qh, .ref qm, .ref qv, .int (nI kn), .long ab])), (qh, .inl (cA, 8, .inl (kd_mix hh mm ab 0))), (qm, .inl (cA, 16, .inl mm)), (qv, .inl (cA, 16, .inl vo11))] := hD
    refine lv_aload_n hx hb dX0_addByte_14 rfl (lv_at hl 0 rfl) ?_
    have hPc := hP.sub (ws' := [(h0, .inr (0, [.ref qh, .ref qm, .ref qv, .int (nI kn), .long ab])), (qm, .inl (cA, 16, .inl mm))]) [0, 2] rfl
    have hDc := hD.sub (ws' := [(h0, .inr (0, [.ref qh, .ref qm, .ref qv, .int (nI kn), .long ab])), (qm, .inl (cA, 16, .inl mm))]) [0, 2] (by decide) rfl
    have hFc := va_free (wc := [(h0, .inr (0, [.ref qh, .ref qm, .ref qv, .int (nI kn), .long ab])), (qm, .inl (cA, 16, .inl mm))]) hD hS hA [0, 2] rfl
    refine va_callv (va_runV (As := []) (rest := []) ⟨hx, hb, hml, hown, hts⟩ (cX0_emptyBlock_ok l dC dI cA tb H.size h0 qh qm qv mm (nI kn) ab ) (cwV 0 hts gX0_addByte_X0_emptyBlock rfl rfl rfl (by decide +kernel) ⟨Nat.le_of_ble_eq_true rfl, Nat.le_of_ble_eq_true rfl⟩) ⟨fun a U g mk q => kd_calling rfl rfl q, va_recv hK hPc (ci := 0) (q0 := 0) rfl rfl, fun U hU hW => ⟨rfl, kd_pre hPc hK hDc hT hS hFc U hU hW⟩⟩ rfl rfl hl.1 rfl (lv_room (Nat.le_of_ble_eq_true rfl)) dX0_addByte_15 ⟨Nat.le_of_ble_eq_true rfl, Nat.le_of_ble_eq_true rfl⟩) hS (fun q _ h => hFc q h) hFc (fun u t H1 locs ht hvm hw hB hz1 hk1 hS => ?_)
    have hw15 : True := hw
    have hP1 : va_P (dC, dI) vwCl [(h0, .inr (0, [.ref qh, .ref qm, .ref qv, .int (nI 0), .long ab])), (qm, .inl (cA, 16, .inl kd_0))] H1 := by rw [← ht]; exact hB.1
    have hD1 : va_D (va_A [(h0, .inr (0, [.ref qh, .ref qm, .ref qv, .int (nI kn), .long ab])), (qm, .inl (cA, 16, .inl mm))] H.size) [(h0, .inr (0, [.ref qh, .ref qm, .ref qv, .int (nI 0), .long ab])), (qm, .inl (cA, 16, .inl kd_0))] := hB.2.2
    obtain ⟨hP, hD⟩ := va_join (wr := [(qh, .inl (cA, 8, .inl (kd_mix hh mm ab 0))), (qv, .inl (cA, 16, .inl vo11))]) (w1 := [(h0, .inr (0, [.ref qh, .ref qm, .ref qv, .int (nI 0), .long ab])), (qm, .inl (cA, 16, .inl kd_0))]) hP hD [0, 2] [1, 3] rfl rfl (by decide) (by decide) hk1 hFc hP1 hD1
    clear hw hB hk1 hPc hDc hFc hP1 hD1 hvm hz1
    generalize H1 = H at hP hS ⊢
    have hP : va_P (dC, dI) vwCl [(qh, .inl (cA, 8, .inl (kd_mix hh mm ab 0))), (qv, .inl (cA, 16, .inl vo11)), (h0, .inr (0, [.ref qh, .ref qm, .ref qv, .int (nI 0), .long ab])), (qm, .inl (cA, 16, .inl kd_0))] H := hP
    have hD : va_D A [(qh, .inl (cA, 8, .inl (kd_mix hh mm ab 0))), (qv, .inl (cA, 16, .inl vo11)), (h0, .inr (0, [.ref qh, .ref qm, .ref qv, .int (nI 0), .long ab])), (qm, .inl (cA, 16, .inl kd_0))] := hD
    refine lv_aload_n hx hb dX0_addByte_18 rfl (lv_at hl 0 rfl) ?_
    refine va_get (D := (dC, dI)) (ci := 0) (v := .ref qm) (C := RX0) (T := TX0) (N := 5) hx hb hts ki0 hown hK hP 2 rfl rfl 1 (by decide) k2 (fun _ h9 => h9) rfl dX0_addByte_19 ?_
    refine lv_aload_n hx hb dX0_addByte_22 rfl (lv_at hl 0 rfl) ?_
    refine va_get (D := (dC, dI)) (ci := 0) (v := .int (nI 0)) (C := RX0) (T := TX0) (N := 5) hx hb hts ki0 hown hK hP 2 rfl rfl 3 (by decide) k1 (fun _ h9 => h9) rfl dX0_addByte_23 ?_
    refine lv_iconst (v := 2) hx hb dX0_addByte_26 (by decide) ?_
    refine lv_ishr hx hb dX0_addByte_27 ?_
    refine lv_dup2_11 hx hb dX0_addByte_28 rfl rfl ?_
    refine kd_ild (0 / 4) hx hb hK hP 3 0 rfl rfl (kd_shr2 (by omega)) (by omega) (by decide) dX0_addByte_29 ?_
    refine lv_iload_n hx hb dX0_addByte_30 rfl (lv_at hl 1 rfl) ?_
    refine lv_bipush (v := 8) hx hb dX0_addByte_31 (by decide) ?_
    refine lv_aload_n hx hb dX0_addByte_33 rfl (lv_at hl 0 rfl) ?_
    refine va_get (D := (dC, dI)) (ci := 0) (v := .int (nI 0)) (C := RX0) (T := TX0) (N := 5) hx hb hts ki0 hown hK hP 2 rfl rfl 3 (by decide) k1 (fun _ h9 => h9) rfl dX0_addByte_34 ?_
    refine lv_iconst (v := 3) hx hb dX0_addByte_37 (by decide) ?_
    refine lv_iand hx hb dX0_addByte_38 ?_
    refine lv_imul hx hb dX0_addByte_39 ?_
    refine lv_ishl hx hb dX0_addByte_40 ?_
    refine lv_ior hx hb dX0_addByte_41 ?_
    refine lv_topi (fun x42 ex42 => ?_)
    refine kd_ist (0 / 4) hx hb hK hP hD hS 3 0 rfl rfl (kd_shr2 (by omega)) (by omega) (by decide) dX0_addByte_42 (fun f42 ef42 H locs hP hD hS => ?_)
    have hP : va_P (dC, dI) vwCl [(qh, .inl (cA, 8, .inl (kd_mix hh mm ab 0))), (qv, .inl (cA, 16, .inl vo11)), (h0, .inr (0, [.ref qh, .ref qm, .ref qv, .int (nI 0), .long ab])), (qm, .inl (cA, 16, .inl f42))] H := hP
    have hD : va_D A [(qh, .inl (cA, 8, .inl (kd_mix hh mm ab 0))), (qv, .inl (cA, 16, .inl vo11)), (h0, .inr (0, [.ref qh, .ref qm, .ref qv, .int (nI 0), .long ab])), (qm, .inl (cA, 16, .inl f42))] := hD
    refine lv_aload_n hx hb dX0_addByte_43 rfl (lv_at hl 0 rfl) ?_
    refine lv_dup hx hb dX0_addByte_44 rfl ?_
    refine va_get (D := (dC, dI)) (ci := 0) (v := .int (nI 0)) (C := RX0) (T := TX0) (N := 5) hx hb hts ki0 hown hK hP 2 rfl rfl 3 (by decide) k1 (fun _ h9 => h9) rfl dX0_addByte_45 ?_
    refine lv_iconst (v := 1) hx hb dX0_addByte_48 (by decide) ?_
    refine lv_iadd hx hb dX0_addByte_49 ?_
    refine lv_topi (fun x50 ex50 => ?_)
    refine va_put (D := (dC, dI)) (ci := 0) (v := .int x50) (ty := .int) (C := RX0) (T := TX0) (N := 5) hx hb hts ki0 tyX0 tyX0_ok nmX0 hown hK hP hD hS 2 rfl rfl 3 (by decide) k1 (fun _ h9 => h9) rfl (by decide +kernel) rfl rfl (Nat.le_of_ble_eq_true rfl) dX0_addByte_50 (fun H locs hP hD hS => ?_)
    have hP : va_P (dC, dI) vwCl [(qh, .inl (cA, 8, .inl (kd_mix hh mm ab 0))), (qv, .inl (cA, 16, .inl vo11)), (h0, .inr (0, [.ref qh, .ref qm, .ref qv, .int x50, .long ab])), (qm, .inl (cA, 16, .inl f42))] H := hP
    have hD : va_D A [(qh, .inl (cA, 8, .inl (kd_mix hh mm ab 0))), (qv, .inl (cA, 16, .inl vo11)), (h0, .inr (0, [.ref qh, .ref qm, .ref qv, .int x50, .long ab])), (qm, .inl (cA, 16, .inl f42))] := hD
    obtain rfl : x50 = nI (1) := by rw [ex50]; exact nI_1 0
    have hP : va_P (dC, dI) vwCl [(qh, .inl (cA, 8, .inl (kd_mix hh mm ab 0))), (qv, .inl (cA, 16, .inl vo11)), (h0, .inr (0, [.ref qh, .ref qm, .ref qv, .int (nI (1)), .long ab])), (qm, .inl (cA, 16, .inl f42))] H := hP
    have hD : va_D A [(qh, .inl (cA, 8, .inl (kd_mix hh mm ab 0))), (qv, .inl (cA, 16, .inl vo11)), (h0, .inr (0, [.ref qh, .ref qm, .ref qv, .int (nI (1)), .long ab])), (qm, .inl (cA, 16, .inl f42))] := hD
    refine lv_aload_n hx hb dX0_addByte_53 rfl (lv_at hl 0 rfl) ?_
    refine lv_dup hx hb dX0_addByte_54 rfl ?_
    refine va_get (D := (dC, dI)) (ci := 0) (v := .long ab) (C := RX0) (T := TX0) (N := 5) hx hb hts ki0 hown hK hP 2 rfl rfl 4 (by decide) k3 (fun _ h9 => h9) rfl dX0_addByte_55 ?_
    refine lv_lconst (v := 1) hx hb dX0_addByte_58 (by decide) ?_
    refine lv_ladd hx hb dX0_addByte_59 ?_
    refine lv_topl (fun x60 ex60 => ?_)
    refine va_put (D := (dC, dI)) (ci := 0) (v := .long x60) (ty := .long) (C := RX0) (T := TX0) (N := 5) hx hb hts ki0 tyX0 tyX0_ok nmX0 hown hK hP hD hS 2 rfl rfl 4 (by decide) k3 (fun _ h9 => h9) rfl (by decide +kernel) rfl rfl (Nat.le_of_ble_eq_true rfl) dX0_addByte_60 (fun H locs hP hD hS => ?_)
    have hP : va_P (dC, dI) vwCl [(qh, .inl (cA, 8, .inl (kd_mix hh mm ab 0))), (qv, .inl (cA, 16, .inl vo11)), (h0, .inr (0, [.ref qh, .ref qm, .ref qv, .int (nI (1)), .long x60])), (qm, .inl (cA, 16, .inl f42))] H := hP
    have hD : va_D A [(qh, .inl (cA, 8, .inl (kd_mix hh mm ab 0))), (qv, .inl (cA, 16, .inl vo11)), (h0, .inr (0, [.ref qh, .ref qm, .ref qv, .int (nI (1)), .long x60])), (qm, .inl (cA, 16, .inl f42))] := hD
    have hP9 := hP.sub (ws' := [(h0, .inr (0, [.ref qh, .ref qm, .ref qv, .int (nI 1), .long x60])), (qh, .inl (cA, 8, .inl (kd_mix hh mm ab 0))), (qm, .inl (cA, 16, .inl f42)), (qv, .inl (cA, 16, .inl vo11))]) [2, 0, 3, 1] rfl
    have hD9 := hD.sub (ws' := [(h0, .inr (0, [.ref qh, .ref qm, .ref qv, .int (nI 1), .long x60])), (qh, .inl (cA, 8, .inl (kd_mix hh mm ab 0))), (qm, .inl (cA, 16, .inl f42)), (qv, .inl (cA, 16, .inl vo11))]) [2, 0, 3, 1] (by decide) rfl
    exact W.vret hx hb hr (fun t ht hW => ⟨⟨(kd_mix hh mm ab 0, f42, vo11, 1, x60), rfl, (by dsimp only; unfold kd_add; rw [if_pos (show 64 ≤ kn from hge), ef42, ex42, ex60]; rfl), by rw [ht]; exact hP9, va_K.moved hW.alike hK, hD9⟩, hS.F ht⟩) hS.2.2 dX0_addByte_63

set_option maxHeartbeats 4000000 in
set_option maxRecDepth 100000 in
theorem cX0_addKey_ok (l : Launch) (dC : Nat → ClassId) (dI : Nat → Nat → Nat) (cA : ClassId) (tb : Nat → Nat) (sz : Nat) (h0 : Nat) (qh : Nat) (qm : Nat) (qv : Nat) (hh : Nat → Int32) (mm : Nat → Int32) (vv : Nat → Int32) (ab : Int64) (qk : Nat) (key : Nat → Int32) (kn : Nat) (hk : kn ≤ 32) : Met l yX0_addKey wsX0_addKey ({ frames := 5, cells := 0, slots := 0, locals := 111 }) (va_Pc [.ref h0, .ref qk, .int (nI kn)] (kd_I (dC, dI) cA tb sz [(h0, .inr (0, [.ref qh, .ref qm, .ref qv, .int (nI 0), .long ab])), (qh, .inl (cA, 8, .inl hh)), (qm, .inl (cA, 16, .inl mm)), (qv, .inl (cA, 16, .inl vv)), (qk, .inl (cA, 32, .inl key))])) (va_Qv (fun (u : (Nat → Int32)) => True) (fun u t => kd_O (dC, dI) cA (va_A [(h0, .inr (0, [.ref qh, .ref qm, .ref qv, .int (nI 0), .long ab])), (qh, .inl (cA, 8, .inl hh)), (qm, .inl (cA, 16, .inl mm)), (qv, .inl (cA, 16, .inl vv)), (qk, .inl (cA, 32, .inl key))] sz) [(h0, .inr (0, [.ref qh, .ref qm, .ref qv, .int (nI 64), .long 64])), (qh, .inl (cA, 8, .inl ((kd_adds key kn (hh, mm, 0, ab)).1))), (qm, .inl (cA, 16, .inl ((kd_adds key kn (hh, mm, 0, ab)).2.1))), (qv, .inl (cA, 16, .inl u)), (qk, .inl (cA, 32, .inl key))] t) (va_A [(h0, .inr (0, [.ref qh, .ref qm, .ref qv, .int (nI 0), .long ab])), (qh, .inl (cA, 8, .inl hh)), (qm, .inl (cA, 16, .inl mm)), (qv, .inl (cA, 16, .inl vv)), (qk, .inl (cA, 32, .inl key))] sz)) 0 0 (va_A [(h0, .inr (0, [.ref qh, .ref qm, .ref qv, .int (nI 0), .long ab])), (qh, .inl (cA, 8, .inl hh)), (qm, .inl (cA, 16, .inl mm)), (qv, .inl (cA, 16, .inl vv)), (qk, .inl (cA, 32, .inl key))] sz) := by
  refine Met.ofW (cc := cX0_addKey) (maxL := 4) (ret := none) (by decide) rfl ?_
  intro p e s m args below meth c s₁ B hml hv
  obtain ⟨rfl, hsz, hP, hK, hD0, hT⟩ := hv
  have hx := B.exec
  have hb := B.bytes
  have hr := B.returns
  have hts := atoms_spec (ws := wsX0_addKey) B.pre
  have hown : s.vm.findClass RX0 = some m.cls := findClass_of_methodNamed B.named
  have hlocks := B.notSynchronized
  have ki0 : ∀ w ∈ u_ws RX0 TX0 5, w ∈ wsX0_addKey := by decide +kernel
  have k1 := hts (.fieldLink RX0 19 "KeyedDigest$Chain" "blockBytes" "I") (by decide +kernel)
  have k2 := hts (.constantLong RX0 38 64) (by decide +kernel)
  have k3 := hts (.fieldLink RX0 23 "KeyedDigest$Chain" "allBytes" "J") (by decide +kernel)
  subst hsz
  have hD := hD0.self (sz := s.heap.size)
  generalize hAe : va_A [(h0, .inr (0, [.ref qh, .ref qm, .ref qv, .int (nI 0), .long ab])), (qh, .inl (cA, 8, .inl hh)), (qm, .inl (cA, 16, .inl mm)), (qv, .inl (cA, 16, .inl vv)), (qk, .inl (cA, 32, .inl key))] s.heap.size = A at hD hT ⊢
  have hA : ∀ q : Nat, s.heap.size ≤ q → A q := fun q h => by rw [← hAe]; exact Or.inr h
  have hS : va_S A s.heap s.heap [] := va_S.rf
  have hP : va_P (dC, dI) vwCl [(h0, .inr (0, [.ref qh, .ref qm, .ref qv, .int (nI 0), .long ab])), (qh, .inl (cA, 8, .inl hh)), (qm, .inl (cA, 16, .inl mm)), (qv, .inl (cA, 16, .inl vv)), (qk, .inl (cA, 32, .inl key))] s.heap := hP
  have hl := lv_entry ([.ref h0, .ref qk, .int (nI kn)]) (n := 4) (Nat.le_of_ble_eq_true rfl)
  rw [lg_entry_eq]
  generalize (lg_sl ([.ref h0, .ref qk, .int (nI kn)]) ++ List.replicate (4 - (lg_sl ([.ref h0, .ref qk, .int (nI kn)])).length) Slot.unset).toArray = ls at hl ⊢
  have hl : lv_has ls 4 [(0, .ref h0), (1, .ref qk), (2, .int (nI kn))] := hl
  refine lv_iconst (v := 0) hx hb dX0_addKey_0 (by decide) ?_
  refine lv_istore_n (lv' := [(3, .int 0), (0, .ref h0), (1, .ref qk), (2, .int (nI kn))]) hx hb dX0_addKey_1 rfl hl (by decide) rfl (fun ls hl => ?_)
  have lp : ∀ (k : Nat) (i : Nat) (x : Int32) (u0 : kd_C) (v0 : Nat → Int32), (i ≤ kn) → (kn - i < k) → (x = nI i) → (u0 = kd_adds key i (hh, mm, 0, ab)) → ∀ (H : Heap) (locs : List Loc) (ls : Array Slot), va_P (dC, dI) vwCl [(h0, .inr (0, [.ref qh, .ref qm, .ref qv, .int (nI u0.2.2.1), .long u0.2.2.2])), (qh, .inl (cA, 8, .inl u0.1)), (qm, .inl (cA, 16, .inl u0.2.1)), (qv, .inl (cA, 16, .inl v0)), (qk, .inl (cA, 32, .inl key))] H → va_D A [(h0, .inr (0, [.ref qh, .ref qm, .ref qv, .int (nI u0.2.2.1), .long u0.2.2.2])), (qh, .inl (cA, 8, .inl u0.1)), (qm, .inl (cA, 16, .inl u0.2.1)), (qv, .inl (cA, 16, .inl v0)), (qk, .inl (cA, 32, .inl key))] → va_S A s.heap H locs → lv_has ls 4 [(3, .int x), (0, .ref h0), (1, .ref qk), (2, .int (nI kn))] → W p l e (headSpec wsX0_addKey { frames := 5, cells := 0, slots := 0, locals := 111 }).room s m ([.ref h0, .ref qk, .int (nI kn)]).toArray below meth c H locs 0 0 (MQ below (va_Qv (fun (u : (Nat → Int32)) => True) (fun u t => kd_O (dC, dI) cA A [(h0, .inr (0, [.ref qh, .ref qm, .ref qv, .int (nI 64), .long 64])), (qh, .inl (cA, 8, .inl ((kd_adds key kn (hh, mm, 0, ab)).1))), (qm, .inl (cA, 16, .inl ((kd_adds key kn (hh, mm, 0, ab)).2.1))), (qv, .inl (cA, 16, .inl u)), (qk, .inl (cA, 32, .inl key))] t) A) ([.ref h0, .ref qk, .int (nI kn)]).toArray s 0 0 A) (F0 m 2 ls []) := by
    intro k
    induction k with
    | zero =>
      intro i x u0 v0 hi hm ex hu
      omega
    | succ k ih =>
      intro i x u0 v0 hi hm ex hu H locs ls hP hD hS hl
      refine lv_iload_n hx hb dX0_addKey_2 rfl (lv_at hl 0 rfl) ?_
      refine lv_iload_n hx hb dX0_addKey_3 rfl (lv_at hl 3 rfl) ?_
      refine lv_icmp_ge (tgt := 26) hx hb dX0_addKey_4 (by decide) (fun c4 => ?_) (fun c4 => ?_)
      · have hge : kn ≤ i := kd_ge ex (by omega) (by omega) c4
        have hik : i = kn := by omega
        rw [hik] at hu
        subst hu
        refine lv_aload_n hx hb dX0_addKey_26 rfl (lv_at hl 1 rfl) ?_
        refine lv_bipush (v := 64) hx hb dX0_addKey_27 (by decide) ?_
        refine va_put (D := (dC, dI)) (ci := 0) (v := .int 64) (ty := .int) (C := RX0) (T := TX0) (N := 5) hx hb hts ki0 tyX0 tyX0_ok nmX0 hown hK hP hD hS 0 rfl rfl 3 (by decide) k1 (fun _ h9 => h9) rfl (by decide +kernel) rfl rfl (Nat.le_of_ble_eq_true rfl) dX0_addKey_29 (fun H locs hP hD hS => ?_)
        have hP : va_P (dC, dI) vwCl [(h0, .inr (0, [.ref qh, .ref qm, .ref qv, .int 64, .long ((kd_adds key kn (hh, mm, 0, ab)).2.2.2)])), (qh, .inl (cA, 8, .inl ((kd_adds key kn (hh, mm, 0, ab)).1))), (qm, .inl (cA, 16, .inl ((kd_adds key kn (hh, mm, 0, ab)).2.1))), (qv, .inl (cA, 16, .inl v0)), (qk, .inl (cA, 32, .inl key))] H := hP
        have hD : va_D A [(h0, .inr (0, [.ref qh, .ref qm, .ref qv, .int 64, .long ((kd_adds key kn (hh, mm, 0, ab)).2.2.2)])), (qh, .inl (cA, 8, .inl ((kd_adds key kn (hh, mm, 0, ab)).1))), (qm, .inl (cA, 16, .inl ((kd_adds key kn (hh, mm, 0, ab)).2.1))), (qv, .inl (cA, 16, .inl v0)), (qk, .inl (cA, 32, .inl key))] := hD
        refine lv_aload_n hx hb dX0_addKey_32 rfl (lv_at hl 1 rfl) ?_
        refine lv_ldc2 (v := 64) hx hb hown k2 dX0_addKey_33 ?_
        refine va_put (D := (dC, dI)) (ci := 0) (v := .long 64) (ty := .long) (C := RX0) (T := TX0) (N := 5) hx hb hts ki0 tyX0 tyX0_ok nmX0 hown hK hP hD hS 0 rfl rfl 4 (by decide) k3 (fun _ h9 => h9) rfl (by decide +kernel) rfl rfl (Nat.le_of_ble_eq_true rfl) dX0_addKey_36 (fun H locs hP hD hS => ?_)
        have hP : va_P (dC, dI) vwCl [(h0, .inr (0, [.ref qh, .ref qm, .ref qv, .int 64, .long 64])), (qh, .inl (cA, 8, .inl ((kd_adds key kn (hh, mm, 0, ab)).1))), (qm, .inl (cA, 16, .inl ((kd_adds key kn (hh, mm, 0, ab)).2.1))), (qv, .inl (cA, 16, .inl v0)), (qk, .inl (cA, 32, .inl key))] H := hP
        have hD : va_D A [(h0, .inr (0, [.ref qh, .ref qm, .ref qv, .int 64, .long 64])), (qh, .inl (cA, 8, .inl ((kd_adds key kn (hh, mm, 0, ab)).1))), (qm, .inl (cA, 16, .inl ((kd_adds key kn (hh, mm, 0, ab)).2.1))), (qv, .inl (cA, 16, .inl v0)), (qk, .inl (cA, 32, .inl key))] := hD
        have hP9 := hP.sub (ws' := [(h0, .inr (0, [.ref qh, .ref qm, .ref qv, .int (nI 64), .long 64])), (qh, .inl (cA, 8, .inl ((kd_adds key kn (hh, mm, 0, ab)).1))), (qm, .inl (cA, 16, .inl ((kd_adds key kn (hh, mm, 0, ab)).2.1))), (qv, .inl (cA, 16, .inl v0)), (qk, .inl (cA, 32, .inl key))]) [0, 1, 2, 3, 4] rfl
        have hD9 := hD.sub (ws' := [(h0, .inr (0, [.ref qh, .ref qm, .ref qv, .int (nI 64), .long 64])), (qh, .inl (cA, 8, .inl ((kd_adds key kn (hh, mm, 0, ab)).1))), (qm, .inl (cA, 16, .inl ((kd_adds key kn (hh, mm, 0, ab)).2.1))), (qv, .inl (cA, 16, .inl v0)), (qk, .inl (cA, 32, .inl key))]) [0, 1, 2, 3, 4] (by decide) rfl
        exact W.vret hx hb hr (fun t ht hW => ⟨⟨(v0), rfl, trivial, by rw [ht]; exact hP9, va_K.moved hW.alike hK, hD9⟩, hS.F ht⟩) hS.2.2 dX0_addKey_39
      · have hlt : i < kn := kd_lt ex (by omega) (by omega) c4
        refine lv_iload_n hx hb dX0_addKey_7 rfl (lv_at hl 0 rfl) ?_
        refine lv_aload_n hx hb dX0_addKey_8 rfl (lv_at hl 2 rfl) ?_
        refine va_alen (v := 32) (ty := .int) hx hb hK hP 4 0 rfl rfl rfl dX0_addKey_9 ?_
        refine lv_icmp_ge (tgt := 26) hx hb dX0_addKey_10 (by decide) (fun c10 => ?_) (fun c10 => ?_)
        · exact absurd (kd_ge (n := 32) ex (by omega) (by decide) c10) (by omega)
        · refine lv_aload_n hx hb dX0_addKey_13 rfl (lv_at hl 1 rfl) ?_
          refine lv_aload_n hx hb dX0_addKey_14 rfl (lv_at hl 2 rfl) ?_
          refine lv_iload_n hx hb dX0_addKey_15 rfl (lv_at hl 0 rfl) ?_
          refine kd_ild i hx hb hK hP 4 0 rfl rfl ex (by omega) (by decide) dX0_addKey_16 ?_
          have hPc := hP.sub (ws' := [(h0, .inr (0, [.ref qh, .ref qm, .ref qv, .int (nI u0.2.2.1), .long u0.2.2.2])), (qh, .inl (cA, 8, .inl u0.1)), (qm, .inl (cA, 16, .inl u0.2.1)), (qv, .inl (cA, 16, .inl v0))]) [0, 1, 2, 3] rfl
          have hDc := hD.sub (ws' := [(h0, .inr (0, [.ref qh, .ref qm, .ref qv, .int (nI u0.2.2.1), .long u0.2.2.2])), (qh, .inl (cA, 8, .inl u0.1)), (qm, .inl (cA, 16, .inl u0.2.1)), (qv, .inl (cA, 16, .inl v0))]) [0, 1, 2, 3] (by decide) rfl
          have hFc := va_free (wc := [(h0, .inr (0, [.ref qh, .ref qm, .ref qv, .int (nI u0.2.2.1), .long u0.2.2.2])), (qh, .inl (cA, 8, .inl u0.1)), (qm, .inl (cA, 16, .inl u0.2.1)), (qv, .inl (cA, 16, .inl v0))]) hD hS hA [0, 1, 2, 3] rfl
          refine va_callv (va_runV (As := [.int (key i)]) (rest := []) ⟨hx, hb, hml, hown, hts⟩ (cX0_addByte_ok l dC dI cA tb H.size h0 qh qm qv u0.1 u0.2.1 v0 u0.2.2.1 u0.2.2.2 (key i) (by rw [hu]; exact kd_adds_le (Nat.zero_le 64) i)) (cwV 1 hts gX0_addKey_X0_addByte rfl rfl rfl (by decide +kernel) ⟨Nat.le_of_ble_eq_true rfl, Nat.le_of_ble_eq_true rfl⟩) ⟨fun a U g mk q => kd_calling rfl rfl q, va_recv hK hPc (ci := 0) (q0 := 0) rfl rfl, fun U hU hW => ⟨rfl, kd_pre hPc hK hDc hT hS hFc U hU hW⟩⟩ rfl rfl hl.1 rfl (lv_room (Nat.le_of_ble_eq_true rfl)) dX0_addKey_17 ⟨Nat.le_of_ble_eq_true rfl, Nat.le_of_ble_eq_true rfl⟩) hS (fun q _ h => hFc q h) hFc (fun u t H1 locs ht hvm hw hB hz1 hk1 hS => ?_)
          obtain ⟨ho17, mo17, vo17, ko17, ao17⟩ := u
          have hw17 : (ho17, mo17, ko17, ao17) = kd_add (key i) (u0.1, u0.2.1, u0.2.2.1, u0.2.2.2) := hw
          have hP1 : va_P (dC, dI) vwCl [(h0, .inr (0, [.ref qh, .ref qm, .ref qv, .int (nI ko17), .long ao17])), (qh, .inl (cA, 8, .inl ho17)), (qm, .inl (cA, 16, .inl mo17)), (qv, .inl (cA, 16, .inl vo17))] H1 := by rw [← ht]; exact hB.1
          have hD1 : va_D (va_A [(h0, .inr (0, [.ref qh, .ref qm, .ref qv, .int (nI u0.2.2.1), .long u0.2.2.2])), (qh, .inl (cA, 8, .inl u0.1)), (qm, .inl (cA, 16, .inl u0.2.1)), (qv, .inl (cA, 16, .inl v0))] H.size) [(h0, .inr (0, [.ref qh, .ref qm, .ref qv, .int (nI ko17), .long ao17])), (qh, .inl (cA, 8, .inl ho17)), (qm, .inl (cA, 16, .inl mo17)), (qv, .inl (cA, 16, .inl vo17))] := hB.2.2
          obtain ⟨hP, hD⟩ := va_join (wr := [(qk, .inl (cA, 32, .inl key))]) (w1 := [(h0, .inr (0, [.ref qh, .ref qm, .ref qv, .int (nI ko17), .long ao17])), (qh, .inl (cA, 8, .inl ho17)), (qm, .inl (cA, 16, .inl mo17)), (qv, .inl (cA, 16, .inl vo17))]) hP hD [0, 1, 2, 3] [4] rfl rfl (by decide) (by decide) hk1 hFc hP1 hD1
          clear hw hB hk1 hPc hDc hFc hP1 hD1 hvm hz1
          generalize H1 = H at hP hS ⊢
          have hP : va_P (dC, dI) vwCl [(qk, .inl (cA, 32, .inl key)), (h0, .inr (0, [.ref qh, .ref qm, .ref qv, .int (nI ko17), .long ao17])), (qh, .inl (cA, 8, .inl ho17)), (qm, .inl (cA, 16, .inl mo17)), (qv, .inl (cA, 16, .inl vo17))] H := hP
          have hD : va_D A [(qk, .inl (cA, 32, .inl key)), (h0, .inr (0, [.ref qh, .ref qm, .ref qv, .int (nI ko17), .long ao17])), (qh, .inl (cA, 8, .inl ho17)), (qm, .inl (cA, 16, .inl mo17)), (qv, .inl (cA, 16, .inl vo17))] := hD
          obtain ⟨x20, ex20⟩ : ∃ zz : Int32, zz = x + 1 := ⟨_, rfl⟩
          refine lv_iinc (v := x20) (lv' := [(3, .int x20), (0, .ref h0), (1, .ref qk), (2, .int (nI kn))]) hx hb dX0_addKey_20 hl (k := 0) rfl (by rw [ex20]; rfl) (by decide) rfl (fun ls hl => ?_)
          refine lv_goto (tgt := 2) hx hb dX0_addKey_23 (by decide) ?_
          exact ih  (i + 1) x20 (ho17, mo17, ko17, ao17) vo17 (by omega) (by omega) (by rw [ex20, ex]; exact nI_1 i) (by rw [hw17]; show kd_add (key i) u0 = _; rw [hu]; rfl) _ _ ls (hP.sub [1, 2, 3, 4, 0] rfl) (hD.sub [1, 2, 3, 4, 0] (by decide) rfl) hS (lv_sub hl [0, 1, 2, 3] rfl)
  exact lp (kn + 1) 0 0 (hh, mm, 0, ab) vv (by omega) (by omega) rfl rfl _ _ ls (hP.sub [0, 1, 2, 3, 4] rfl) (hD.sub [0, 1, 2, 3, 4] (by decide) rfl) hS (lv_sub hl [0, 1, 2, 3] rfl)
end
section
set_option maxHeartbeats 4000000 in
set_option maxRecDepth 100000 in
theorem cX1_isByte_ok (l : Launch) (dC : Nat → ClassId) (dI : Nat → Nat → Nat) (cA : ClassId) (tb : Nat → Nat) (sz : Nat) (b : Int32) : Met l yX1_isByte wsX1_isByte ({ frames := 0, cells := 0, slots := 0, locals := 0 }) (va_Pc [.int b] (kd_I (dC, dI) cA tb sz [])) (va_Qi (fun (r : Int32) (u : Unit) => r = kd_isB b) (fun u t => kd_O (dC, dI) cA (va_A [] sz) [] t) (va_A [] sz)) 0 0 (va_A [] sz) := by
  refine Met.ofW (cc := cX1_isByte) (maxL := 1) (ret := (some .boolean)) (by decide) rfl ?_
  intro p e s m args below meth c s₁ B hml hv
  obtain ⟨rfl, hsz, hP, hK, hD0, hT⟩ := hv
  have hx := B.exec
  have hb := B.bytes
  have hr := B.returns
  have hts := atoms_spec (ws := wsX1_isByte) B.pre
  have hown : s.vm.findClass RX1 = some m.cls := findClass_of_methodNamed B.named
  have hlocks := B.notSynchronized
  subst hsz
  have hD := hD0.self (sz := s.heap.size)
  generalize hAe : va_A [] s.heap.size = A at hD hT ⊢
  have hA : ∀ q : Nat, s.heap.size ≤ q → A q := fun q h => by rw [← hAe]; exact Or.inr h
  have hS : va_S A s.heap s.heap [] := va_S.rf
  have hP : va_P (dC, dI) vwCl [] s.heap := hP
  have hl := lv_entry ([.int b]) (n := 1) (Nat.le_of_ble_eq_true rfl)
  rw [lg_entry_eq]
  generalize (lg_sl ([.int b]) ++ List.replicate (1 - (lg_sl ([.int b])).length) Slot.unset).toArray = ls at hl ⊢
  have hl : lv_has ls 1 [(0, .int b)] := hl
  refine lv_iload_n hx hb dX1_isByte_0 rfl (lv_at hl 0 rfl) ?_
  refine lv_if_lt (tgt := 15) hx hb dX1_isByte_1 (by decide) (fun c1 => ?_) (fun c1 => ?_)
  · refine lv_iconst (v := 0) hx hb dX1_isByte_15 (by decide) ?_
    have hP9 := hP.sub (ws' := []) [] rfl
    have hD9 := hD.sub (ws' := []) [] (by decide) rfl
    exact W.zret (v := 0) hx hb hr (by rfl) (fun t ht hW => ⟨⟨0, (), rfl, (if_pos (Or.inl c1)).symm, by rw [ht]; exact hP9, va_K.moved hW.alike hK, hD9⟩, hS.F ht⟩) hS.2.2 dX1_isByte_16
  · refine lv_iload_n hx hb dX1_isByte_4 rfl (lv_at hl 0 rfl) ?_
    refine lv_sipush (v := 255) hx hb dX1_isByte_5 (by decide) ?_
    refine lv_icmp_gt (tgt := 15) hx hb dX1_isByte_8 (by decide) (fun c8 => ?_) (fun c8 => ?_)
    · refine lv_iconst (v := 0) hx hb dX1_isByte_15 (by decide) ?_
      have hP9 := hP.sub (ws' := []) [] rfl
      have hD9 := hD.sub (ws' := []) [] (by decide) rfl
      exact W.zret (v := 0) hx hb hr (by rfl) (fun t ht hW => ⟨⟨0, (), rfl, (if_pos (Or.inr (c8))).symm, by rw [ht]; exact hP9, va_K.moved hW.alike hK, hD9⟩, hS.F ht⟩) hS.2.2 dX1_isByte_16
    · refine lv_iconst (v := 1) hx hb dX1_isByte_11 (by decide) ?_
      refine lv_goto (tgt := 16) hx hb dX1_isByte_12 (by decide) ?_
      have hP9 := hP.sub (ws' := []) [] rfl
      have hD9 := hD.sub (ws' := []) [] (by decide) rfl
      exact W.zret (v := 1) hx hb hr (by rfl) (fun t ht hW => ⟨⟨1, (), rfl, (if_neg (fun h => h.elim c1 (c8))).symm, by rw [ht]; exact hP9, va_K.moved hW.alike hK, hD9⟩, hS.F ht⟩) hS.2.2 dX1_isByte_16

set_option maxHeartbeats 4000000 in
set_option maxRecDepth 100000 in
theorem cX1_hasMessage_ok (l : Launch) (dC : Nat → ClassId) (dI : Nat → Nat → Nat) (cA : ClassId) (tb : Nat → Nat) (sz : Nat) (h0 : Nat) (qk : Nat) (qc : Nat) (st : Int32) (nn : Int32) (ln : Int32) : Met l yX1_hasMessage wsX1_hasMessage ({ frames := 0, cells := 0, slots := 0, locals := 0 }) (va_Pc [.ref h0] (kd_I (dC, dI) cA tb sz [(h0, .inr (1, [.ref qk, .ref qc, .int st, .int nn, .int ln]))])) (va_Qi (fun (r : Int32) (u : Unit) => r = kd_has st) (fun u t => kd_O (dC, dI) cA (va_A [(h0, .inr (1, [.ref qk, .ref qc, .int st, .int nn, .int ln]))] sz) [(h0, .inr (1, [.ref qk, .ref qc, .int st, .int nn, .int ln]))] t) (va_A [(h0, .inr (1, [.ref qk, .ref qc, .int st, .int nn, .int ln]))] sz)) 0 0 (va_A [(h0, .inr (1, [.ref qk, .ref qc, .int st, .int nn, .int ln]))] sz) := by
  refine Met.ofW (cc := cX1_hasMessage) (maxL := 1) (ret := (some .boolean)) (by decide) rfl ?_
  intro p e s m args below meth c s₁ B hml hv
  obtain ⟨rfl, hsz, hP, hK, hD0, hT⟩ := hv
  have hx := B.exec
  have hb := B.bytes
  have hr := B.returns
  have hts := atoms_spec (ws := wsX1_hasMessage) B.pre
  have hown : s.vm.findClass RX1 = some m.cls := findClass_of_methodNamed B.named
  have hlocks := B.notSynchronized
  have ki1 : ∀ w ∈ u_ws RX1 TX1 5, w ∈ wsX1_hasMessage := by decide +kernel
  have k1 := hts (.fieldLink RX1 20 "KeyedDigest" "state" "I") (by decide +kernel)
  subst hsz
  have hD := hD0.self (sz := s.heap.size)
  generalize hAe : va_A [(h0, .inr (1, [.ref qk, .ref qc, .int st, .int nn, .int ln]))] s.heap.size = A at hD hT ⊢
  have hA : ∀ q : Nat, s.heap.size ≤ q → A q := fun q h => by rw [← hAe]; exact Or.inr h
  have hS : va_S A s.heap s.heap [] := va_S.rf
  have hP : va_P (dC, dI) vwCl [(h0, .inr (1, [.ref qk, .ref qc, .int st, .int nn, .int ln]))] s.heap := hP
  have hl := lv_entry ([.ref h0]) (n := 1) (Nat.le_of_ble_eq_true rfl)
  rw [lg_entry_eq]
  generalize (lg_sl ([.ref h0]) ++ List.replicate (1 - (lg_sl ([.ref h0])).length) Slot.unset).toArray = ls at hl ⊢
  have hl : lv_has ls 1 [(0, .ref h0)] := hl
  refine lv_aload_n hx hb dX1_hasMessage_0 rfl (lv_at hl 0 rfl) ?_
  refine va_get (D := (dC, dI)) (ci := 1) (v := .int st) (C := RX1) (T := TX1) (N := 5) hx hb hts ki1 hown hK hP 0 rfl rfl 2 (by decide) k1 (fun _ h9 => h9) rfl dX1_hasMessage_1 ?_
  refine lv_iconst (v := 2) hx hb dX1_hasMessage_4 (by decide) ?_
  refine lv_icmp_eq (tgt := 16) hx hb dX1_hasMessage_5 (by decide) (fun c5 => ?_) (fun c5 => ?_)
  · refine lv_iconst (v := 1) hx hb dX1_hasMessage_16 (by decide) ?_
    refine lv_goto (tgt := 21) hx hb dX1_hasMessage_17 (by decide) ?_
    have hP9 := hP.sub (ws' := [(h0, .inr (1, [.ref qk, .ref qc, .int st, .int nn, .int ln]))]) [0] rfl
    have hD9 := hD.sub (ws' := [(h0, .inr (1, [.ref qk, .ref qc, .int st, .int nn, .int ln]))]) [0] (by decide) rfl
    exact W.zret (v := 1) hx hb hr (by rfl) (fun t ht hW => ⟨⟨1, (), rfl, (if_pos (Or.inl c5)).symm, by rw [ht]; exact hP9, va_K.moved hW.alike hK, hD9⟩, hS.F ht⟩) hS.2.2 dX1_hasMessage_21
  · refine lv_aload_n hx hb dX1_hasMessage_8 rfl (lv_at hl 0 rfl) ?_
    refine va_get (D := (dC, dI)) (ci := 1) (v := .int st) (C := RX1) (T := TX1) (N := 5) hx hb hts ki1 hown hK hP 0 rfl rfl 2 (by decide) k1 (fun _ h9 => h9) rfl dX1_hasMessage_9 ?_
    refine lv_iconst (v := 3) hx hb dX1_hasMessage_12 (by decide) ?_
    refine lv_icmp_ne (tgt := 20) hx hb dX1_hasMessage_13 (by decide) (fun c13 => ?_) (fun c13 => ?_)
    · refine lv_iconst (v := 0) hx hb dX1_hasMessage_20 (by decide) ?_
      have hP9 := hP.sub (ws' := [(h0, .inr (1, [.ref qk, .ref qc, .int st, .int nn, .int ln]))]) [0] rfl
      have hD9 := hD.sub (ws' := [(h0, .inr (1, [.ref qk, .ref qc, .int st, .int nn, .int ln]))]) [0] (by decide) rfl
      exact W.zret (v := 0) hx hb hr (by rfl) (fun t ht hW => ⟨⟨0, (), rfl, (if_neg (fun h => h.elim c5 (c13))).symm, by rw [ht]; exact hP9, va_K.moved hW.alike hK, hD9⟩, hS.F ht⟩) hS.2.2 dX1_hasMessage_21
    · refine lv_iconst (v := 1) hx hb dX1_hasMessage_16 (by decide) ?_
      refine lv_goto (tgt := 21) hx hb dX1_hasMessage_17 (by decide) ?_
      have hP9 := hP.sub (ws' := [(h0, .inr (1, [.ref qk, .ref qc, .int st, .int nn, .int ln]))]) [0] rfl
      have hD9 := hD.sub (ws' := [(h0, .inr (1, [.ref qk, .ref qc, .int st, .int nn, .int ln]))]) [0] (by decide) rfl
      exact W.zret (v := 1) hx hb hr (by rfl) (fun t ht hW => ⟨⟨1, (), rfl, (if_pos (Or.inr (c13))).symm, by rw [ht]; exact hP9, va_K.moved hW.alike hK, hD9⟩, hS.F ht⟩) hS.2.2 dX1_hasMessage_21

set_option maxHeartbeats 4000000 in
set_option maxRecDepth 100000 in
theorem cX1_length_ok (l : Launch) (dC : Nat → ClassId) (dI : Nat → Nat → Nat) (cA : ClassId) (tb : Nat → Nat) (sz : Nat) (h0 : Nat) (qk : Nat) (qc : Nat) (st : Int32) (nn : Int32) (ln : Int32) : Met l yX1_length wsX1_length ({ frames := 1, cells := 0, slots := 0, locals := 20 }) (va_Pc [.ref h0] (kd_I (dC, dI) cA tb sz [(h0, .inr (1, [.ref qk, .ref qc, .int st, .int nn, .int ln]))])) (va_Qi (fun (r : Int32) (u : Unit) => r = if kd_has st = 0 then -1 else ln) (fun u t => kd_O (dC, dI) cA (va_A [(h0, .inr (1, [.ref qk, .ref qc, .int st, .int nn, .int ln]))] sz) [(h0, .inr (1, [.ref qk, .ref qc, .int st, .int nn, .int ln]))] t) (va_A [(h0, .inr (1, [.ref qk, .ref qc, .int st, .int nn, .int ln]))] sz)) 0 0 (va_A [(h0, .inr (1, [.ref qk, .ref qc, .int st, .int nn, .int ln]))] sz) := by
  refine Met.ofW (cc := cX1_length) (maxL := 1) (ret := (some .int)) (by decide) rfl ?_
  intro p e s m args below meth c s₁ B hml hv
  obtain ⟨rfl, hsz, hP, hK, hD0, hT⟩ := hv
  have hx := B.exec
  have hb := B.bytes
  have hr := B.returns
  have hts := atoms_spec (ws := wsX1_length) B.pre
  have hown : s.vm.findClass RX1 = some m.cls := findClass_of_methodNamed B.named
  have hlocks := B.notSynchronized
  have ki1 : ∀ w ∈ u_ws RX1 TX1 5, w ∈ wsX1_length := by decide +kernel
  have k1 := hts (.fieldLink RX1 27 "KeyedDigest" "messageBytes" "I") (by decide +kernel)
  subst hsz
  have hD := hD0.self (sz := s.heap.size)
  generalize hAe : va_A [(h0, .inr (1, [.ref qk, .ref qc, .int st, .int nn, .int ln]))] s.heap.size = A at hD hT ⊢
  have hA : ∀ q : Nat, s.heap.size ≤ q → A q := fun q h => by rw [← hAe]; exact Or.inr h
  have hS : va_S A s.heap s.heap [] := va_S.rf
  have hP : va_P (dC, dI) vwCl [(h0, .inr (1, [.ref qk, .ref qc, .int st, .int nn, .int ln]))] s.heap := hP
  have hl := lv_entry ([.ref h0]) (n := 1) (Nat.le_of_ble_eq_true rfl)
  rw [lg_entry_eq]
  generalize (lg_sl ([.ref h0]) ++ List.replicate (1 - (lg_sl ([.ref h0])).length) Slot.unset).toArray = ls at hl ⊢
  have hl : lv_has ls 1 [(0, .ref h0)] := hl
  refine lv_aload_n hx hb dX1_length_0 rfl (lv_at hl 0 rfl) ?_
  have hPc := hP.sub (ws' := [(h0, .inr (1, [.ref qk, .ref qc, .int st, .int nn, .int ln]))]) [0] rfl
  have hDc := hD.sub (ws' := [(h0, .inr (1, [.ref qk, .ref qc, .int st, .int nn, .int ln]))]) [0] (by decide) rfl
  have hFc := va_free (wc := [(h0, .inr (1, [.ref qk, .ref qc, .int st, .int nn, .int ln]))]) hD hS hA [0] rfl
  refine va_calli (va_runV (As := []) (rest := []) ⟨hx, hb, hml, hown, hts⟩ (cX1_hasMessage_ok l dC dI cA tb s.heap.size h0 qk qc st nn ln ) (cwV 0 hts gX1_length_X1_hasMessage rfl rfl rfl (by decide +kernel) ⟨Nat.le_of_ble_eq_true rfl, Nat.le_of_ble_eq_true rfl⟩) ⟨fun a U g mk q => kd_calling rfl rfl q, va_recv hK hPc (ci := 1) (q0 := 0) rfl rfl, fun U hU hW => ⟨rfl, kd_pre hPc hK hDc hT hS hFc U hU hW⟩⟩ rfl rfl hl.1 rfl (lv_room (Nat.le_of_ble_eq_true rfl)) dX1_length_1 ⟨Nat.le_of_ble_eq_true rfl, Nat.le_of_ble_eq_true rfl⟩) hS (fun q _ h => hFc q h) hFc (fun r1 u t H1 locs ht hvm hw hB hz1 hk1 hS => ?_)
  have hw1 : r1 = kd_has st := hw
  have hP1 : va_P (dC, dI) vwCl [(h0, .inr (1, [.ref qk, .ref qc, .int st, .int nn, .int ln]))] H1 := by rw [← ht]; exact hB.1
  have hD1 : va_D (va_A [(h0, .inr (1, [.ref qk, .ref qc, .int st, .int nn, .int ln]))] s.heap.size) [(h0, .inr (1, [.ref qk, .ref qc, .int st, .int nn, .int ln]))] := hB.2.2
  obtain ⟨hP, hD⟩ := va_join (wr := []) (w1 := [(h0, .inr (1, [.ref qk, .ref qc, .int st, .int nn, .int ln]))]) hP hD [0] [] rfl rfl (by decide) (by decide) hk1 hFc hP1 hD1
  clear hw hB hk1 hPc hDc hFc hP1 hD1 hvm hz1
  generalize H1 = H at hP hS ⊢
  have hP : va_P (dC, dI) vwCl [(h0, .inr (1, [.ref qk, .ref qc, .int st, .int nn, .int ln]))] H := hP
  have hD : va_D A [(h0, .inr (1, [.ref qk, .ref qc, .int st, .int nn, .int ln]))] := hD
  refine lv_if_eq (tgt := 14) hx hb dX1_length_4 (by decide) (fun c4 => ?_) (fun c4 => ?_)
  · refine lv_iconst (v := (-1)) hx hb dX1_length_14 (by decide) ?_
    have hP9 := hP.sub (ws' := [(h0, .inr (1, [.ref qk, .ref qc, .int st, .int nn, .int ln]))]) [0] rfl
    have hD9 := hD.sub (ws' := [(h0, .inr (1, [.ref qk, .ref qc, .int st, .int nn, .int ln]))]) [0] (by decide) rfl
    exact W.iret (v := (-1)) hx hb hr (fun t ht hW => ⟨⟨(-1), (), rfl, (if_pos (hw1 ▸ c4)).symm, by rw [ht]; exact hP9, va_K.moved hW.alike hK, hD9⟩, hS.F ht⟩) hS.2.2 dX1_length_15
  · refine lv_aload_n hx hb dX1_length_7 rfl (lv_at hl 0 rfl) ?_
    refine va_get (D := (dC, dI)) (ci := 1) (v := .int ln) (C := RX1) (T := TX1) (N := 5) hx hb hts ki1 hown hK hP 0 rfl rfl 4 (by decide) k1 (fun _ h9 => h9) rfl dX1_length_8 ?_
    refine lv_goto (tgt := 15) hx hb dX1_length_11 (by decide) ?_
    have hP9 := hP.sub (ws' := [(h0, .inr (1, [.ref qk, .ref qc, .int st, .int nn, .int ln]))]) [0] rfl
    have hD9 := hD.sub (ws' := [(h0, .inr (1, [.ref qk, .ref qc, .int st, .int nn, .int ln]))]) [0] (by decide) rfl
    exact W.iret (v := ln) hx hb hr (fun t ht hW => ⟨⟨ln, (), rfl, (if_neg (hw1 ▸ c4)).symm, by rw [ht]; exact hP9, va_K.moved hW.alike hK, hD9⟩, hS.F ht⟩) hS.2.2 dX1_length_15

set_option maxHeartbeats 4000000 in
set_option maxRecDepth 100000 in
theorem cX1_init_ok (l : Launch) (dC : Nat → ClassId) (dI : Nat → Nat → Nat) (cA : ClassId) (tb : Nat → Nat) (sz : Nat) (h0 : Nat) : Met l yX1_init wsX1_init ({ frames := 2, cells := 5, slots := 77, locals := 44 }) (va_Pc [.ref h0] (kd_I (dC, dI) cA tb sz [(h0, .inr (1, [.null, .null, .int 0, .int 0, .int 0]))])) (va_Qv (fun (u : Nat × Nat × Nat × Nat × Nat) => True) (fun u t => kd_O (dC, dI) cA (va_A [(h0, .inr (1, [.null, .null, .int 0, .int 0, .int 0]))] sz) [(h0, .inr (1, [.ref u.1, .ref u.2.1, .int 0, .int 0, .int 0])), (u.1, .inl (cA, 32, .inl kd_0)), (u.2.1, .inr (0, [.ref u.2.2.1, .ref u.2.2.2.1, .ref u.2.2.2.2, .int (nI 0), .long 0])), (u.2.2.1, .inl (cA, 8, .inl kd_0)), (u.2.2.2.1, .inl (cA, 16, .inl kd_0)), (u.2.2.2.2, .inl (cA, 16, .inl kd_0))] t) (va_A [(h0, .inr (1, [.null, .null, .int 0, .int 0, .int 0]))] sz)) 5 77 (va_A [(h0, .inr (1, [.null, .null, .int 0, .int 0, .int 0]))] sz) := by
  refine Met.ofW (cc := cX1_init) (maxL := 1) (ret := none) (by decide) rfl ?_
  intro p e s m args below meth c s₁ B hml hv
  obtain ⟨rfl, hsz, hP, hK, hD0, hT⟩ := hv
  have hx := B.exec
  have hb := B.bytes
  have hr := B.returns
  have hts := atoms_spec (ws := wsX1_init) B.pre
  have hown : s.vm.findClass RX1 = some m.cls := findClass_of_methodNamed B.named
  have hlocks := B.notSynchronized
  have k0 := hts (.arrayClass .int) (by decide +kernel)
  have ki1 : ∀ w ∈ u_ws RX1 TX1 5, w ∈ wsX1_init := by decide +kernel
  have k2 := hts (.fieldLink RX1 9 "KeyedDigest" "key" "[I") (by decide +kernel)
  have ki0 : ∀ w ∈ u_ws RX0 TX0 5, w ∈ wsX1_init := by decide +kernel
  have k4 := hts (.fieldLink RX1 16 "KeyedDigest" "chain" "LKeyedDigest$Chain;") (by decide +kernel)
  have k5 := hts (.fieldLink RX1 20 "KeyedDigest" "state" "I") (by decide +kernel)
  have k6 := hts (.fieldLink RX1 24 "KeyedDigest" "digestBytes" "I") (by decide +kernel)
  have k7 := hts (.fieldLink RX1 27 "KeyedDigest" "messageBytes" "I") (by decide +kernel)
  have hin : meth.name = "<init>" := (name_of_methodNamed B.named B.method).1
  subst hsz
  have hD := hD0.self (sz := s.heap.size)
  generalize hAe : va_A [(h0, .inr (1, [.null, .null, .int 0, .int 0, .int 0]))] s.heap.size = A at hD hT ⊢
  have hA : ∀ q : Nat, s.heap.size ≤ q → A q := fun q h => by rw [← hAe]; exact Or.inr h
  have hS : va_S A s.heap s.heap [] := va_S.rf
  have hP : va_P (dC, dI) vwCl [(h0, .inr (1, [.null, .null, .int 0, .int 0, .int 0]))] s.heap := hP
  have hl := lv_entry ([.ref h0]) (n := 1) (Nat.le_of_ble_eq_true rfl)
  rw [lg_entry_eq]
  generalize (lg_sl ([.ref h0]) ++ List.replicate (1 - (lg_sl ([.ref h0])).length) Slot.unset).toArray = ls at hl ⊢
  have hl : lv_has ls 1 [(0, .ref h0)] := hl
  refine lv_aload_n hx hb dX1_init_0 rfl (lv_at hl 0 rfl) ?_
  refine W.objInit hx hb hown (hts (.methodLink RX1 1 objectInit) (by decide +kernel)) (hts (.instanceMethod objectInit) (by decide +kernel)) (hts (.code objectInit ⟨#[0xb1]⟩ 1 none) (by decide +kernel)) rfl (by rw [hml]; exact hl.1) rfl dX1_init_1 (Nat.le_of_ble_eq_true rfl) (Nat.le_of_ble_eq_true rfl) ?_
  refine W.eq (g2 := F0 m 4 ls []) rfl ?_
  refine lv_aload_n hx hb dX1_init_4 rfl (lv_at hl 0 rfl) ?_
  refine lv_bipush (v := 32) hx hb dX1_init_5 (by decide) ?_
  refine kd_newa hx hb k0 hK hP hD hS hA (n := 32) (N := 32) (by decide) (by decide) (by decide) (Nat.le_of_ble_eq_true rfl) (Nat.le_of_ble_eq_true rfl) dX1_init_7 (fun q7 H hP hD hS => ?_)
  have hP : va_P (dC, dI) vwCl [(h0, .inr (1, [.null, .null, .int 0, .int 0, .int 0])), (q7, .inl (cA, 32, .inl (fun _ => 0)))] H := hP
  have hD : va_D A [(h0, .inr (1, [.null, .null, .int 0, .int 0, .int 0])), (q7, .inl (cA, 32, .inl (fun _ => 0)))] := hD
  refine W.widen (k := 1) (n := 32) (by omega) (by omega) ?_
  refine va_putF (D := (dC, dI)) (ci := 1) (v := .ref q7) (ty := .array .int) (C := RX1) (T := TX1) (N := 5) hx hb hts ki1 tyX1 tyX1_ok nmX1 hown hK hP hD hS 0 rfl rfl 0 (by decide) k2 (fun _ h9 => h9) rfl hin rfl (by decide +kernel) rfl rfl (Nat.le_of_ble_eq_true rfl) dX1_init_9 (fun H locs hP hD hS => ?_)
  have hP : va_P (dC, dI) vwCl [(h0, .inr (1, [.ref q7, .null, .int 0, .int 0, .int 0])), (q7, .inl (cA, 32, .inl (fun _ => 0)))] H := hP
  have hD : va_D A [(h0, .inr (1, [.ref q7, .null, .int 0, .int 0, .int 0])), (q7, .inl (cA, 32, .inl (fun _ => 0)))] := hD
  refine lv_aload_n hx hb dX1_init_12 rfl (lv_at hl 0 rfl) ?_
  refine va_new (ci := 0) (fs := [.null, .null, .null, .int 0, .long 0]) (C := RX0) (T := TX0) (N := 5) hx hb hts ki0 tyX0 tyX0_ok hown (hts (.classLink RX1 13 RX0) (by decide +kernel)) (hts (.instantiable RX0 5) (by decide +kernel)) (hts (.initialized RX0) (by decide +kernel)) hK hP hD hS hA rfl (fun j hj => by rcases (show j = 0 ∨ j = 1 ∨ j = 2 ∨ j = 3 ∨ j = 4 by omega) with rfl | rfl | rfl | rfl | rfl <;> rfl) (Nat.le_of_ble_eq_true rfl) (Nat.le_of_ble_eq_true rfl) dX1_init_13 (fun q13 H hP hD hS => ?_)
  have hP : va_P (dC, dI) vwCl [(h0, .inr (1, [.ref q7, .null, .int 0, .int 0, .int 0])), (q7, .inl (cA, 32, .inl (fun _ => 0))), (q13, .inr (0, [.null, .null, .null, .int 0, .long 0]))] H := hP
  have hD : va_D A [(h0, .inr (1, [.ref q7, .null, .int 0, .int 0, .int 0])), (q7, .inl (cA, 32, .inl (fun _ => 0))), (q13, .inr (0, [.null, .null, .null, .int 0, .long 0]))] := hD
  refine W.widen (k := 2) (n := 37) (by omega) (by omega) ?_
  refine lv_dup hx hb dX1_init_16 rfl ?_
  have hPc := hP.sub (ws' := [(q13, .inr (0, [.null, .null, .null, .int 0, .long 0]))]) [2] rfl
  have hDc := hD.sub (ws' := [(q13, .inr (0, [.null, .null, .null, .int 0, .long 0]))]) [2] (by decide) rfl
  have hFc := va_free (wc := [(q13, .inr (0, [.null, .null, .null, .int 0, .long 0]))]) hD hS hA [2] rfl
  refine va_callv (va_runI (As := []) (rest := [.ref q13, .ref h0]) ⟨hx, hb, hml, hown, hts⟩ (cX0_init_ok l dC dI cA tb H.size q13 ) (cwI 0 hts gX1_init_X0_init rfl rfl rfl (hts (.initialized RX0) (by decide +kernel)) (hts (.methodLink RX1 15 yX0_init) (by decide +kernel)) (hts (.instanceMethod yX0_init) (by decide +kernel)) rfl (by decide +kernel) ⟨Nat.le_of_ble_eq_true rfl, Nat.le_of_ble_eq_true rfl⟩) ⟨fun a U g mk q => kd_calling rfl rfl q, fun U hU hW => ⟨rfl, kd_pre hPc hK hDc hT hS hFc U hU hW⟩⟩ rfl rfl hl.1 rfl (lv_room (Nat.le_of_ble_eq_true rfl)) dX1_init_17 ⟨Nat.le_of_ble_eq_true rfl, Nat.le_of_ble_eq_true rfl⟩) hS (fun q _ h => hFc q h) hFc (fun u t H1 locs ht hvm hw hB hz1 hk1 hS => ?_)
  obtain ⟨qh17, qm17, qv17⟩ := u
  have hw17 : True := hw
  have hP1 : va_P (dC, dI) vwCl [(q13, .inr (0, [.ref qh17, .ref qm17, .ref qv17, .int 0, .long 0])), (qh17, .inl (cA, 8, .inl kd_0)), (qm17, .inl (cA, 16, .inl kd_0)), (qv17, .inl (cA, 16, .inl kd_0))] H1 := by rw [← ht]; exact hB.1
  have hD1 : va_D (va_A [(q13, .inr (0, [.null, .null, .null, .int 0, .long 0]))] H.size) [(q13, .inr (0, [.ref qh17, .ref qm17, .ref qv17, .int 0, .long 0])), (qh17, .inl (cA, 8, .inl kd_0)), (qm17, .inl (cA, 16, .inl kd_0)), (qv17, .inl (cA, 16, .inl kd_0))] := hB.2.2
  obtain ⟨hP, hD⟩ := va_join (wr := [(h0, .inr (1, [.ref q7, .null, .int 0, .int 0, .int 0])), (q7, .inl (cA, 32, .inl (fun _ => 0)))]) (w1 := [(q13, .inr (0, [.ref qh17, .ref qm17, .ref qv17, .int 0, .long 0])), (qh17, .inl (cA, 8, .inl kd_0)), (qm17, .inl (cA, 16, .inl kd_0)), (qv17, .inl (cA, 16, .inl kd_0))]) hP hD [2] [0, 1] rfl rfl (by decide) (by decide) hk1 hFc hP1 hD1
  clear hw hB hk1 hPc hDc hFc hP1 hD1 hvm hz1
  generalize H1 = H at hP hS ⊢
  have hP : va_P (dC, dI) vwCl [(h0, .inr (1, [.ref q7, .null, .int 0, .int 0, .int 0])), (q7, .inl (cA, 32, .inl (fun _ => 0))), (q13, .inr (0, [.ref qh17, .ref qm17, .ref qv17, .int 0, .long 0])), (qh17, .inl (cA, 8, .inl kd_0)), (qm17, .inl (cA, 16, .inl kd_0)), (qv17, .inl (cA, 16, .inl kd_0))] H := hP
  have hD : va_D A [(h0, .inr (1, [.ref q7, .null, .int 0, .int 0, .int 0])), (q7, .inl (cA, 32, .inl (fun _ => 0))), (q13, .inr (0, [.ref qh17, .ref qm17, .ref qv17, .int 0, .long 0])), (qh17, .inl (cA, 8, .inl kd_0)), (qm17, .inl (cA, 16, .inl kd_0)), (qv17, .inl (cA, 16, .inl kd_0))] := hD
  refine va_putF (D := (dC, dI)) (ci := 1) (v := .ref q13) (ty := .object "KeyedDigest$Chain") (C := RX1) (T := TX1) (N := 5) hx hb hts ki1 tyX1 tyX1_ok nmX1 hown hK hP hD hS 0 rfl rfl 1 (by decide) k4 (fun _ h9 => h9) rfl hin rfl (by decide +kernel) rfl rfl (Nat.le_of_ble_eq_true rfl) dX1_init_20 (fun H locs hP hD hS => ?_)
  have hP : va_P (dC, dI) vwCl [(h0, .inr (1, [.ref q7, .ref q13, .int 0, .int 0, .int 0])), (q7, .inl (cA, 32, .inl (fun _ => 0))), (q13, .inr (0, [.ref qh17, .ref qm17, .ref qv17, .int 0, .long 0])), (qh17, .inl (cA, 8, .inl kd_0)), (qm17, .inl (cA, 16, .inl kd_0)), (qv17, .inl (cA, 16, .inl kd_0))] H := hP
  have hD : va_D A [(h0, .inr (1, [.ref q7, .ref q13, .int 0, .int 0, .int 0])), (q7, .inl (cA, 32, .inl (fun _ => 0))), (q13, .inr (0, [.ref qh17, .ref qm17, .ref qv17, .int 0, .long 0])), (qh17, .inl (cA, 8, .inl kd_0)), (qm17, .inl (cA, 16, .inl kd_0)), (qv17, .inl (cA, 16, .inl kd_0))] := hD
  refine lv_aload_n hx hb dX1_init_23 rfl (lv_at hl 0 rfl) ?_
  refine lv_iconst (v := 0) hx hb dX1_init_24 (by decide) ?_
  refine va_put (D := (dC, dI)) (ci := 1) (v := .int 0) (ty := .int) (C := RX1) (T := TX1) (N := 5) hx hb hts ki1 tyX1 tyX1_ok nmX1 hown hK hP hD hS 0 rfl rfl 2 (by decide) k5 (fun _ h9 => h9) rfl (by decide +kernel) rfl rfl (Nat.le_of_ble_eq_true rfl) dX1_init_25 (fun H locs hP hD hS => ?_)
  have hP : va_P (dC, dI) vwCl [(h0, .inr (1, [.ref q7, .ref q13, .int 0, .int 0, .int 0])), (q7, .inl (cA, 32, .inl (fun _ => 0))), (q13, .inr (0, [.ref qh17, .ref qm17, .ref qv17, .int 0, .long 0])), (qh17, .inl (cA, 8, .inl kd_0)), (qm17, .inl (cA, 16, .inl kd_0)), (qv17, .inl (cA, 16, .inl kd_0))] H := hP
  have hD : va_D A [(h0, .inr (1, [.ref q7, .ref q13, .int 0, .int 0, .int 0])), (q7, .inl (cA, 32, .inl (fun _ => 0))), (q13, .inr (0, [.ref qh17, .ref qm17, .ref qv17, .int 0, .long 0])), (qh17, .inl (cA, 8, .inl kd_0)), (qm17, .inl (cA, 16, .inl kd_0)), (qv17, .inl (cA, 16, .inl kd_0))] := hD
  refine lv_aload_n hx hb dX1_init_28 rfl (lv_at hl 0 rfl) ?_
  refine lv_iconst (v := 0) hx hb dX1_init_29 (by decide) ?_
  refine va_put (D := (dC, dI)) (ci := 1) (v := .int 0) (ty := .int) (C := RX1) (T := TX1) (N := 5) hx hb hts ki1 tyX1 tyX1_ok nmX1 hown hK hP hD hS 0 rfl rfl 3 (by decide) k6 (fun _ h9 => h9) rfl (by decide +kernel) rfl rfl (Nat.le_of_ble_eq_true rfl) dX1_init_30 (fun H locs hP hD hS => ?_)
  have hP : va_P (dC, dI) vwCl [(h0, .inr (1, [.ref q7, .ref q13, .int 0, .int 0, .int 0])), (q7, .inl (cA, 32, .inl (fun _ => 0))), (q13, .inr (0, [.ref qh17, .ref qm17, .ref qv17, .int 0, .long 0])), (qh17, .inl (cA, 8, .inl kd_0)), (qm17, .inl (cA, 16, .inl kd_0)), (qv17, .inl (cA, 16, .inl kd_0))] H := hP
  have hD : va_D A [(h0, .inr (1, [.ref q7, .ref q13, .int 0, .int 0, .int 0])), (q7, .inl (cA, 32, .inl (fun _ => 0))), (q13, .inr (0, [.ref qh17, .ref qm17, .ref qv17, .int 0, .long 0])), (qh17, .inl (cA, 8, .inl kd_0)), (qm17, .inl (cA, 16, .inl kd_0)), (qv17, .inl (cA, 16, .inl kd_0))] := hD
  refine lv_aload_n hx hb dX1_init_33 rfl (lv_at hl 0 rfl) ?_
  refine lv_iconst (v := 0) hx hb dX1_init_34 (by decide) ?_
  refine va_put (D := (dC, dI)) (ci := 1) (v := .int 0) (ty := .int) (C := RX1) (T := TX1) (N := 5) hx hb hts ki1 tyX1 tyX1_ok nmX1 hown hK hP hD hS 0 rfl rfl 4 (by decide) k7 (fun _ h9 => h9) rfl (by decide +kernel) rfl rfl (Nat.le_of_ble_eq_true rfl) dX1_init_35 (fun H locs hP hD hS => ?_)
  have hP : va_P (dC, dI) vwCl [(h0, .inr (1, [.ref q7, .ref q13, .int 0, .int 0, .int 0])), (q7, .inl (cA, 32, .inl (fun _ => 0))), (q13, .inr (0, [.ref qh17, .ref qm17, .ref qv17, .int 0, .long 0])), (qh17, .inl (cA, 8, .inl kd_0)), (qm17, .inl (cA, 16, .inl kd_0)), (qv17, .inl (cA, 16, .inl kd_0))] H := hP
  have hD : va_D A [(h0, .inr (1, [.ref q7, .ref q13, .int 0, .int 0, .int 0])), (q7, .inl (cA, 32, .inl (fun _ => 0))), (q13, .inr (0, [.ref qh17, .ref qm17, .ref qv17, .int 0, .long 0])), (qh17, .inl (cA, 8, .inl kd_0)), (qm17, .inl (cA, 16, .inl kd_0)), (qv17, .inl (cA, 16, .inl kd_0))] := hD
  have hP9 := hP.sub (ws' := [(h0, .inr (1, [.ref q7, .ref q13, .int 0, .int 0, .int 0])), (q7, .inl (cA, 32, .inl kd_0)), (q13, .inr (0, [.ref qh17, .ref qm17, .ref qv17, .int (nI 0), .long 0])), (qh17, .inl (cA, 8, .inl kd_0)), (qm17, .inl (cA, 16, .inl kd_0)), (qv17, .inl (cA, 16, .inl kd_0))]) [0, 1, 2, 3, 4, 5] rfl
  have hD9 := hD.sub (ws' := [(h0, .inr (1, [.ref q7, .ref q13, .int 0, .int 0, .int 0])), (q7, .inl (cA, 32, .inl kd_0)), (q13, .inr (0, [.ref qh17, .ref qm17, .ref qv17, .int (nI 0), .long 0])), (qh17, .inl (cA, 8, .inl kd_0)), (qm17, .inl (cA, 16, .inl kd_0)), (qv17, .inl (cA, 16, .inl kd_0))]) [0, 1, 2, 3, 4, 5] (by decide) rfl
  refine W.widen (k := 5) (n := 77) (by omega) (by omega) ?_
  exact W.vret hx hb hr (fun t ht hW => ⟨⟨(q7, q13, qh17, qm17, qv17), rfl, trivial, by rw [ht]; exact hP9, va_K.moved hW.alike hK, hD9⟩, hS.F ht⟩) hS.2.2 dX1_init_38

set_option maxHeartbeats 4000000 in
set_option maxRecDepth 100000 in
theorem cX1_init__ok (l : Launch) (dC : Nat → ClassId) (dI : Nat → Nat → Nat) (cA : ClassId) (tb : Nat → Nat) (sz : Nat) (h0 : Nat) (qk : Nat) (qc : Nat) (key : Nat → Int32) (st : Int32) (nn : Int32) (ln : Int32) : Met l yX1_init_ wsX1_init_ ({ frames := 0, cells := 0, slots := 0, locals := 0 }) (va_Pc [.ref h0] (kd_I (dC, dI) cA tb sz [(h0, .inr (1, [.ref qk, .ref qc, .int st, .int nn, .int ln])), (qk, .inl (cA, 32, .inl key))])) (va_Qv (fun (u : Unit) => True) (fun u t => kd_O (dC, dI) cA (va_A [(h0, .inr (1, [.ref qk, .ref qc, .int st, .int nn, .int ln])), (qk, .inl (cA, 32, .inl key))] sz) [(h0, .inr (1, [.ref qk, .ref qc, .int 1, .int nn, .int ln])), (qk, .inl (cA, 32, .inl kd_0))] t) (va_A [(h0, .inr (1, [.ref qk, .ref qc, .int st, .int nn, .int ln])), (qk, .inl (cA, 32, .inl key))] sz)) 0 0 (va_A [(h0, .inr (1, [.ref qk, .ref qc, .int st, .int nn, .int ln])), (qk, .inl (cA, 32, .inl key))] sz) := by
  refine Met.ofW (cc := cX1_init_) (maxL := 2) (ret := none) (by decide) rfl ?_
  intro p e s m args below meth c s₁ B hml hv
  obtain ⟨rfl, hsz, hP, hK, hD0, hT⟩ := hv
  have hx := B.exec
  have hb := B.bytes
  have hr := B.returns
  have hts := atoms_spec (ws := wsX1_init_) B.pre
  have hown : s.vm.findClass RX1 = some m.cls := findClass_of_methodNamed B.named
  have hlocks := B.notSynchronized
  have ki1 : ∀ w ∈ u_ws RX1 TX1 5, w ∈ wsX1_init_ := by decide +kernel
  have k1 := hts (.fieldLink RX1 20 "KeyedDigest" "state" "I") (by decide +kernel)
  have k2 := hts (.fieldLink RX1 9 "KeyedDigest" "key" "[I") (by decide +kernel)
  subst hsz
  have hD := hD0.self (sz := s.heap.size)
  generalize hAe : va_A [(h0, .inr (1, [.ref qk, .ref qc, .int st, .int nn, .int ln])), (qk, .inl (cA, 32, .inl key))] s.heap.size = A at hD hT ⊢
  have hA : ∀ q : Nat, s.heap.size ≤ q → A q := fun q h => by rw [← hAe]; exact Or.inr h
  have hS : va_S A s.heap s.heap [] := va_S.rf
  have hP : va_P (dC, dI) vwCl [(h0, .inr (1, [.ref qk, .ref qc, .int st, .int nn, .int ln])), (qk, .inl (cA, 32, .inl key))] s.heap := hP
  have hl := lv_entry ([.ref h0]) (n := 2) (Nat.le_of_ble_eq_true rfl)
  rw [lg_entry_eq]
  generalize (lg_sl ([.ref h0]) ++ List.replicate (2 - (lg_sl ([.ref h0])).length) Slot.unset).toArray = ls at hl ⊢
  have hl : lv_has ls 2 [(0, .ref h0)] := hl
  refine lv_iconst (v := 0) hx hb dX1_init__0 (by decide) ?_
  refine lv_istore_n (lv' := [(1, .int 0), (0, .ref h0)]) hx hb dX1_init__1 rfl hl (by decide) rfl (fun ls hl => ?_)
  have lp : ∀ (k : Nat) (i : Nat) (x : Int32) (f : Nat → Int32), (i ≤ 32) → (32 - i < k) → (x = nI i) → (∀ j, j < i → f j = 0) → ∀ (H : Heap) (locs : List Loc) (ls : Array Slot), va_P (dC, dI) vwCl [(h0, .inr (1, [.ref qk, .ref qc, .int st, .int nn, .int ln])), (qk, .inl (cA, 32, .inl f))] H → va_D A [(h0, .inr (1, [.ref qk, .ref qc, .int st, .int nn, .int ln])), (qk, .inl (cA, 32, .inl f))] → va_S A s.heap H locs → lv_has ls 2 [(1, .int x), (0, .ref h0)] → W p l e (headSpec wsX1_init_ { frames := 0, cells := 0, slots := 0, locals := 0 }).room s m ([.ref h0]).toArray below meth c H locs 0 0 (MQ below (va_Qv (fun (u : Unit) => True) (fun u t => kd_O (dC, dI) cA A [(h0, .inr (1, [.ref qk, .ref qc, .int 1, .int nn, .int ln])), (qk, .inl (cA, 32, .inl kd_0))] t) A) ([.ref h0]).toArray s 0 0 A) (F0 m 2 ls []) := by
    intro k
    induction k with
    | zero =>
      intro i x f hi hk ex hf
      omega
    | succ k ih =>
      intro i x f hi hk ex hf H locs ls hP hD hS hl
      refine lv_iload_n hx hb dX1_init__2 rfl (lv_at hl 0 rfl) ?_
      refine lv_bipush (v := 32) hx hb dX1_init__3 (by decide) ?_
      refine lv_icmp_ge (tgt := 21) hx hb dX1_init__5 (by decide) (fun c5 => ?_) (fun c5 => ?_)
      · have hge : 32 ≤ i := kd_ge (n := 32) ex (by omega) (by decide) c5
        have hP := kd_arrP hP hD 1 rfl kd_0 (fun j hj => hf j (by omega))
        have hD := hD.set (p := 1) (e := .inl (cA, 32, .inl kd_0)) rfl
        have hP : va_P (dC, dI) vwCl [(h0, .inr (1, [.ref qk, .ref qc, .int st, .int nn, .int ln])), (qk, .inl (cA, 32, .inl kd_0))] H := hP
        have hD : va_D A [(h0, .inr (1, [.ref qk, .ref qc, .int st, .int nn, .int ln])), (qk, .inl (cA, 32, .inl kd_0))] := hD
        refine lv_aload_n hx hb dX1_init__21 rfl (lv_at hl 1 rfl) ?_
        refine lv_iconst (v := 1) hx hb dX1_init__22 (by decide) ?_
        refine va_put (D := (dC, dI)) (ci := 1) (v := .int 1) (ty := .int) (C := RX1) (T := TX1) (N := 5) hx hb hts ki1 tyX1 tyX1_ok nmX1 hown hK hP hD hS 0 rfl rfl 2 (by decide) k1 (fun _ h9 => h9) rfl (by decide +kernel) rfl rfl (Nat.le_of_ble_eq_true rfl) dX1_init__23 (fun H locs hP hD hS => ?_)
        have hP : va_P (dC, dI) vwCl [(h0, .inr (1, [.ref qk, .ref qc, .int 1, .int nn, .int ln])), (qk, .inl (cA, 32, .inl kd_0))] H := hP
        have hD : va_D A [(h0, .inr (1, [.ref qk, .ref qc, .int 1, .int nn, .int ln])), (qk, .inl (cA, 32, .inl kd_0))] := hD
        have hP9 := hP.sub (ws' := [(h0, .inr (1, [.ref qk, .ref qc, .int 1, .int nn, .int ln])), (qk, .inl (cA, 32, .inl kd_0))]) [0, 1] rfl
        have hD9 := hD.sub (ws' := [(h0, .inr (1, [.ref qk, .ref qc, .int 1, .int nn, .int ln])), (qk, .inl (cA, 32, .inl kd_0))]) [0, 1] (by decide) rfl
        exact W.vret hx hb hr (fun t ht hW => ⟨⟨(), rfl, trivial, by rw [ht]; exact hP9, va_K.moved hW.alike hK, hD9⟩, hS.F ht⟩) hS.2.2 dX1_init__26
      · have hlt : i < 32 := kd_lt (n := 32) ex (by omega) (by decide) c5
        refine lv_aload_n hx hb dX1_init__8 rfl (lv_at hl 1 rfl) ?_
        refine va_get (D := (dC, dI)) (ci := 1) (v := .ref qk) (C := RX1) (T := TX1) (N := 5) hx hb hts ki1 hown hK hP 0 rfl rfl 0 (by decide) k2 (fun _ h9 => h9) rfl dX1_init__9 ?_
        refine lv_iload_n hx hb dX1_init__12 rfl (lv_at hl 0 rfl) ?_
        refine lv_iconst (v := 0) hx hb dX1_init__13 (by decide) ?_
        refine kd_ist i hx hb hK hP hD hS 1 0 rfl rfl ex hlt (by decide) dX1_init__14 (fun f14 ef14 H locs hP hD hS => ?_)
        have hP : va_P (dC, dI) vwCl [(h0, .inr (1, [.ref qk, .ref qc, .int st, .int nn, .int ln])), (qk, .inl (cA, 32, .inl f14))] H := hP
        have hD : va_D A [(h0, .inr (1, [.ref qk, .ref qc, .int st, .int nn, .int ln])), (qk, .inl (cA, 32, .inl f14))] := hD
        obtain ⟨x15, ex15⟩ : ∃ zz : Int32, zz = x + 1 := ⟨_, rfl⟩
        refine lv_iinc (v := x15) (lv' := [(1, .int x15), (0, .ref h0)]) hx hb dX1_init__15 hl (k := 0) rfl (by rw [ex15]; rfl) (by decide) rfl (fun ls hl => ?_)
        refine lv_goto (tgt := 2) hx hb dX1_init__18 (by decide) ?_
        exact ih  (i + 1) x15 f14 (by omega) (by omega) (by rw [ex15, ex]; exact nI_1 i) (fun j hj => by rw [ef14]; unfold upd; split; rfl; exact hf j (by omega)) _ _ ls (hP.sub [0, 1] rfl) (hD.sub [0, 1] (by decide) rfl) hS (lv_sub hl [0, 1] rfl)
  exact lp 33 0 0 key (by omega) (by omega) rfl (fun j hj => absurd hj (Nat.not_lt_zero j)) _ _ ls (hP.sub [0, 1] rfl) (hD.sub [0, 1] (by decide) rfl) hS (lv_sub hl [0, 1] rfl)

set_option maxHeartbeats 4000000 in
set_option maxRecDepth 100000 in
theorem cX1_setKeyByte_ok (l : Launch) (dC : Nat → ClassId) (dI : Nat → Nat → Nat) (cA : ClassId) (tb : Nat → Nat) (sz : Nat) (h0 : Nat) (qk : Nat) (qc : Nat) (key : Nat → Int32) (st : Int32) (nn : Int32) (ln : Int32) (i : Int32) (b : Int32) : Met l yX1_setKeyByte wsX1_setKeyByte ({ frames := 1, cells := 0, slots := 0, locals := 20 }) (va_Pc [.ref h0, .int i, .int b] (kd_I (dC, dI) cA tb sz [(h0, .inr (1, [.ref qk, .ref qc, .int st, .int nn, .int ln])), (qk, .inl (cA, 32, .inl key))])) (va_Qi (fun (r : Int32) (u : (Nat → Int32)) => (r, u) = kd_set (i < 0 ∨ 32 ≤ i ∨ kd_isB b = 0 ∨ st = 2) key i b) (fun u t => kd_O (dC, dI) cA (va_A [(h0, .inr (1, [.ref qk, .ref qc, .int st, .int nn, .int ln])), (qk, .inl (cA, 32, .inl key))] sz) [(h0, .inr (1, [.ref qk, .ref qc, .int st, .int nn, .int ln])), (qk, .inl (cA, 32, .inl u))] t) (va_A [(h0, .inr (1, [.ref qk, .ref qc, .int st, .int nn, .int ln])), (qk, .inl (cA, 32, .inl key))] sz)) 0 0 (va_A [(h0, .inr (1, [.ref qk, .ref qc, .int st, .int nn, .int ln])), (qk, .inl (cA, 32, .inl key))] sz) := by
  refine Met.ofW (cc := cX1_setKeyByte) (maxL := 3) (ret := (some .boolean)) (by decide) rfl ?_
  intro p e s m args below meth c s₁ B hml hv
  obtain ⟨rfl, hsz, hP, hK, hD0, hT⟩ := hv
  have hx := B.exec
  have hb := B.bytes
  have hr := B.returns
  have hts := atoms_spec (ws := wsX1_setKeyByte) B.pre
  have hown : s.vm.findClass RX1 = some m.cls := findClass_of_methodNamed B.named
  have hlocks := B.notSynchronized
  have ki1 : ∀ w ∈ u_ws RX1 TX1 5, w ∈ wsX1_setKeyByte := by decide +kernel
  have k1 := hts (.fieldLink RX1 20 "KeyedDigest" "state" "I") (by decide +kernel)
  have k2 := hts (.fieldLink RX1 9 "KeyedDigest" "key" "[I") (by decide +kernel)
  subst hsz
  have hD := hD0.self (sz := s.heap.size)
  generalize hAe : va_A [(h0, .inr (1, [.ref qk, .ref qc, .int st, .int nn, .int ln])), (qk, .inl (cA, 32, .inl key))] s.heap.size = A at hD hT ⊢
  have hA : ∀ q : Nat, s.heap.size ≤ q → A q := fun q h => by rw [← hAe]; exact Or.inr h
  have hS : va_S A s.heap s.heap [] := va_S.rf
  have hP : va_P (dC, dI) vwCl [(h0, .inr (1, [.ref qk, .ref qc, .int st, .int nn, .int ln])), (qk, .inl (cA, 32, .inl key))] s.heap := hP
  have hl := lv_entry ([.ref h0, .int i, .int b]) (n := 3) (Nat.le_of_ble_eq_true rfl)
  rw [lg_entry_eq]
  generalize (lg_sl ([.ref h0, .int i, .int b]) ++ List.replicate (3 - (lg_sl ([.ref h0, .int i, .int b])).length) Slot.unset).toArray = ls at hl ⊢
  have hl : lv_has ls 3 [(0, .ref h0), (1, .int i), (2, .int b)] := hl
  refine lv_iload_n hx hb dX1_setKeyByte_0 rfl (lv_at hl 1 rfl) ?_
  refine lv_if_lt (tgt := 25) hx hb dX1_setKeyByte_1 (by decide) (fun c1 => ?_) (fun c1 => ?_)
  · refine lv_iconst (v := 0) hx hb dX1_setKeyByte_25 (by decide) ?_
    have hP9 := hP.sub (ws' := [(h0, .inr (1, [.ref qk, .ref qc, .int st, .int nn, .int ln])), (qk, .inl (cA, 32, .inl key))]) [0, 1] rfl
    have hD9 := hD.sub (ws' := [(h0, .inr (1, [.ref qk, .ref qc, .int st, .int nn, .int ln])), (qk, .inl (cA, 32, .inl key))]) [0, 1] (by decide) rfl
    exact W.zret (v := 0) hx hb hr (by rfl) (fun t ht hW => ⟨⟨0, (key), rfl, ((if_pos (Or.inl c1))).symm, by rw [ht]; exact hP9, va_K.moved hW.alike hK, hD9⟩, hS.F ht⟩) hS.2.2 dX1_setKeyByte_26
  · refine lv_iload_n hx hb dX1_setKeyByte_4 rfl (lv_at hl 1 rfl) ?_
    refine lv_bipush (v := 32) hx hb dX1_setKeyByte_5 (by decide) ?_
    refine lv_icmp_ge (tgt := 25) hx hb dX1_setKeyByte_7 (by decide) (fun c7 => ?_) (fun c7 => ?_)
    · refine lv_iconst (v := 0) hx hb dX1_setKeyByte_25 (by decide) ?_
      have hP9 := hP.sub (ws' := [(h0, .inr (1, [.ref qk, .ref qc, .int st, .int nn, .int ln])), (qk, .inl (cA, 32, .inl key))]) [0, 1] rfl
      have hD9 := hD.sub (ws' := [(h0, .inr (1, [.ref qk, .ref qc, .int st, .int nn, .int ln])), (qk, .inl (cA, 32, .inl key))]) [0, 1] (by decide) rfl
      exact W.zret (v := 0) hx hb hr (by rfl) (fun t ht hW => ⟨⟨0, (key), rfl, ((if_pos (Or.inr (Or.inl c7)))).symm, by rw [ht]; exact hP9, va_K.moved hW.alike hK, hD9⟩, hS.F ht⟩) hS.2.2 dX1_setKeyByte_26
    · refine lv_iload_n hx hb dX1_setKeyByte_10 rfl (lv_at hl 2 rfl) ?_
      have hPc := hP.sub (ws' := []) [] rfl
      have hDc := hD.sub (ws' := []) [] (by decide) rfl
      have hFc := va_free (wc := []) hD hS hA [] rfl
      refine va_calli (va_runS (As := [.int b]) (rest := []) ⟨hx, hb, hml, hown, hts⟩ (cX1_isByte_ok l dC dI cA tb s.heap.size b ) (va_cwS 1 hts gX1_setKeyByte_X1_isByte rfl rfl rfl (by decide +kernel) ⟨Nat.le_of_ble_eq_true rfl, Nat.le_of_ble_eq_true rfl⟩) ⟨fun a U g mk q => kd_calling rfl rfl q, fun U hU hW => ⟨rfl, kd_pre hPc hK hDc hT hS hFc U hU hW⟩⟩ rfl rfl hl.1 rfl (lv_room (Nat.le_of_ble_eq_true rfl)) dX1_setKeyByte_11 ⟨Nat.le_of_ble_eq_true rfl, Nat.le_of_ble_eq_true rfl⟩) hS (fun q _ h => hFc q h) hFc (fun r11 u t H1 locs ht hvm hw hB hz1 hk1 hS => ?_)
      have hw11 : r11 = kd_isB b := hw
      have hP1 : va_P (dC, dI) vwCl [] H1 := by rw [← ht]; exact hB.1
      have hD1 : va_D (va_A [] s.heap.size) [] := hB.2.2
      obtain ⟨hP, hD⟩ := va_join (wr := [(h0, .inr (1, [.ref qk, .ref qc, .int st, .int nn, .int ln])), (qk, .inl (cA, 32, .inl key))]) (w1 := []) hP hD [] [0, 1] rfl rfl (by decide) (by decide) hk1 hFc hP1 hD1
      clear hw hB hk1 hPc hDc hFc hP1 hD1 hvm hz1
      generalize H1 = H at hP hS ⊢
      have hP : va_P (dC, dI) vwCl [(h0, .inr (1, [.ref qk, .ref qc, .int st, .int nn, .int ln])), (qk, .inl (cA, 32, .inl key))] H := hP
      have hD : va_D A [(h0, .inr (1, [.ref qk, .ref qc, .int st, .int nn, .int ln])), (qk, .inl (cA, 32, .inl key))] := hD
      refine lv_if_eq (tgt := 25) hx hb dX1_setKeyByte_14 (by decide) (fun c14 => ?_) (fun c14 => ?_)
      · refine lv_iconst (v := 0) hx hb dX1_setKeyByte_25 (by decide) ?_
        have hP9 := hP.sub (ws' := [(h0, .inr (1, [.ref qk, .ref qc, .int st, .int nn, .int ln])), (qk, .inl (cA, 32, .inl key))]) [0, 1] rfl
        have hD9 := hD.sub (ws' := [(h0, .inr (1, [.ref qk, .ref qc, .int st, .int nn, .int ln])), (qk, .inl (cA, 32, .inl key))]) [0, 1] (by decide) rfl
        exact W.zret (v := 0) hx hb hr (by rfl) (fun t ht hW => ⟨⟨0, (key), rfl, ((if_pos (Or.inr (Or.inr (Or.inl (hw11 ▸ c14)))))).symm, by rw [ht]; exact hP9, va_K.moved hW.alike hK, hD9⟩, hS.F ht⟩) hS.2.2 dX1_setKeyByte_26
      · refine lv_aload_n hx hb dX1_setKeyByte_17 rfl (lv_at hl 0 rfl) ?_
        refine va_get (D := (dC, dI)) (ci := 1) (v := .int st) (C := RX1) (T := TX1) (N := 5) hx hb hts ki1 hown hK hP 0 rfl rfl 2 (by decide) k1 (fun _ h9 => h9) rfl dX1_setKeyByte_18 ?_
        refine lv_iconst (v := 2) hx hb dX1_setKeyByte_21 (by decide) ?_
        refine lv_icmp_ne (tgt := 27) hx hb dX1_setKeyByte_22 (by decide) (fun c22 => ?_) (fun c22 => ?_)
        · obtain ⟨j, hj, ej⟩ := kd_ix (n := 32) (by decide) c1 c7
          refine lv_aload_n hx hb dX1_setKeyByte_27 rfl (lv_at hl 0 rfl) ?_
          refine va_get (D := (dC, dI)) (ci := 1) (v := .ref qk) (C := RX1) (T := TX1) (N := 5) hx hb hts ki1 hown hK hP 0 rfl rfl 0 (by decide) k2 (fun _ h9 => h9) rfl dX1_setKeyByte_28 ?_
          refine lv_iload_n hx hb dX1_setKeyByte_31 rfl (lv_at hl 1 rfl) ?_
          refine lv_iload_n hx hb dX1_setKeyByte_32 rfl (lv_at hl 2 rfl) ?_
          refine kd_ist j hx hb hK hP hD hS 1 0 rfl rfl ej hj (by decide) dX1_setKeyByte_33 (fun f33 ef33 H locs hP hD hS => ?_)
          have hP : va_P (dC, dI) vwCl [(h0, .inr (1, [.ref qk, .ref qc, .int st, .int nn, .int ln])), (qk, .inl (cA, 32, .inl f33))] H := hP
          have hD : va_D A [(h0, .inr (1, [.ref qk, .ref qc, .int st, .int nn, .int ln])), (qk, .inl (cA, 32, .inl f33))] := hD
          refine lv_iconst (v := 1) hx hb dX1_setKeyByte_34 (by decide) ?_
          have hP9 := hP.sub (ws' := [(h0, .inr (1, [.ref qk, .ref qc, .int st, .int nn, .int ln])), (qk, .inl (cA, 32, .inl f33))]) [0, 1] rfl
          have hD9 := hD.sub (ws' := [(h0, .inr (1, [.ref qk, .ref qc, .int st, .int nn, .int ln])), (qk, .inl (cA, 32, .inl f33))]) [0, 1] (by decide) rfl
          exact W.zret (v := 1) hx hb hr (by rfl) (fun t ht hW => ⟨⟨1, (f33), rfl, (by dsimp only; unfold kd_set; rw [(if_neg (fun h => h.elim c1 (fun h => h.elim c7 (fun h => h.elim (hw11 ▸ c14) (c22))))), ef33, ej, nI_clamp (by omega)]), by rw [ht]; exact hP9, va_K.moved hW.alike hK, hD9⟩, hS.F ht⟩) hS.2.2 dX1_setKeyByte_35
        · refine lv_iconst (v := 0) hx hb dX1_setKeyByte_25 (by decide) ?_
          have hP9 := hP.sub (ws' := [(h0, .inr (1, [.ref qk, .ref qc, .int st, .int nn, .int ln])), (qk, .inl (cA, 32, .inl key))]) [0, 1] rfl
          have hD9 := hD.sub (ws' := [(h0, .inr (1, [.ref qk, .ref qc, .int st, .int nn, .int ln])), (qk, .inl (cA, 32, .inl key))]) [0, 1] (by decide) rfl
          exact W.zret (v := 0) hx hb hr (by rfl) (fun t ht hW => ⟨⟨0, (key), rfl, ((if_pos (Or.inr (Or.inr (Or.inr (c22)))))).symm, by rw [ht]; exact hP9, va_K.moved hW.alike hK, hD9⟩, hS.F ht⟩) hS.2.2 dX1_setKeyByte_26

set_option maxHeartbeats 4000000 in
set_option maxRecDepth 100000 in
theorem cX1_word_ok (l : Launch) (dC : Nat → ClassId) (dI : Nat → Nat → Nat) (cA : ClassId) (tb : Nat → Nat) (sz : Nat) (h0 : Nat) (qk : Nat) (qc : Nat) (qh : Nat) (qm : Nat) (qv : Nat) (st : Int32) (nn : Int32) (ln : Int32) (hh : Nat → Int32) (kn : Nat) (ab : Int64) (i : Int32) : Met l yX1_word wsX1_word ({ frames := 1, cells := 0, slots := 0, locals := 21 }) (va_Pc [.ref h0, .int i] (kd_I (dC, dI) cA tb sz [(h0, .inr (1, [.ref qk, .ref qc, .int st, .int nn, .int ln])), (qc, .inr (0, [.ref qh, .ref qm, .ref qv, .int (nI kn), .long ab])), (qh, .inl (cA, 8, .inl hh))])) (va_Qi (fun (r : Int32) (u : Unit) => r = if kd_has st = 0 ∨ i < 0 ∨ 8 ≤ i then 0 else hh i.toNatClampNeg) (fun u t => kd_O (dC, dI) cA (va_A [(h0, .inr (1, [.ref qk, .ref qc, .int st, .int nn, .int ln])), (qc, .inr (0, [.ref qh, .ref qm, .ref qv, .int (nI kn), .long ab])), (qh, .inl (cA, 8, .inl hh))] sz) [(h0, .inr (1, [.ref qk, .ref qc, .int st, .int nn, .int ln])), (qc, .inr (0, [.ref qh, .ref qm, .ref qv, .int (nI kn), .long ab])), (qh, .inl (cA, 8, .inl hh))] t) (va_A [(h0, .inr (1, [.ref qk, .ref qc, .int st, .int nn, .int ln])), (qc, .inr (0, [.ref qh, .ref qm, .ref qv, .int (nI kn), .long ab])), (qh, .inl (cA, 8, .inl hh))] sz)) 0 0 (va_A [(h0, .inr (1, [.ref qk, .ref qc, .int st, .int nn, .int ln])), (qc, .inr (0, [.ref qh, .ref qm, .ref qv, .int (nI kn), .long ab])), (qh, .inl (cA, 8, .inl hh))] sz) := by
  refine Met.ofW (cc := cX1_word) (maxL := 2) (ret := (some .int)) (by decide) rfl ?_
  intro p e s m args below meth c s₁ B hml hv
  obtain ⟨rfl, hsz, hP, hK, hD0, hT⟩ := hv
  have hx := B.exec
  have hb := B.bytes
  have hr := B.returns
  have hts := atoms_spec (ws := wsX1_word) B.pre
  have hown : s.vm.findClass RX1 = some m.cls := findClass_of_methodNamed B.named
  have hlocks := B.notSynchronized
  have ki1 : ∀ w ∈ u_ws RX1 TX1 5, w ∈ wsX1_word := by decide +kernel
  have k1 := hts (.fieldLink RX1 16 "KeyedDigest" "chain" "LKeyedDigest$Chain;") (by decide +kernel)
  subst hsz
  have hD := hD0.self (sz := s.heap.size)
  generalize hAe : va_A [(h0, .inr (1, [.ref qk, .ref qc, .int st, .int nn, .int ln])), (qc, .inr (0, [.ref qh, .ref qm, .ref qv, .int (nI kn), .long ab])), (qh, .inl (cA, 8, .inl hh))] s.heap.size = A at hD hT ⊢
  have hA : ∀ q : Nat, s.heap.size ≤ q → A q := fun q h => by rw [← hAe]; exact Or.inr h
  have hS : va_S A s.heap s.heap [] := va_S.rf
  have hP : va_P (dC, dI) vwCl [(h0, .inr (1, [.ref qk, .ref qc, .int st, .int nn, .int ln])), (qc, .inr (0, [.ref qh, .ref qm, .ref qv, .int (nI kn), .long ab])), (qh, .inl (cA, 8, .inl hh))] s.heap := hP
  have hl := lv_entry ([.ref h0, .int i]) (n := 2) (Nat.le_of_ble_eq_true rfl)
  rw [lg_entry_eq]
  generalize (lg_sl ([.ref h0, .int i]) ++ List.replicate (2 - (lg_sl ([.ref h0, .int i])).length) Slot.unset).toArray = ls at hl ⊢
  have hl : lv_has ls 2 [(0, .ref h0), (1, .int i)] := hl
  refine lv_aload_n hx hb dX1_word_0 rfl (lv_at hl 0 rfl) ?_
  have hPc := hP.sub (ws' := [(h0, .inr (1, [.ref qk, .ref qc, .int st, .int nn, .int ln]))]) [0] rfl
  have hDc := hD.sub (ws' := [(h0, .inr (1, [.ref qk, .ref qc, .int st, .int nn, .int ln]))]) [0] (by decide) rfl
  have hFc := va_free (wc := [(h0, .inr (1, [.ref qk, .ref qc, .int st, .int nn, .int ln]))]) hD hS hA [0] rfl
  refine va_calli (va_runV (As := []) (rest := []) ⟨hx, hb, hml, hown, hts⟩ (cX1_hasMessage_ok l dC dI cA tb s.heap.size h0 qk qc st nn ln ) (cwV 0 hts gX1_word_X1_hasMessage rfl rfl rfl (by decide +kernel) ⟨Nat.le_of_ble_eq_true rfl, Nat.le_of_ble_eq_true rfl⟩) ⟨fun a U g mk q => kd_calling rfl rfl q, va_recv hK hPc (ci := 1) (q0 := 0) rfl rfl, fun U hU hW => ⟨rfl, kd_pre hPc hK hDc hT hS hFc U hU hW⟩⟩ rfl rfl hl.1 rfl (lv_room (Nat.le_of_ble_eq_true rfl)) dX1_word_1 ⟨Nat.le_of_ble_eq_true rfl, Nat.le_of_ble_eq_true rfl⟩) hS (fun q _ h => hFc q h) hFc (fun r1 u t H1 locs ht hvm hw hB hz1 hk1 hS => ?_)
  have hw1 : r1 = kd_has st := hw
  have hP1 : va_P (dC, dI) vwCl [(h0, .inr (1, [.ref qk, .ref qc, .int st, .int nn, .int ln]))] H1 := by rw [← ht]; exact hB.1
  have hD1 : va_D (va_A [(h0, .inr (1, [.ref qk, .ref qc, .int st, .int nn, .int ln]))] s.heap.size) [(h0, .inr (1, [.ref qk, .ref qc, .int st, .int nn, .int ln]))] := hB.2.2
  obtain ⟨hP, hD⟩ := va_join (wr := [(qc, .inr (0, [.ref qh, .ref qm, .ref qv, .int (nI kn), .long ab])), (qh, .inl (cA, 8, .inl hh))]) (w1 := [(h0, .inr (1, [.ref qk, .ref qc, .int st, .int nn, .int ln]))]) hP hD [0] [1, 2] rfl rfl (by decide) (by decide) hk1 hFc hP1 hD1
  clear hw hB hk1 hPc hDc hFc hP1 hD1 hvm hz1
  generalize H1 = H at hP hS ⊢
  have hP : va_P (dC, dI) vwCl [(qc, .inr (0, [.ref qh, .ref qm, .ref qv, .int (nI kn), .long ab])), (qh, .inl (cA, 8, .inl hh)), (h0, .inr (1, [.ref qk, .ref qc, .int st, .int nn, .int ln]))] H := hP
  have hD : va_D A [(qc, .inr (0, [.ref qh, .ref qm, .ref qv, .int (nI kn), .long ab])), (qh, .inl (cA, 8, .inl hh)), (h0, .inr (1, [.ref qk, .ref qc, .int st, .int nn, .int ln]))] := hD
  refine lv_if_eq (tgt := 17) hx hb dX1_word_4 (by decide) (fun c4 => ?_) (fun c4 => ?_)
  · refine lv_iconst (v := 0) hx hb dX1_word_17 (by decide) ?_
    have hP9 := hP.sub (ws' := [(h0, .inr (1, [.ref qk, .ref qc, .int st, .int nn, .int ln])), (qc, .inr (0, [.ref qh, .ref qm, .ref qv, .int (nI kn), .long ab])), (qh, .inl (cA, 8, .inl hh))]) [2, 0, 1] rfl
    have hD9 := hD.sub (ws' := [(h0, .inr (1, [.ref qk, .ref qc, .int st, .int nn, .int ln])), (qc, .inr (0, [.ref qh, .ref qm, .ref qv, .int (nI kn), .long ab])), (qh, .inl (cA, 8, .inl hh))]) [2, 0, 1] (by decide) rfl
    exact W.iret (v := 0) hx hb hr (fun t ht hW => ⟨⟨0, (), rfl, ((if_pos (Or.inl (hw1 ▸ c4)))).symm, by rw [ht]; exact hP9, va_K.moved hW.alike hK, hD9⟩, hS.F ht⟩) hS.2.2 dX1_word_18
  · refine lv_iload_n hx hb dX1_word_7 rfl (lv_at hl 1 rfl) ?_
    refine lv_if_lt (tgt := 17) hx hb dX1_word_8 (by decide) (fun c8 => ?_) (fun c8 => ?_)
    · refine lv_iconst (v := 0) hx hb dX1_word_17 (by decide) ?_
      have hP9 := hP.sub (ws' := [(h0, .inr (1, [.ref qk, .ref qc, .int st, .int nn, .int ln])), (qc, .inr (0, [.ref qh, .ref qm, .ref qv, .int (nI kn), .long ab])), (qh, .inl (cA, 8, .inl hh))]) [2, 0, 1] rfl
      have hD9 := hD.sub (ws' := [(h0, .inr (1, [.ref qk, .ref qc, .int st, .int nn, .int ln])), (qc, .inr (0, [.ref qh, .ref qm, .ref qv, .int (nI kn), .long ab])), (qh, .inl (cA, 8, .inl hh))]) [2, 0, 1] (by decide) rfl
      exact W.iret (v := 0) hx hb hr (fun t ht hW => ⟨⟨0, (), rfl, ((if_pos (Or.inr (Or.inl c8)))).symm, by rw [ht]; exact hP9, va_K.moved hW.alike hK, hD9⟩, hS.F ht⟩) hS.2.2 dX1_word_18
    · refine lv_iload_n hx hb dX1_word_11 rfl (lv_at hl 1 rfl) ?_
      refine lv_bipush (v := 8) hx hb dX1_word_12 (by decide) ?_
      refine lv_icmp_lt (tgt := 19) hx hb dX1_word_14 (by decide) (fun c14 => ?_) (fun c14 => ?_)
      · obtain ⟨j, hj, rfl⟩ := kd_ix (n := 8) (by decide) c8 (Int32.not_le.mpr c14)
        refine lv_aload_n hx hb dX1_word_19 rfl (lv_at hl 0 rfl) ?_
        refine va_get (D := (dC, dI)) (ci := 1) (v := .ref qc) (C := RX1) (T := TX1) (N := 5) hx hb hts ki1 hown hK hP 2 rfl rfl 1 (by decide) k1 (fun _ h9 => h9) rfl dX1_word_20 ?_
        refine lv_iload_n hx hb dX1_word_23 rfl (lv_at hl 1 rfl) ?_
        have hPc := hP.sub (ws' := [(qc, .inr (0, [.ref qh, .ref qm, .ref qv, .int (nI kn), .long ab])), (qh, .inl (cA, 8, .inl hh))]) [0, 1] rfl
        have hDc := hD.sub (ws' := [(qc, .inr (0, [.ref qh, .ref qm, .ref qv, .int (nI kn), .long ab])), (qh, .inl (cA, 8, .inl hh))]) [0, 1] (by decide) rfl
        have hFc := va_free (wc := [(qc, .inr (0, [.ref qh, .ref qm, .ref qv, .int (nI kn), .long ab])), (qh, .inl (cA, 8, .inl hh))]) hD hS hA [0, 1] rfl
        refine va_calli (va_runV (As := [.int (nI j)]) (rest := []) ⟨hx, hb, hml, hown, hts⟩ (cX0_stateWord_ok l dC dI cA tb H.size qc qh qm qv hh (nI kn) ab j hj) (cwV 1 hts gX1_word_X0_stateWord rfl rfl rfl (by decide +kernel) ⟨Nat.le_of_ble_eq_true rfl, Nat.le_of_ble_eq_true rfl⟩) ⟨fun a U g mk q => kd_calling rfl rfl q, va_recv hK hPc (ci := 0) (q0 := 0) rfl rfl, fun U hU hW => ⟨rfl, kd_pre hPc hK hDc hT hS hFc U hU hW⟩⟩ rfl rfl hl.1 rfl (lv_room (Nat.le_of_ble_eq_true rfl)) dX1_word_24 ⟨Nat.le_of_ble_eq_true rfl, Nat.le_of_ble_eq_true rfl⟩) hS (fun q _ h => hFc q h) hFc (fun r24 u t H1 locs ht hvm hw hB hz1 hk1 hS => ?_)
        have hw24 : r24 = hh j := hw
        have hP1 : va_P (dC, dI) vwCl [(qc, .inr (0, [.ref qh, .ref qm, .ref qv, .int (nI kn), .long ab])), (qh, .inl (cA, 8, .inl hh))] H1 := by rw [← ht]; exact hB.1
        have hD1 : va_D (va_A [(qc, .inr (0, [.ref qh, .ref qm, .ref qv, .int (nI kn), .long ab])), (qh, .inl (cA, 8, .inl hh))] H.size) [(qc, .inr (0, [.ref qh, .ref qm, .ref qv, .int (nI kn), .long ab])), (qh, .inl (cA, 8, .inl hh))] := hB.2.2
        obtain ⟨hP, hD⟩ := va_join (wr := [(h0, .inr (1, [.ref qk, .ref qc, .int st, .int nn, .int ln]))]) (w1 := [(qc, .inr (0, [.ref qh, .ref qm, .ref qv, .int (nI kn), .long ab])), (qh, .inl (cA, 8, .inl hh))]) hP hD [0, 1] [2] rfl rfl (by decide) (by decide) hk1 hFc hP1 hD1
        clear hw hB hk1 hPc hDc hFc hP1 hD1 hvm hz1
        generalize H1 = H at hP hS ⊢
        have hP : va_P (dC, dI) vwCl [(h0, .inr (1, [.ref qk, .ref qc, .int st, .int nn, .int ln])), (qc, .inr (0, [.ref qh, .ref qm, .ref qv, .int (nI kn), .long ab])), (qh, .inl (cA, 8, .inl hh))] H := hP
        have hD : va_D A [(h0, .inr (1, [.ref qk, .ref qc, .int st, .int nn, .int ln])), (qc, .inr (0, [.ref qh, .ref qm, .ref qv, .int (nI kn), .long ab])), (qh, .inl (cA, 8, .inl hh))] := hD
        have hP9 := hP.sub (ws' := [(h0, .inr (1, [.ref qk, .ref qc, .int st, .int nn, .int ln])), (qc, .inr (0, [.ref qh, .ref qm, .ref qv, .int (nI kn), .long ab])), (qh, .inl (cA, 8, .inl hh))]) [0, 1, 2] rfl
        have hD9 := hD.sub (ws' := [(h0, .inr (1, [.ref qk, .ref qc, .int st, .int nn, .int ln])), (qc, .inr (0, [.ref qh, .ref qm, .ref qv, .int (nI kn), .long ab])), (qh, .inl (cA, 8, .inl hh))]) [0, 1, 2] (by decide) rfl
        exact W.iret (v := r24) hx hb hr (fun t ht hW => ⟨⟨r24, (), rfl, (by dsimp only; rw [(if_neg (fun h => h.elim (hw1 ▸ c4) (fun h => h.elim c8 ((Int32.not_le.mpr c14))))), nI_clamp (by omega)]; exact hw24), by rw [ht]; exact hP9, va_K.moved hW.alike hK, hD9⟩, hS.F ht⟩) hS.2.2 dX1_word_27
      · refine lv_iconst (v := 0) hx hb dX1_word_17 (by decide) ?_
        have hP9 := hP.sub (ws' := [(h0, .inr (1, [.ref qk, .ref qc, .int st, .int nn, .int ln])), (qc, .inr (0, [.ref qh, .ref qm, .ref qv, .int (nI kn), .long ab])), (qh, .inl (cA, 8, .inl hh))]) [2, 0, 1] rfl
        have hD9 := hD.sub (ws' := [(h0, .inr (1, [.ref qk, .ref qc, .int st, .int nn, .int ln])), (qc, .inr (0, [.ref qh, .ref qm, .ref qv, .int (nI kn), .long ab])), (qh, .inl (cA, 8, .inl hh))]) [2, 0, 1] (by decide) rfl
        exact W.iret (v := 0) hx hb hr (fun t ht hW => ⟨⟨0, (), rfl, ((if_pos (Or.inr (Or.inr (Int32.not_lt.mp c14))))).symm, by rw [ht]; exact hP9, va_K.moved hW.alike hK, hD9⟩, hS.F ht⟩) hS.2.2 dX1_word_18

set_option maxHeartbeats 4000000 in
set_option maxRecDepth 100000 in
theorem cX1_out_ok (l : Launch) (dC : Nat → ClassId) (dI : Nat → Nat → Nat) (cA : ClassId) (tb : Nat → Nat) (sz : Nat) (h0 : Nat) (qk : Nat) (qc : Nat) (qh : Nat) (qm : Nat) (qv : Nat) (st : Int32) (nn : Int32) (ln : Int32) (hh : Nat → Int32) (kn : Nat) (ab : Int64) (i : Int32) (hnn : nn ≤ 32) : Met l yX1_out wsX1_out ({ frames := 1, cells := 0, slots := 0, locals := 21 }) (va_Pc [.ref h0, .int i] (kd_I (dC, dI) cA tb sz [(h0, .inr (1, [.ref qk, .ref qc, .int st, .int nn, .int ln])), (qc, .inr (0, [.ref qh, .ref qm, .ref qv, .int (nI kn), .long ab])), (qh, .inl (cA, 8, .inl hh))])) (va_Qi (fun (r : Int32) (u : Unit) => r = if ¬ st = 3 ∨ i < 0 ∨ nn ≤ i then -1 else kd_ushr (hh (i.toNatClampNeg / 4)) (8 * (i &&& 3)) &&& 255) (fun u t => kd_O (dC, dI) cA (va_A [(h0, .inr (1, [.ref qk, .ref qc, .int st, .int nn, .int ln])), (qc, .inr (0, [.ref qh, .ref qm, .ref qv, .int (nI kn), .long ab])), (qh, .inl (cA, 8, .inl hh))] sz) [(h0, .inr (1, [.ref qk, .ref qc, .int st, .int nn, .int ln])), (qc, .inr (0, [.ref qh, .ref qm, .ref qv, .int (nI kn), .long ab])), (qh, .inl (cA, 8, .inl hh))] t) (va_A [(h0, .inr (1, [.ref qk, .ref qc, .int st, .int nn, .int ln])), (qc, .inr (0, [.ref qh, .ref qm, .ref qv, .int (nI kn), .long ab])), (qh, .inl (cA, 8, .inl hh))] sz)) 0 0 (va_A [(h0, .inr (1, [.ref qk, .ref qc, .int st, .int nn, .int ln])), (qc, .inr (0, [.ref qh, .ref qm, .ref qv, .int (nI kn), .long ab])), (qh, .inl (cA, 8, .inl hh))] sz) := by
  refine Met.ofW (cc := cX1_out) (maxL := 2) (ret := (some .int)) (by decide) rfl ?_
  intro p e s m args below meth c s₁ B hml hv
  obtain ⟨rfl, hsz, hP, hK, hD0, hT⟩ := hv
  have hx := B.exec
  have hb := B.bytes
  have hr := B.returns
  have hts := atoms_spec (ws := wsX1_out) B.pre
  have hown : s.vm.findClass RX1 = some m.cls := findClass_of_methodNamed B.named
  have hlocks := B.notSynchronized
  have ki1 : ∀ w ∈ u_ws RX1 TX1 5, w ∈ wsX1_out := by decide +kernel
  have k1 := hts (.fieldLink RX1 20 "KeyedDigest" "state" "I") (by decide +kernel)
  have k2 := hts (.fieldLink RX1 24 "KeyedDigest" "digestBytes" "I") (by decide +kernel)
  have k3 := hts (.fieldLink RX1 16 "KeyedDigest" "chain" "LKeyedDigest$Chain;") (by decide +kernel)
  subst hsz
  have hD := hD0.self (sz := s.heap.size)
  generalize hAe : va_A [(h0, .inr (1, [.ref qk, .ref qc, .int st, .int nn, .int ln])), (qc, .inr (0, [.ref qh, .ref qm, .ref qv, .int (nI kn), .long ab])), (qh, .inl (cA, 8, .inl hh))] s.heap.size = A at hD hT ⊢
  have hA : ∀ q : Nat, s.heap.size ≤ q → A q := fun q h => by rw [← hAe]; exact Or.inr h
  have hS : va_S A s.heap s.heap [] := va_S.rf
  have hP : va_P (dC, dI) vwCl [(h0, .inr (1, [.ref qk, .ref qc, .int st, .int nn, .int ln])), (qc, .inr (0, [.ref qh, .ref qm, .ref qv, .int (nI kn), .long ab])), (qh, .inl (cA, 8, .inl hh))] s.heap := hP
  have hl := lv_entry ([.ref h0, .int i]) (n := 2) (Nat.le_of_ble_eq_true rfl)
  rw [lg_entry_eq]
  generalize (lg_sl ([.ref h0, .int i]) ++ List.replicate (2 - (lg_sl ([.ref h0, .int i])).length) Slot.unset).toArray = ls at hl ⊢
  have hl : lv_has ls 2 [(0, .ref h0), (1, .int i)] := hl
  refine lv_aload_n hx hb dX1_out_0 rfl (lv_at hl 0 rfl) ?_
  refine va_get (D := (dC, dI)) (ci := 1) (v := .int st) (C := RX1) (T := TX1) (N := 5) hx hb hts ki1 hown hK hP 0 rfl rfl 2 (by decide) k1 (fun _ h9 => h9) rfl dX1_out_1 ?_
  refine lv_iconst (v := 3) hx hb dX1_out_4 (by decide) ?_
  refine lv_icmp_ne (tgt := 20) hx hb dX1_out_5 (by decide) (fun c5 => ?_) (fun c5 => ?_)
  · refine lv_iconst (v := (-1)) hx hb dX1_out_20 (by decide) ?_
    have hP9 := hP.sub (ws' := [(h0, .inr (1, [.ref qk, .ref qc, .int st, .int nn, .int ln])), (qc, .inr (0, [.ref qh, .ref qm, .ref qv, .int (nI kn), .long ab])), (qh, .inl (cA, 8, .inl hh))]) [0, 1, 2] rfl
    have hD9 := hD.sub (ws' := [(h0, .inr (1, [.ref qk, .ref qc, .int st, .int nn, .int ln])), (qc, .inr (0, [.ref qh, .ref qm, .ref qv, .int (nI kn), .long ab])), (qh, .inl (cA, 8, .inl hh))]) [0, 1, 2] (by decide) rfl
    exact W.iret (v := (-1)) hx hb hr (fun t ht hW => ⟨⟨(-1), (), rfl, ((if_pos (Or.inl c5))).symm, by rw [ht]; exact hP9, va_K.moved hW.alike hK, hD9⟩, hS.F ht⟩) hS.2.2 dX1_out_21
  · refine lv_iload_n hx hb dX1_out_8 rfl (lv_at hl 1 rfl) ?_
    refine lv_if_lt (tgt := 20) hx hb dX1_out_9 (by decide) (fun c9 => ?_) (fun c9 => ?_)
    · refine lv_iconst (v := (-1)) hx hb dX1_out_20 (by decide) ?_
      have hP9 := hP.sub (ws' := [(h0, .inr (1, [.ref qk, .ref qc, .int st, .int nn, .int ln])), (qc, .inr (0, [.ref qh, .ref qm, .ref qv, .int (nI kn), .long ab])), (qh, .inl (cA, 8, .inl hh))]) [0, 1, 2] rfl
      have hD9 := hD.sub (ws' := [(h0, .inr (1, [.ref qk, .ref qc, .int st, .int nn, .int ln])), (qc, .inr (0, [.ref qh, .ref qm, .ref qv, .int (nI kn), .long ab])), (qh, .inl (cA, 8, .inl hh))]) [0, 1, 2] (by decide) rfl
      exact W.iret (v := (-1)) hx hb hr (fun t ht hW => ⟨⟨(-1), (), rfl, ((if_pos (Or.inr (Or.inl c9)))).symm, by rw [ht]; exact hP9, va_K.moved hW.alike hK, hD9⟩, hS.F ht⟩) hS.2.2 dX1_out_21
    · refine lv_iload_n hx hb dX1_out_12 rfl (lv_at hl 1 rfl) ?_
      refine lv_aload_n hx hb dX1_out_13 rfl (lv_at hl 0 rfl) ?_
      refine va_get (D := (dC, dI)) (ci := 1) (v := .int nn) (C := RX1) (T := TX1) (N := 5) hx hb hts ki1 hown hK hP 0 rfl rfl 3 (by decide) k2 (fun _ h9 => h9) rfl dX1_out_14 ?_
      refine lv_icmp_lt (tgt := 22) hx hb dX1_out_17 (by decide) (fun c17 => ?_) (fun c17 => ?_)
      · obtain ⟨j, hj, rfl⟩ := kd_ix (n := 32) (by decide) c9 (Int32.not_le.mpr (Int32.lt_of_lt_of_le c17 hnn))
        refine lv_aload_n hx hb dX1_out_22 rfl (lv_at hl 0 rfl) ?_
        refine va_get (D := (dC, dI)) (ci := 1) (v := .ref qc) (C := RX1) (T := TX1) (N := 5) hx hb hts ki1 hown hK hP 0 rfl rfl 1 (by decide) k3 (fun _ h9 => h9) rfl dX1_out_23 ?_
        refine lv_iload_n hx hb dX1_out_26 rfl (lv_at hl 1 rfl) ?_
        have hPc := hP.sub (ws' := [(qc, .inr (0, [.ref qh, .ref qm, .ref qv, .int (nI kn), .long ab])), (qh, .inl (cA, 8, .inl hh))]) [1, 2] rfl
        have hDc := hD.sub (ws' := [(qc, .inr (0, [.ref qh, .ref qm, .ref qv, .int (nI kn), .long ab])), (qh, .inl (cA, 8, .inl hh))]) [1, 2] (by decide) rfl
        have hFc := va_free (wc := [(qc, .inr (0, [.ref qh, .ref qm, .ref qv, .int (nI kn), .long ab])), (qh, .inl (cA, 8, .inl hh))]) hD hS hA [1, 2] rfl
        refine va_calli (va_runV (As := [.int (nI j)]) (rest := []) ⟨hx, hb, hml, hown, hts⟩ (cX0_stateByte_ok l dC dI cA tb s.heap.size qc qh qm qv hh (nI kn) ab j hj) (cwV 1 hts gX1_out_X0_stateByte rfl rfl rfl (by decide +kernel) ⟨Nat.le_of_ble_eq_true rfl, Nat.le_of_ble_eq_true rfl⟩) ⟨fun a U g mk q => kd_calling rfl rfl q, va_recv hK hPc (ci := 0) (q0 := 0) rfl rfl, fun U hU hW => ⟨rfl, kd_pre hPc hK hDc hT hS hFc U hU hW⟩⟩ rfl rfl hl.1 rfl (lv_room (Nat.le_of_ble_eq_true rfl)) dX1_out_27 ⟨Nat.le_of_ble_eq_true rfl, Nat.le_of_ble_eq_true rfl⟩) hS (fun q _ h => hFc q h) hFc (fun r27 u t H1 locs ht hvm hw hB hz1 hk1 hS => ?_)
        have hw27 : r27 = kd_ushr (hh (j / 4)) (8 * (nI j &&& 3)) &&& 255 := hw
        have hP1 : va_P (dC, dI) vwCl [(qc, .inr (0, [.ref qh, .ref qm, .ref qv, .int (nI kn), .long ab])), (qh, .inl (cA, 8, .inl hh))] H1 := by rw [← ht]; exact hB.1
        have hD1 : va_D (va_A [(qc, .inr (0, [.ref qh, .ref qm, .ref qv, .int (nI kn), .long ab])), (qh, .inl (cA, 8, .inl hh))] s.heap.size) [(qc, .inr (0, [.ref qh, .ref qm, .ref qv, .int (nI kn), .long ab])), (qh, .inl (cA, 8, .inl hh))] := hB.2.2
        obtain ⟨hP, hD⟩ := va_join (wr := [(h0, .inr (1, [.ref qk, .ref qc, .int st, .int nn, .int ln]))]) (w1 := [(qc, .inr (0, [.ref qh, .ref qm, .ref qv, .int (nI kn), .long ab])), (qh, .inl (cA, 8, .inl hh))]) hP hD [1, 2] [0] rfl rfl (by decide) (by decide) hk1 hFc hP1 hD1
        clear hw hB hk1 hPc hDc hFc hP1 hD1 hvm hz1
        generalize H1 = H at hP hS ⊢
        have hP : va_P (dC, dI) vwCl [(h0, .inr (1, [.ref qk, .ref qc, .int st, .int nn, .int ln])), (qc, .inr (0, [.ref qh, .ref qm, .ref qv, .int (nI kn), .long ab])), (qh, .inl (cA, 8, .inl hh))] H := hP
        have hD : va_D A [(h0, .inr (1, [.ref qk, .ref qc, .int st, .int nn, .int ln])), (qc, .inr (0, [.ref qh, .ref qm, .ref qv, .int (nI kn), .long ab])), (qh, .inl (cA, 8, .inl hh))] := hD
        have hP9 := hP.sub (ws' := [(h0, .inr (1, [.ref qk, .ref qc, .int st, .int nn, .int ln])), (qc, .inr (0, [.ref qh, .ref qm, .ref qv, .int (nI kn), .long ab])), (qh, .inl (cA, 8, .inl hh))]) [0, 1, 2] rfl
        have hD9 := hD.sub (ws' := [(h0, .inr (1, [.ref qk, .ref qc, .int st, .int nn, .int ln])), (qc, .inr (0, [.ref qh, .ref qm, .ref qv, .int (nI kn), .long ab])), (qh, .inl (cA, 8, .inl hh))]) [0, 1, 2] (by decide) rfl
        exact W.iret (v := r27) hx hb hr (fun t ht hW => ⟨⟨r27, (), rfl, (by dsimp only; rw [(if_neg (fun h => h.elim (fun h => h c5) (fun h => h.elim c9 ((Int32.not_le.mpr c17))))), nI_clamp (by omega)]; exact hw27), by rw [ht]; exact hP9, va_K.moved hW.alike hK, hD9⟩, hS.F ht⟩) hS.2.2 dX1_out_30
      · refine lv_iconst (v := (-1)) hx hb dX1_out_20 (by decide) ?_
        have hP9 := hP.sub (ws' := [(h0, .inr (1, [.ref qk, .ref qc, .int st, .int nn, .int ln])), (qc, .inr (0, [.ref qh, .ref qm, .ref qv, .int (nI kn), .long ab])), (qh, .inl (cA, 8, .inl hh))]) [0, 1, 2] rfl
        have hD9 := hD.sub (ws' := [(h0, .inr (1, [.ref qk, .ref qc, .int st, .int nn, .int ln])), (qc, .inr (0, [.ref qh, .ref qm, .ref qv, .int (nI kn), .long ab])), (qh, .inl (cA, 8, .inl hh))]) [0, 1, 2] (by decide) rfl
        exact W.iret (v := (-1)) hx hb hr (fun t ht hW => ⟨⟨(-1), (), rfl, ((if_pos (Or.inr (Or.inr (Int32.not_lt.mp c17))))).symm, by rw [ht]; exact hP9, va_K.moved hW.alike hK, hD9⟩, hS.F ht⟩) hS.2.2 dX1_out_21
end
section
set_option maxHeartbeats 4000000 in
set_option maxRecDepth 100000 in
theorem cX1_addToMessage_ok (l : Launch) (dC : Nat → ClassId) (dI : Nat → Nat → Nat) (cA : ClassId) (tb : Nat → Nat) (sz : Nat) (h0 : Nat) (qk : Nat) (qc : Nat) (qh : Nat) (qm : Nat) (qv : Nat) (st : Int32) (nn : Int32) (ln : Int32) (hh : Nat → Int32) (mm : Nat → Int32) (vv : Nat → Int32) (kn : Nat) (ab : Int64) (b : Int32) (hk : kn ≤ 64) : Met l yX1_addToMessage wsX1_addToMessage ({ frames := 5, cells := 0, slots := 0, locals := 111 }) (va_Pc [.ref h0, .int b] (kd_I (dC, dI) cA tb sz [(h0, .inr (1, [.ref qk, .ref qc, .int st, .int nn, .int ln])), (qc, .inr (0, [.ref qh, .ref qm, .ref qv, .int (nI kn), .long ab])), (qh, .inl (cA, 8, .inl hh)), (qm, .inl (cA, 16, .inl mm)), (qv, .inl (cA, 16, .inl vv))])) (va_Qv (fun (u : Int32 × (Nat → Int32) × (Nat → Int32) × (Nat → Int32) × Nat × Int64) => (u.2.1, u.2.2.1, u.2.2.2.2.1, u.2.2.2.2.2) = kd_add b (hh, mm, kn, ab) ∧ u.1 = ln + 1) (fun u t => kd_O (dC, dI) cA (va_A [(h0, .inr (1, [.ref qk, .ref qc, .int st, .int nn, .int ln])), (qc, .inr (0, [.ref qh, .ref qm, .ref qv, .int (nI kn), .long ab])), (qh, .inl (cA, 8, .inl hh)), (qm, .inl (cA, 16, .inl mm)), (qv, .inl (cA, 16, .inl vv))] sz) [(h0, .inr (1, [.ref qk, .ref qc, .int st, .int nn, .int u.1])), (qc, .inr (0, [.ref qh, .ref qm, .ref qv, .int (nI u.2.2.2.2.1), .long u.2.2.2.2.2])), (qh, .inl (cA, 8, .inl u.2.1)), (qm, .inl (cA, 16, .inl u.2.2.1)), (qv, .inl (cA, 16, .inl u.2.2.2.1))] t) (va_A [(h0, .inr (1, [.ref qk, .ref qc, .int st, .int nn, .int ln])), (qc, .inr (0, [.ref qh, .ref qm, .ref qv, .int (nI kn), .long ab])), (qh, .inl (cA, 8, .inl hh)), (qm, .inl (cA, 16, .inl mm)), (qv, .inl (cA, 16, .inl vv))] sz)) 0 0 (va_A [(h0, .inr (1, [.ref qk, .ref qc, .int st, .int nn, .int ln])), (qc, .inr (0, [.ref qh, .ref qm, .ref qv, .int (nI kn), .long ab])), (qh, .inl (cA, 8, .inl hh)), (qm, .inl (cA, 16, .inl mm)), (qv, .inl (cA, 16, .inl vv))] sz) := by
  refine Met.ofW (cc := cX1_addToMessage) (maxL := 2) (ret := none) (by decide) rfl ?_
  intro p e s m args below meth c s₁ B hml hv
  obtain ⟨rfl, hsz, hP, hK, hD0, hT⟩ := hv
  have hx := B.exec
  have hb := B.bytes
  have hr := B.returns
  have hts := atoms_spec (ws := wsX1_addToMessage) B.pre
  have hown : s.vm.findClass RX1 = some m.cls := findClass_of_methodNamed B.named
  have hlocks := B.notSynchronized
  have ki1 : ∀ w ∈ u_ws RX1 TX1 5, w ∈ wsX1_addToMessage := by decide +kernel
  have k1 := hts (.fieldLink RX1 16 "KeyedDigest" "chain" "LKeyedDigest$Chain;") (by decide +kernel)
  have k2 := hts (.fieldLink RX1 27 "KeyedDigest" "messageBytes" "I") (by decide +kernel)
  subst hsz
  have hD := hD0.self (sz := s.heap.size)
  generalize hAe : va_A [(h0, .inr (1, [.ref qk, .ref qc, .int st, .int nn, .int ln])), (qc, .inr (0, [.ref qh, .ref qm, .ref qv, .int (nI kn), .long ab])), (qh, .inl (cA, 8, .inl hh)), (qm, .inl (cA, 16, .inl mm)), (qv, .inl (cA, 16, .inl vv))] s.heap.size = A at hD hT ⊢
  have hA : ∀ q : Nat, s.heap.size ≤ q → A q := fun q h => by rw [← hAe]; exact Or.inr h
  have hS : va_S A s.heap s.heap [] := va_S.rf
  have hP : va_P (dC, dI) vwCl [(h0, .inr (1, [.ref qk, .ref qc, .int st, .int nn, .int ln])), (qc, .inr (0, [.ref qh, .ref qm, .ref qv, .int (nI kn), .long ab])), (qh, .inl (cA, 8, .inl hh)), (qm, .inl (cA, 16, .inl mm)), (qv, .inl (cA, 16, .inl vv))] s.heap := hP
  have hl := lv_entry ([.ref h0, .int b]) (n := 2) (Nat.le_of_ble_eq_true rfl)
  rw [lg_entry_eq]
  generalize (lg_sl ([.ref h0, .int b]) ++ List.replicate (2 - (lg_sl ([.ref h0, .int b])).length) Slot.unset).toArray = ls at hl ⊢
  have hl : lv_has ls 2 [(0, .ref h0), (1, .int b)] := hl
  refine lv_aload_n hx hb dX1_addToMessage_0 rfl (lv_at hl 0 rfl) ?_
  refine va_get (D := (dC, dI)) (ci := 1) (v := .ref qc) (C := RX1) (T := TX1) (N := 5) hx hb hts ki1 hown hK hP 0 rfl rfl 1 (by decide) k1 (fun _ h9 => h9) rfl dX1_addToMessage_1 ?_
  refine lv_iload_n hx hb dX1_addToMessage_4 rfl (lv_at hl 1 rfl) ?_
  have hPc := hP.sub (ws' := [(qc, .inr (0, [.ref qh, .ref qm, .ref qv, .int (nI kn), .long ab])), (qh, .inl (cA, 8, .inl hh)), (qm, .inl (cA, 16, .inl mm)), (qv, .inl (cA, 16, .inl vv))]) [1, 2, 3, 4] rfl
  have hDc := hD.sub (ws' := [(qc, .inr (0, [.ref qh, .ref qm, .ref qv, .int (nI kn), .long ab])), (qh, .inl (cA, 8, .inl hh)), (qm, .inl (cA, 16, .inl mm)), (qv, .inl (cA, 16, .inl vv))]) [1, 2, 3, 4] (by decide) rfl
  have hFc := va_free (wc := [(qc, .inr (0, [.ref qh, .ref qm, .ref qv, .int (nI kn), .long ab])), (qh, .inl (cA, 8, .inl hh)), (qm, .inl (cA, 16, .inl mm)), (qv, .inl (cA, 16, .inl vv))]) hD hS hA [1, 2, 3, 4] rfl
  refine va_callv (va_runV (As := [.int b]) (rest := []) ⟨hx, hb, hml, hown, hts⟩ (cX0_addByte_ok l dC dI cA tb s.heap.size qc qh qm qv hh mm vv kn ab b hk) (cwV 1 hts gX1_addToMessage_X0_addByte rfl rfl rfl (by decide +kernel) ⟨Nat.le_of_ble_eq_true rfl, Nat.le_of_ble_eq_true rfl⟩) ⟨fun a U g mk q => kd_calling rfl rfl q, va_recv hK hPc (ci := 0) (q0 := 0) rfl rfl, fun U hU hW => ⟨rfl, kd_pre hPc hK hDc hT hS hFc U hU hW⟩⟩ rfl rfl hl.1 rfl (lv_room (Nat.le_of_ble_eq_true rfl)) dX1_addToMessage_5 ⟨Nat.le_of_ble_eq_true rfl, Nat.le_of_ble_eq_true rfl⟩) hS (fun q _ h => hFc q h) hFc (fun u t H1 locs ht hvm hw hB hz1 hk1 hS => ?_)
  obtain ⟨ho5, mo5, vo5, ko5, ao5⟩ := u
  have hw5 : (ho5, mo5, ko5, ao5) = kd_add b (hh, mm, kn, ab) := hw
  have hP1 : va_P (dC, dI) vwCl [(qc, .inr (0, [.ref qh, .ref qm, .ref qv, .int (nI ko5), .long ao5])), (qh, .inl (cA, 8, .inl ho5)), (qm, .inl (cA, 16, .inl mo5)), (qv, .inl (cA, 16, .inl vo5))] H1 := by rw [← ht]; exact hB.1
  have hD1 : va_D (va_A [(qc, .inr (0, [.ref qh, .ref qm, .ref qv, .int (nI kn), .long ab])), (qh, .inl (cA, 8, .inl hh)), (qm, .inl (cA, 16, .inl mm)), (qv, .inl (cA, 16, .inl vv))] s.heap.size) [(qc, .inr (0, [.ref qh, .ref qm, .ref qv, .int (nI ko5), .long ao5])), (qh, .inl (cA, 8, .inl ho5)), (qm, .inl (cA, 16, .inl mo5)), (qv, .inl (cA, 16, .inl vo5))] := hB.2.2
  obtain ⟨hP, hD⟩ := va_join (wr := [(h0, .inr (1, [.ref qk, .ref qc, .int st, .int nn, .int ln]))]) (w1 := [(qc, .inr (0, [.ref qh, .ref qm, .ref qv, .int (nI ko5), .long ao5])), (qh, .inl (cA, 8, .inl ho5)), (qm, .inl (cA, 16, .inl mo5)), (qv, .inl (cA, 16, .inl vo5))]) hP hD [1, 2, 3, 4] [0] rfl rfl (by decide) (by decide) hk1 hFc hP1 hD1
  clear hw hB hk1 hPc hDc hFc hP1 hD1 hvm hz1
  generalize H1 = H at hP hS ⊢
  have hP : va_P (dC, dI) vwCl [(h0, .inr (1, [.ref qk, .ref qc, .int st, .int nn, .int ln])), (qc, .inr (0, [.ref qh, .ref qm, .ref qv, .int (nI ko5), .long ao5])), (qh, .inl (cA, 8, .inl ho5)), (qm, .inl (cA, 16, .inl mo5)), (qv, .inl (cA, 16, .inl vo5))] H := hP
  have hD : va_D A [(h0, .inr (1, [.ref qk, .ref qc, .int st, .int nn, .int ln])), (qc, .inr (0, [.ref qh, .ref qm, .ref qv, .int (nI ko5), .long ao5])), (qh, .inl (cA, 8, .inl ho5)), (qm, .inl (cA, 16, .inl mo5)), (qv, .inl (cA, 16, .inl vo5))] := hD
  refine lv_aload_n hx hb dX1_addToMessage_8 rfl (lv_at hl 0 rfl) ?_
  refine lv_dup hx hb dX1_addToMessage_9 rfl ?_
  refine va_get (D := (dC, dI)) (ci := 1) (v := .int ln) (C := RX1) (T := TX1) (N := 5) hx hb hts ki1 hown hK hP 0 rfl rfl 4 (by decide) k2 (fun _ h9 => h9) rfl dX1_addToMessage_10 ?_
  refine lv_iconst (v := 1) hx hb dX1_addToMessage_13 (by decide) ?_
  refine lv_iadd hx hb dX1_addToMessage_14 ?_
  refine lv_topi (fun x15 ex15 => ?_)
  refine va_put (D := (dC, dI)) (ci := 1) (v := .int x15) (ty := .int) (C := RX1) (T := TX1) (N := 5) hx hb hts ki1 tyX1 tyX1_ok nmX1 hown hK hP hD hS 0 rfl rfl 4 (by decide) k2 (fun _ h9 => h9) rfl (by decide +kernel) rfl rfl (Nat.le_of_ble_eq_true rfl) dX1_addToMessage_15 (fun H locs hP hD hS => ?_)
  have hP : va_P (dC, dI) vwCl [(h0, .inr (1, [.ref qk, .ref qc, .int st, .int nn, .int x15])), (qc, .inr (0, [.ref qh, .ref qm, .ref qv, .int (nI ko5), .long ao5])), (qh, .inl (cA, 8, .inl ho5)), (qm, .inl (cA, 16, .inl mo5)), (qv, .inl (cA, 16, .inl vo5))] H := hP
  have hD : va_D A [(h0, .inr (1, [.ref qk, .ref qc, .int st, .int nn, .int x15])), (qc, .inr (0, [.ref qh, .ref qm, .ref qv, .int (nI ko5), .long ao5])), (qh, .inl (cA, 8, .inl ho5)), (qm, .inl (cA, 16, .inl mo5)), (qv, .inl (cA, 16, .inl vo5))] := hD
  have hP9 := hP.sub (ws' := [(h0, .inr (1, [.ref qk, .ref qc, .int st, .int nn, .int x15])), (qc, .inr (0, [.ref qh, .ref qm, .ref qv, .int (nI ko5), .long ao5])), (qh, .inl (cA, 8, .inl ho5)), (qm, .inl (cA, 16, .inl mo5)), (qv, .inl (cA, 16, .inl vo5))]) [0, 1, 2, 3, 4] rfl
  have hD9 := hD.sub (ws' := [(h0, .inr (1, [.ref qk, .ref qc, .int st, .int nn, .int x15])), (qc, .inr (0, [.ref qh, .ref qm, .ref qv, .int (nI ko5), .long ao5])), (qh, .inl (cA, 8, .inl ho5)), (qm, .inl (cA, 16, .inl mo5)), (qv, .inl (cA, 16, .inl vo5))]) [0, 1, 2, 3, 4] (by decide) rfl
  exact W.vret hx hb hr (fun t ht hW => ⟨⟨(x15, ho5, mo5, vo5, ko5, ao5), rfl, ⟨hw5, ex15⟩, by rw [ht]; exact hP9, va_K.moved hW.alike hK, hD9⟩, hS.F ht⟩) hS.2.2 dX1_addToMessage_18

set_option maxHeartbeats 4000000 in
set_option maxRecDepth 100000 in
theorem cX1_update_ok (l : Launch) (dC : Nat → ClassId) (dI : Nat → Nat → Nat) (cA : ClassId) (tb : Nat → Nat) (sz : Nat) (h0 : Nat) (qk : Nat) (qc : Nat) (qh : Nat) (qm : Nat) (qv : Nat) (key : Nat → Int32) (st : Int32) (nn : Int32) (ln : Int32) (hh : Nat → Int32) (mm : Nat → Int32) (vv : Nat → Int32) (kn : Nat) (ab : Int64) (b : Int32) (hk : kn ≤ 64) : Met l yX1_update wsX1_update ({ frames := 6, cells := 0, slots := 0, locals := 132 }) (va_Pc [.ref h0, .int b] (kd_I (dC, dI) cA tb sz [(h0, .inr (1, [.ref qk, .ref qc, .int st, .int nn, .int ln])), (qk, .inl (cA, 32, .inl key)), (qc, .inr (0, [.ref qh, .ref qm, .ref qv, .int (nI kn), .long ab])), (qh, .inl (cA, 8, .inl hh)), (qm, .inl (cA, 16, .inl mm)), (qv, .inl (cA, 16, .inl vv))])) (va_Qi (fun (r : Int32) (u : Int32 × (Nat → Int32) × (Nat → Int32) × (Nat → Int32) × Nat × Int64) => (r, u.1, (u.2.1, u.2.2.1, u.2.2.2.2.1, u.2.2.2.2.2)) = if ¬ st = 2 ∨ kd_isB b = 0 then (0, ln, (hh, mm, kn, ab)) else (1, ln + 1, kd_add b (hh, mm, kn, ab))) (fun u t => kd_O (dC, dI) cA (va_A [(h0, .inr (1, [.ref qk, .ref qc, .int st, .int nn, .int ln])), (qk, .inl (cA, 32, .inl key)), (qc, .inr (0, [.ref qh, .ref qm, .ref qv, .int (nI kn), .long ab])), (qh, .inl (cA, 8, .inl hh)), (qm, .inl (cA, 16, .inl mm)), (qv, .inl (cA, 16, .inl vv))] sz) [(h0, .inr (1, [.ref qk, .ref qc, .int st, .int nn, .int u.1])), (qk, .inl (cA, 32, .inl key)), (qc, .inr (0, [.ref qh, .ref qm, .ref qv, .int (nI u.2.2.2.2.1), .long u.2.2.2.2.2])), (qh, .inl (cA, 8, .inl u.2.1)), (qm, .inl (cA, 16, .inl u.2.2.1)), (qv, .inl (cA, 16, .inl u.2.2.2.1))] t) (va_A [(h0, .inr (1, [.ref qk, .ref qc, .int st, .int nn, .int ln])), (qk, .inl (cA, 32, .inl key)), (qc, .inr (0, [.ref qh, .ref qm, .ref qv, .int (nI kn), .long ab])), (qh, .inl (cA, 8, .inl hh)), (qm, .inl (cA, 16, .inl mm)), (qv, .inl (cA, 16, .inl vv))] sz)) 0 0 (va_A [(h0, .inr (1, [.ref qk, .ref qc, .int st, .int nn, .int ln])), (qk, .inl (cA, 32, .inl key)), (qc, .inr (0, [.ref qh, .ref qm, .ref qv, .int (nI kn), .long ab])), (qh, .inl (cA, 8, .inl hh)), (qm, .inl (cA, 16, .inl mm)), (qv, .inl (cA, 16, .inl vv))] sz) := by
  refine Met.ofW (cc := cX1_update) (maxL := 2) (ret := (some .boolean)) (by decide) rfl ?_
  intro p e s m args below meth c s₁ B hml hv
  obtain ⟨rfl, hsz, hP, hK, hD0, hT⟩ := hv
  have hx := B.exec
  have hb := B.bytes
  have hr := B.returns
  have hts := atoms_spec (ws := wsX1_update) B.pre
  have hown : s.vm.findClass RX1 = some m.cls := findClass_of_methodNamed B.named
  have hlocks := B.notSynchronized
  have ki1 : ∀ w ∈ u_ws RX1 TX1 5, w ∈ wsX1_update := by decide +kernel
  have k1 := hts (.fieldLink RX1 20 "KeyedDigest" "state" "I") (by decide +kernel)
  subst hsz
  have hD := hD0.self (sz := s.heap.size)
  generalize hAe : va_A [(h0, .inr (1, [.ref qk, .ref qc, .int st, .int nn, .int ln])), (qk, .inl (cA, 32, .inl key)), (qc, .inr (0, [.ref qh, .ref qm, .ref qv, .int (nI kn), .long ab])), (qh, .inl (cA, 8, .inl hh)), (qm, .inl (cA, 16, .inl mm)), (qv, .inl (cA, 16, .inl vv))] s.heap.size = A at hD hT ⊢
  have hA : ∀ q : Nat, s.heap.size ≤ q → A q := fun q h => by rw [← hAe]; exact Or.inr h
  have hS : va_S A s.heap s.heap [] := va_S.rf
  have hP : va_P (dC, dI) vwCl [(h0, .inr (1, [.ref qk, .ref qc, .int st, .int nn, .int ln])), (qk, .inl (cA, 32, .inl key)), (qc, .inr (0, [.ref qh, .ref qm, .ref qv, .int (nI kn), .long ab])), (qh, .inl (cA, 8, .inl hh)), (qm, .inl (cA, 16, .inl mm)), (qv, .inl (cA, 16, .inl vv))] s.heap := hP
  have hl := lv_entry ([.ref h0, .int b]) (n := 2) (Nat.le_of_ble_eq_true rfl)
  rw [lg_entry_eq]
  generalize (lg_sl ([.ref h0, .int b]) ++ List.replicate (2 - (lg_sl ([.ref h0, .int b])).length) Slot.unset).toArray = ls at hl ⊢
  have hl : lv_has ls 2 [(0, .ref h0), (1, .int b)] := hl
  refine lv_aload_n hx hb dX1_update_0 rfl (lv_at hl 0 rfl) ?_
  refine va_get (D := (dC, dI)) (ci := 1) (v := .int st) (C := RX1) (T := TX1) (N := 5) hx hb hts ki1 hown hK hP 0 rfl rfl 2 (by decide) k1 (fun _ h9 => h9) rfl dX1_update_1 ?_
  refine lv_iconst (v := 2) hx hb dX1_update_4 (by decide) ?_
  refine lv_icmp_ne (tgt := 15) hx hb dX1_update_5 (by decide) (fun c5 => ?_) (fun c5 => ?_)
  · refine lv_iconst (v := 0) hx hb dX1_update_15 (by decide) ?_
    have hP9 := hP.sub (ws' := [(h0, .inr (1, [.ref qk, .ref qc, .int st, .int nn, .int ln])), (qk, .inl (cA, 32, .inl key)), (qc, .inr (0, [.ref qh, .ref qm, .ref qv, .int (nI kn), .long ab])), (qh, .inl (cA, 8, .inl hh)), (qm, .inl (cA, 16, .inl mm)), (qv, .inl (cA, 16, .inl vv))]) [0, 1, 2, 3, 4, 5] rfl
    have hD9 := hD.sub (ws' := [(h0, .inr (1, [.ref qk, .ref qc, .int st, .int nn, .int ln])), (qk, .inl (cA, 32, .inl key)), (qc, .inr (0, [.ref qh, .ref qm, .ref qv, .int (nI kn), .long ab])), (qh, .inl (cA, 8, .inl hh)), (qm, .inl (cA, 16, .inl mm)), (qv, .inl (cA, 16, .inl vv))]) [0, 1, 2, 3, 4, 5] (by decide) rfl
    exact W.zret (v := 0) hx hb hr (by rfl) (fun t ht hW => ⟨⟨0, (ln, hh, mm, vv, kn, ab), rfl, ((if_pos (Or.inl c5))).symm, by rw [ht]; exact hP9, va_K.moved hW.alike hK, hD9⟩, hS.F ht⟩) hS.2.2 dX1_update_16
  · refine lv_iload_n hx hb dX1_update_8 rfl (lv_at hl 1 rfl) ?_
    have hPc := hP.sub (ws' := []) [] rfl
    have hDc := hD.sub (ws' := []) [] (by decide) rfl
    have hFc := va_free (wc := []) hD hS hA [] rfl
    refine va_calli (va_runS (As := [.int b]) (rest := []) ⟨hx, hb, hml, hown, hts⟩ (cX1_isByte_ok l dC dI cA tb s.heap.size b ) (va_cwS 1 hts gX1_update_X1_isByte rfl rfl rfl (by decide +kernel) ⟨Nat.le_of_ble_eq_true rfl, Nat.le_of_ble_eq_true rfl⟩) ⟨fun a U g mk q => kd_calling rfl rfl q, fun U hU hW => ⟨rfl, kd_pre hPc hK hDc hT hS hFc U hU hW⟩⟩ rfl rfl hl.1 rfl (lv_room (Nat.le_of_ble_eq_true rfl)) dX1_update_9 ⟨Nat.le_of_ble_eq_true rfl, Nat.le_of_ble_eq_true rfl⟩) hS (fun q _ h => hFc q h) hFc (fun r9 u t H1 locs ht hvm hw hB hz1 hk1 hS => ?_)
    have hw9 : r9 = kd_isB b := hw
    have hP1 : va_P (dC, dI) vwCl [] H1 := by rw [← ht]; exact hB.1
    have hD1 : va_D (va_A [] s.heap.size) [] := hB.2.2
    obtain ⟨hP, hD⟩ := va_join (wr := [(h0, .inr (1, [.ref qk, .ref qc, .int st, .int nn, .int ln])), (qk, .inl (cA, 32, .inl key)), (qc, .inr (0, [.ref qh, .ref qm, .ref qv, .int (nI kn), .long ab])), (qh, .inl (cA, 8, .inl hh)), (qm, .inl (cA, 16, .inl mm)), (qv, .inl (cA, 16, .inl vv))]) (w1 := []) hP hD [] [0, 1, 2, 3, 4, 5] rfl rfl (by decide) (by decide) hk1 hFc hP1 hD1
    clear hw hB hk1 hPc hDc hFc hP1 hD1 hvm hz1
    generalize H1 = H at hP hS ⊢
    have hP : va_P (dC, dI) vwCl [(h0, .inr (1, [.ref qk, .ref qc, .int st, .int nn, .int ln])), (qk, .inl (cA, 32, .inl key)), (qc, .inr (0, [.ref qh, .ref qm, .ref qv, .int (nI kn), .long ab])), (qh, .inl (cA, 8, .inl hh)), (qm, .inl (cA, 16, .inl mm)), (qv, .inl (cA, 16, .inl vv))] H := hP
    have hD : va_D A [(h0, .inr (1, [.ref qk, .ref qc, .int st, .int nn, .int ln])), (qk, .inl (cA, 32, .inl key)), (qc, .inr (0, [.ref qh, .ref qm, .ref qv, .int (nI kn), .long ab])), (qh, .inl (cA, 8, .inl hh)), (qm, .inl (cA, 16, .inl mm)), (qv, .inl (cA, 16, .inl vv))] := hD
    refine lv_if_ne (tgt := 17) hx hb dX1_update_12 (by decide) (fun c12 => ?_) (fun c12 => ?_)
    · refine lv_aload_n hx hb dX1_update_17 rfl (lv_at hl 0 rfl) ?_
      refine lv_iload_n hx hb dX1_update_18 rfl (lv_at hl 1 rfl) ?_
      have hPc := hP.sub (ws' := [(h0, .inr (1, [.ref qk, .ref qc, .int st, .int nn, .int ln])), (qc, .inr (0, [.ref qh, .ref qm, .ref qv, .int (nI kn), .long ab])), (qh, .inl (cA, 8, .inl hh)), (qm, .inl (cA, 16, .inl mm)), (qv, .inl (cA, 16, .inl vv))]) [0, 2, 3, 4, 5] rfl
      have hDc := hD.sub (ws' := [(h0, .inr (1, [.ref qk, .ref qc, .int st, .int nn, .int ln])), (qc, .inr (0, [.ref qh, .ref qm, .ref qv, .int (nI kn), .long ab])), (qh, .inl (cA, 8, .inl hh)), (qm, .inl (cA, 16, .inl mm)), (qv, .inl (cA, 16, .inl vv))]) [0, 2, 3, 4, 5] (by decide) rfl
      have hFc := va_free (wc := [(h0, .inr (1, [.ref qk, .ref qc, .int st, .int nn, .int ln])), (qc, .inr (0, [.ref qh, .ref qm, .ref qv, .int (nI kn), .long ab])), (qh, .inl (cA, 8, .inl hh)), (qm, .inl (cA, 16, .inl mm)), (qv, .inl (cA, 16, .inl vv))]) hD hS hA [0, 2, 3, 4, 5] rfl
      refine va_callv (va_runV (As := [.int b]) (rest := []) ⟨hx, hb, hml, hown, hts⟩ (cX1_addToMessage_ok l dC dI cA tb H.size h0 qk qc qh qm qv st nn ln hh mm vv kn ab b hk) (cwV 1 hts gX1_update_X1_addToMessage rfl rfl rfl (by decide +kernel) ⟨Nat.le_of_ble_eq_true rfl, Nat.le_of_ble_eq_true rfl⟩) ⟨fun a U g mk q => kd_calling rfl rfl q, va_recv hK hPc (ci := 1) (q0 := 0) rfl rfl, fun U hU hW => ⟨rfl, kd_pre hPc hK hDc hT hS hFc U hU hW⟩⟩ rfl rfl hl.1 rfl (lv_room (Nat.le_of_ble_eq_true rfl)) dX1_update_19 ⟨Nat.le_of_ble_eq_true rfl, Nat.le_of_ble_eq_true rfl⟩) hS (fun q _ h => hFc q h) hFc (fun u t H1 locs ht hvm hw hB hz1 hk1 hS => ?_)
      obtain ⟨lo19, ho19, mo19, vo19, ko19, ao19⟩ := u
      have hw19 : (ho19, mo19, ko19, ao19) = kd_add b (hh, mm, kn, ab) ∧ lo19 = ln + 1 := hw
      have hP1 : va_P (dC, dI) vwCl [(h0, .inr (1, [.ref qk, .ref qc, .int st, .int nn, .int lo19])), (qc, .inr (0, [.ref qh, .ref qm, .ref qv, .int (nI ko19), .long ao19])), (qh, .inl (cA, 8, .inl ho19)), (qm, .inl (cA, 16, .inl mo19)), (qv, .inl (cA, 16, .inl vo19))] H1 := by rw [← ht]; exact hB.1
      have hD1 : va_D (va_A [(h0, .inr (1, [.ref qk, .ref qc, .int st, .int nn, .int ln])), (qc, .inr (0, [.ref qh, .ref qm, .ref qv, .int (nI kn), .long ab])), (qh, .inl (cA, 8, .inl hh)), (qm, .inl (cA, 16, .inl mm)), (qv, .inl (cA, 16, .inl vv))] H.size) [(h0, .inr (1, [.ref qk, .ref qc, .int st, .int nn, .int lo19])), (qc, .inr (0, [.ref qh, .ref qm, .ref qv, .int (nI ko19), .long ao19])), (qh, .inl (cA, 8, .inl ho19)), (qm, .inl (cA, 16, .inl mo19)), (qv, .inl (cA, 16, .inl vo19))] := hB.2.2
      obtain ⟨hP, hD⟩ := va_join (wr := [(qk, .inl (cA, 32, .inl key))]) (w1 := [(h0, .inr (1, [.ref qk, .ref qc, .int st, .int nn, .int lo19])), (qc, .inr (0, [.ref qh, .ref qm, .ref qv, .int (nI ko19), .long ao19])), (qh, .inl (cA, 8, .inl ho19)), (qm, .inl (cA, 16, .inl mo19)), (qv, .inl (cA, 16, .inl vo19))]) hP hD [0, 2, 3, 4, 5] [1] rfl rfl (by decide) (by decide) hk1 hFc hP1 hD1
      clear hw hB hk1 hPc hDc hFc hP1 hD1 hvm hz1
      generalize H1 = H at hP hS ⊢
      have hP : va_P (dC, dI) vwCl [(qk, .inl (cA, 32, .inl key)), (h0, .inr (1, [.ref qk, .ref qc, .int st, .int nn, .int lo19])), (qc, .inr (0, [.ref qh, .ref qm, .ref qv, .int (nI ko19), .long ao19])), (qh, .inl (cA, 8, .inl ho19)), (qm, .inl (cA, 16, .inl mo19)), (qv, .inl (cA, 16, .inl vo19))] H := hP
      have hD : va_D A [(qk, .inl (cA, 32, .inl key)), (h0, .inr (1, [.ref qk, .ref qc, .int st, .int nn, .int lo19])), (qc, .inr (0, [.ref qh, .ref qm, .ref qv, .int (nI ko19), .long ao19])), (qh, .inl (cA, 8, .inl ho19)), (qm, .inl (cA, 16, .inl mo19)), (qv, .inl (cA, 16, .inl vo19))] := hD
      refine lv_iconst (v := 1) hx hb dX1_update_22 (by decide) ?_
      have hP9 := hP.sub (ws' := [(h0, .inr (1, [.ref qk, .ref qc, .int st, .int nn, .int lo19])), (qk, .inl (cA, 32, .inl key)), (qc, .inr (0, [.ref qh, .ref qm, .ref qv, .int (nI ko19), .long ao19])), (qh, .inl (cA, 8, .inl ho19)), (qm, .inl (cA, 16, .inl mo19)), (qv, .inl (cA, 16, .inl vo19))]) [1, 0, 2, 3, 4, 5] rfl
      have hD9 := hD.sub (ws' := [(h0, .inr (1, [.ref qk, .ref qc, .int st, .int nn, .int lo19])), (qk, .inl (cA, 32, .inl key)), (qc, .inr (0, [.ref qh, .ref qm, .ref qv, .int (nI ko19), .long ao19])), (qh, .inl (cA, 8, .inl ho19)), (qm, .inl (cA, 16, .inl mo19)), (qv, .inl (cA, 16, .inl vo19))]) [1, 0, 2, 3, 4, 5] (by decide) rfl
      exact W.zret (v := 1) hx hb hr (by rfl) (fun t ht hW => ⟨⟨1, (lo19, ho19, mo19, vo19, ko19, ao19), rfl, (by dsimp only; rw [(if_neg (fun h => h.elim (fun h => h c5) ((hw9 ▸ c12)))), hw19.1, hw19.2]), by rw [ht]; exact hP9, va_K.moved hW.alike hK, hD9⟩, hS.F ht⟩) hS.2.2 dX1_update_23
    · refine lv_iconst (v := 0) hx hb dX1_update_15 (by decide) ?_
      have hP9 := hP.sub (ws' := [(h0, .inr (1, [.ref qk, .ref qc, .int st, .int nn, .int ln])), (qk, .inl (cA, 32, .inl key)), (qc, .inr (0, [.ref qh, .ref qm, .ref qv, .int (nI kn), .long ab])), (qh, .inl (cA, 8, .inl hh)), (qm, .inl (cA, 16, .inl mm)), (qv, .inl (cA, 16, .inl vv))]) [0, 1, 2, 3, 4, 5] rfl
      have hD9 := hD.sub (ws' := [(h0, .inr (1, [.ref qk, .ref qc, .int st, .int nn, .int ln])), (qk, .inl (cA, 32, .inl key)), (qc, .inr (0, [.ref qh, .ref qm, .ref qv, .int (nI kn), .long ab])), (qh, .inl (cA, 8, .inl hh)), (qm, .inl (cA, 16, .inl mm)), (qv, .inl (cA, 16, .inl vv))]) [0, 1, 2, 3, 4, 5] (by decide) rfl
      exact W.zret (v := 0) hx hb hr (by rfl) (fun t ht hW => ⟨⟨0, (ln, hh, mm, vv, kn, ab), rfl, ((if_pos (Or.inr (hw9 ▸ c12)))).symm, by rw [ht]; exact hP9, va_K.moved hW.alike hK, hD9⟩, hS.F ht⟩) hS.2.2 dX1_update_16

set_option maxHeartbeats 4000000 in
set_option maxRecDepth 100000 in
theorem cX1_fill_ok (l : Launch) (dC : Nat → ClassId) (dI : Nat → Nat → Nat) (cA : ClassId) (tb : Nat → Nat) (sz : Nat) (h0 : Nat) (qk : Nat) (qc : Nat) (qh : Nat) (qm : Nat) (qv : Nat) (key : Nat → Int32) (st : Int32) (nn : Int32) (ln : Int32) (hh : Nat → Int32) (mm : Nat → Int32) (vv : Nat → Int32) (kn : Nat) (ab : Int64) (b : Int32) (n : Int32) (hk : kn ≤ 64) : Met l yX1_fill wsX1_fill ({ frames := 6, cells := 0, slots := 0, locals := 132 }) (va_Pc [.ref h0, .int b, .int n] (kd_I (dC, dI) cA tb sz [(h0, .inr (1, [.ref qk, .ref qc, .int st, .int nn, .int ln])), (qk, .inl (cA, 32, .inl key)), (qc, .inr (0, [.ref qh, .ref qm, .ref qv, .int (nI kn), .long ab])), (qh, .inl (cA, 8, .inl hh)), (qm, .inl (cA, 16, .inl mm)), (qv, .inl (cA, 16, .inl vv))])) (va_Qi (fun (r : Int32) (u : Int32 × (Nat → Int32) × (Nat → Int32) × (Nat → Int32) × Nat × Int64) => (r, u.1, (u.2.1, u.2.2.1, u.2.2.2.2.1, u.2.2.2.2.2)) = if ¬ st = 2 ∨ kd_isB b = 0 ∨ n < 0 ∨ 10000 < n then (0, ln, (hh, mm, kn, ab)) else (1, ln + n, kd_adds (fun _ => b) n.toNatClampNeg (hh, mm, kn, ab))) (fun u t => kd_O (dC, dI) cA (va_A [(h0, .inr (1, [.ref qk, .ref qc, .int st, .int nn, .int ln])), (qk, .inl (cA, 32, .inl key)), (qc, .inr (0, [.ref qh, .ref qm, .ref qv, .int (nI kn), .long ab])), (qh, .inl (cA, 8, .inl hh)), (qm, .inl (cA, 16, .inl mm)), (qv, .inl (cA, 16, .inl vv))] sz) [(h0, .inr (1, [.ref qk, .ref qc, .int st, .int nn, .int u.1])), (qk, .inl (cA, 32, .inl key)), (qc, .inr (0, [.ref qh, .ref qm, .ref qv, .int (nI u.2.2.2.2.1), .long u.2.2.2.2.2])), (qh, .inl (cA, 8, .inl u.2.1)), (qm, .inl (cA, 16, .inl u.2.2.1)), (qv, .inl (cA, 16, .inl u.2.2.2.1))] t) (va_A [(h0, .inr (1, [.ref qk, .ref qc, .int st, .int nn, .int ln])), (qk, .inl (cA, 32, .inl key)), (qc, .inr (0, [.ref qh, .ref qm, .ref qv, .int (nI kn), .long ab])), (qh, .inl (cA, 8, .inl hh)), (qm, .inl (cA, 16, .inl mm)), (qv, .inl (cA, 16, .inl vv))] sz)) 0 0 (va_A [(h0, .inr (1, [.ref qk, .ref qc, .int st, .int nn, .int ln])), (qk, .inl (cA, 32, .inl key)), (qc, .inr (0, [.ref qh, .ref qm, .ref qv, .int (nI kn), .long ab])), (qh, .inl (cA, 8, .inl hh)), (qm, .inl (cA, 16, .inl mm)), (qv, .inl (cA, 16, .inl vv))] sz) := by
  refine Met.ofW (cc := cX1_fill) (maxL := 4) (ret := (some .boolean)) (by decide) rfl ?_
  intro p e s m args below meth c s₁ B hml hv
  obtain ⟨rfl, hsz, hP, hK, hD0, hT⟩ := hv
  have hx := B.exec
  have hb := B.bytes
  have hr := B.returns
  have hts := atoms_spec (ws := wsX1_fill) B.pre
  have hown : s.vm.findClass RX1 = some m.cls := findClass_of_methodNamed B.named
  have hlocks := B.notSynchronized
  have ki1 : ∀ w ∈ u_ws RX1 TX1 5, w ∈ wsX1_fill := by decide +kernel
  have k1 := hts (.fieldLink RX1 20 "KeyedDigest" "state" "I") (by decide +kernel)
  subst hsz
  have hD := hD0.self (sz := s.heap.size)
  generalize hAe : va_A [(h0, .inr (1, [.ref qk, .ref qc, .int st, .int nn, .int ln])), (qk, .inl (cA, 32, .inl key)), (qc, .inr (0, [.ref qh, .ref qm, .ref qv, .int (nI kn), .long ab])), (qh, .inl (cA, 8, .inl hh)), (qm, .inl (cA, 16, .inl mm)), (qv, .inl (cA, 16, .inl vv))] s.heap.size = A at hD hT ⊢
  have hA : ∀ q : Nat, s.heap.size ≤ q → A q := fun q h => by rw [← hAe]; exact Or.inr h
  have hS : va_S A s.heap s.heap [] := va_S.rf
  have hP : va_P (dC, dI) vwCl [(h0, .inr (1, [.ref qk, .ref qc, .int st, .int nn, .int ln])), (qk, .inl (cA, 32, .inl key)), (qc, .inr (0, [.ref qh, .ref qm, .ref qv, .int (nI kn), .long ab])), (qh, .inl (cA, 8, .inl hh)), (qm, .inl (cA, 16, .inl mm)), (qv, .inl (cA, 16, .inl vv))] s.heap := hP
  have hl := lv_entry ([.ref h0, .int b, .int n]) (n := 4) (Nat.le_of_ble_eq_true rfl)
  rw [lg_entry_eq]
  generalize (lg_sl ([.ref h0, .int b, .int n]) ++ List.replicate (4 - (lg_sl ([.ref h0, .int b, .int n])).length) Slot.unset).toArray = ls at hl ⊢
  have hl : lv_has ls 4 [(0, .ref h0), (1, .int b), (2, .int n)] := hl
  refine lv_aload_n hx hb dX1_fill_0 rfl (lv_at hl 0 rfl) ?_
  refine va_get (D := (dC, dI)) (ci := 1) (v := .int st) (C := RX1) (T := TX1) (N := 5) hx hb hts ki1 hown hK hP 0 rfl rfl 2 (by decide) k1 (fun _ h9 => h9) rfl dX1_fill_1 ?_
  refine lv_iconst (v := 2) hx hb dX1_fill_4 (by decide) ?_
  refine lv_icmp_ne (tgt := 26) hx hb dX1_fill_5 (by decide) (fun c5 => ?_) (fun c5 => ?_)
  · refine lv_iconst (v := 0) hx hb dX1_fill_26 (by decide) ?_
    have hP9 := hP.sub (ws' := [(h0, .inr (1, [.ref qk, .ref qc, .int st, .int nn, .int ln])), (qk, .inl (cA, 32, .inl key)), (qc, .inr (0, [.ref qh, .ref qm, .ref qv, .int (nI kn), .long ab])), (qh, .inl (cA, 8, .inl hh)), (qm, .inl (cA, 16, .inl mm)), (qv, .inl (cA, 16, .inl vv))]) [0, 1, 2, 3, 4, 5] rfl
    have hD9 := hD.sub (ws' := [(h0, .inr (1, [.ref qk, .ref qc, .int st, .int nn, .int ln])), (qk, .inl (cA, 32, .inl key)), (qc, .inr (0, [.ref qh, .ref qm, .ref qv, .int (nI kn), .long ab])), (qh, .inl (cA, 8, .inl hh)), (qm, .inl (cA, 16, .inl mm)), (qv, .inl (cA, 16, .inl vv))]) [0, 1, 2, 3, 4, 5] (by decide) rfl
    exact W.zret (v := 0) hx hb hr (by rfl) (fun t ht hW => ⟨⟨0, (ln, hh, mm, vv, kn, ab), rfl, ((if_pos (Or.inl c5))).symm, by rw [ht]; exact hP9, va_K.moved hW.alike hK, hD9⟩, hS.F ht⟩) hS.2.2 dX1_fill_27
  · refine lv_iload_n hx hb dX1_fill_8 rfl (lv_at hl 1 rfl) ?_
    have hPc := hP.sub (ws' := []) [] rfl
    have hDc := hD.sub (ws' := []) [] (by decide) rfl
    have hFc := va_free (wc := []) hD hS hA [] rfl
    refine va_calli (va_runS (As := [.int b]) (rest := []) ⟨hx, hb, hml, hown, hts⟩ (cX1_isByte_ok l dC dI cA tb s.heap.size b ) (va_cwS 1 hts gX1_fill_X1_isByte rfl rfl rfl (by decide +kernel) ⟨Nat.le_of_ble_eq_true rfl, Nat.le_of_ble_eq_true rfl⟩) ⟨fun a U g mk q => kd_calling rfl rfl q, fun U hU hW => ⟨rfl, kd_pre hPc hK hDc hT hS hFc U hU hW⟩⟩ rfl rfl hl.1 rfl (lv_room (Nat.le_of_ble_eq_true rfl)) dX1_fill_9 ⟨Nat.le_of_ble_eq_true rfl, Nat.le_of_ble_eq_true rfl⟩) hS (fun q _ h => hFc q h) hFc (fun r9 u t H1 locs ht hvm hw hB hz1 hk1 hS => ?_)
    have hw9 : r9 = kd_isB b := hw
    have hP1 : va_P (dC, dI) vwCl [] H1 := by rw [← ht]; exact hB.1
    have hD1 : va_D (va_A [] s.heap.size) [] := hB.2.2
    obtain ⟨hP, hD⟩ := va_join (wr := [(h0, .inr (1, [.ref qk, .ref qc, .int st, .int nn, .int ln])), (qk, .inl (cA, 32, .inl key)), (qc, .inr (0, [.ref qh, .ref qm, .ref qv, .int (nI kn), .long ab])), (qh, .inl (cA, 8, .inl hh)), (qm, .inl (cA, 16, .inl mm)), (qv, .inl (cA, 16, .inl vv))]) (w1 := []) hP hD [] [0, 1, 2, 3, 4, 5] rfl rfl (by decide) (by decide) hk1 hFc hP1 hD1
    clear hw hB hk1 hPc hDc hFc hP1 hD1 hvm hz1
    generalize H1 = H at hP hS ⊢
    have hP : va_P (dC, dI) vwCl [(h0, .inr (1, [.ref qk, .ref qc, .int st, .int nn, .int ln])), (qk, .inl (cA, 32, .inl key)), (qc, .inr (0, [.ref qh, .ref qm, .ref qv, .int (nI kn), .long ab])), (qh, .inl (cA, 8, .inl hh)), (qm, .inl (cA, 16, .inl mm)), (qv, .inl (cA, 16, .inl vv))] H := hP
    have hD : va_D A [(h0, .inr (1, [.ref qk, .ref qc, .int st, .int nn, .int ln])), (qk, .inl (cA, 32, .inl key)), (qc, .inr (0, [.ref qh, .ref qm, .ref qv, .int (nI kn), .long ab])), (qh, .inl (cA, 8, .inl hh)), (qm, .inl (cA, 16, .inl mm)), (qv, .inl (cA, 16, .inl vv))] := hD
    refine lv_if_eq (tgt := 26) hx hb dX1_fill_12 (by decide) (fun c12 => ?_) (fun c12 => ?_)
    · refine lv_iconst (v := 0) hx hb dX1_fill_26 (by decide) ?_
      have hP9 := hP.sub (ws' := [(h0, .inr (1, [.ref qk, .ref qc, .int st, .int nn, .int ln])), (qk, .inl (cA, 32, .inl key)), (qc, .inr (0, [.ref qh, .ref qm, .ref qv, .int (nI kn), .long ab])), (qh, .inl (cA, 8, .inl hh)), (qm, .inl (cA, 16, .inl mm)), (qv, .inl (cA, 16, .inl vv))]) [0, 1, 2, 3, 4, 5] rfl
      have hD9 := hD.sub (ws' := [(h0, .inr (1, [.ref qk, .ref qc, .int st, .int nn, .int ln])), (qk, .inl (cA, 32, .inl key)), (qc, .inr (0, [.ref qh, .ref qm, .ref qv, .int (nI kn), .long ab])), (qh, .inl (cA, 8, .inl hh)), (qm, .inl (cA, 16, .inl mm)), (qv, .inl (cA, 16, .inl vv))]) [0, 1, 2, 3, 4, 5] (by decide) rfl
      exact W.zret (v := 0) hx hb hr (by rfl) (fun t ht hW => ⟨⟨0, (ln, hh, mm, vv, kn, ab), rfl, ((if_pos (Or.inr (Or.inl (hw9 ▸ c12))))).symm, by rw [ht]; exact hP9, va_K.moved hW.alike hK, hD9⟩, hS.F ht⟩) hS.2.2 dX1_fill_27
    · refine lv_iload_n hx hb dX1_fill_15 rfl (lv_at hl 2 rfl) ?_
      refine lv_if_lt (tgt := 26) hx hb dX1_fill_16 (by decide) (fun c16 => ?_) (fun c16 => ?_)
      · refine lv_iconst (v := 0) hx hb dX1_fill_26 (by decide) ?_
        have hP9 := hP.sub (ws' := [(h0, .inr (1, [.ref qk, .ref qc, .int st, .int nn, .int ln])), (qk, .inl (cA, 32, .inl key)), (qc, .inr (0, [.ref qh, .ref qm, .ref qv, .int (nI kn), .long ab])), (qh, .inl (cA, 8, .inl hh)), (qm, .inl (cA, 16, .inl mm)), (qv, .inl (cA, 16, .inl vv))]) [0, 1, 2, 3, 4, 5] rfl
        have hD9 := hD.sub (ws' := [(h0, .inr (1, [.ref qk, .ref qc, .int st, .int nn, .int ln])), (qk, .inl (cA, 32, .inl key)), (qc, .inr (0, [.ref qh, .ref qm, .ref qv, .int (nI kn), .long ab])), (qh, .inl (cA, 8, .inl hh)), (qm, .inl (cA, 16, .inl mm)), (qv, .inl (cA, 16, .inl vv))]) [0, 1, 2, 3, 4, 5] (by decide) rfl
        exact W.zret (v := 0) hx hb hr (by rfl) (fun t ht hW => ⟨⟨0, (ln, hh, mm, vv, kn, ab), rfl, ((if_pos (Or.inr (Or.inr (Or.inl c16))))).symm, by rw [ht]; exact hP9, va_K.moved hW.alike hK, hD9⟩, hS.F ht⟩) hS.2.2 dX1_fill_27
      · refine lv_iload_n hx hb dX1_fill_19 rfl (lv_at hl 2 rfl) ?_
        refine lv_sipush (v := 10000) hx hb dX1_fill_20 (by decide) ?_
        refine lv_icmp_le (tgt := 28) hx hb dX1_fill_23 (by decide) (fun c23 => ?_) (fun c23 => ?_)
        · obtain ⟨nj, hnj, rfl⟩ := nI_of2 (n := 10000) (M := 10000) (by decide) c16 c23
          refine lv_iconst (v := 0) hx hb dX1_fill_28 (by decide) ?_
          refine lv_istore_n (lv' := [(3, .int 0), (0, .ref h0), (1, .int b), (2, .int (nI nj))]) hx hb dX1_fill_29 rfl hl (by decide) rfl (fun ls hl => ?_)
          have lp : ∀ (k : Nat) (i : Nat) (x : Int32) (u0 : kd_C) (l0 : Int32) (v0 : Nat → Int32), (i ≤ nj) → (nj - i < k) → (x = nI i) → (u0 = kd_adds (fun _ => b) i (hh, mm, kn, ab)) → (l0 = ln + nI i) → ∀ (H : Heap) (locs : List Loc) (ls : Array Slot), va_P (dC, dI) vwCl [(h0, .inr (1, [.ref qk, .ref qc, .int st, .int nn, .int l0])), (qk, .inl (cA, 32, .inl key)), (qc, .inr (0, [.ref qh, .ref qm, .ref qv, .int (nI u0.2.2.1), .long u0.2.2.2])), (qh, .inl (cA, 8, .inl u0.1)), (qm, .inl (cA, 16, .inl u0.2.1)), (qv, .inl (cA, 16, .inl v0))] H → va_D A [(h0, .inr (1, [.ref qk, .ref qc, .int st, .int nn, .int l0])), (qk, .inl (cA, 32, .inl key)), (qc, .inr (0, [.ref qh, .ref qm, .ref qv, .int (nI u0.2.2.1), .long u0.2.2.2])), (qh, .inl (cA, 8, .inl u0.1)), (qm, .inl (cA, 16, .inl u0.2.1)), (qv, .inl (cA, 16, .inl v0))] → va_S A s.heap H locs → lv_has ls 4 [(3, .int x), (0, .ref h0), (1, .int b), (2, .int (nI nj))] → W p l e (headSpec wsX1_fill { frames := 6, cells := 0, slots := 0, locals := 132 }).room s m ([.ref h0, .int b, .int (nI nj)]).toArray below meth c H locs 0 0 (MQ below (va_Qi (fun (r : Int32) (u : Int32 × (Nat → Int32) × (Nat → Int32) × (Nat → Int32) × Nat × Int64) => (r, u.1, (u.2.1, u.2.2.1, u.2.2.2.2.1, u.2.2.2.2.2)) = if ¬ st = 2 ∨ kd_isB b = 0 ∨ (nI nj) < 0 ∨ 10000 < (nI nj) then (0, ln, (hh, mm, kn, ab)) else (1, ln + (nI nj), kd_adds (fun _ => b) (nI nj).toNatClampNeg (hh, mm, kn, ab))) (fun u t => kd_O (dC, dI) cA A [(h0, .inr (1, [.ref qk, .ref qc, .int st, .int nn, .int u.1])), (qk, .inl (cA, 32, .inl key)), (qc, .inr (0, [.ref qh, .ref qm, .ref qv, .int (nI u.2.2.2.2.1), .long u.2.2.2.2.2])), (qh, .inl (cA, 8, .inl u.2.1)), (qm, .inl (cA, 16, .inl u.2.2.1)), (qv, .inl (cA, 16, .inl u.2.2.2.1))] t) A) ([.ref h0, .int b, .int (nI nj)]).toArray s 0 0 A) (F0 m 30 ls []) := by
            intro k
            induction k with
            | zero =>
              intro i x u0 l0 v0 hi hm ex hu hl0
              omega
            | succ k ih =>
              intro i x u0 l0 v0 hi hm ex hu hl0 H locs ls hP hD hS hl
              refine lv_iload_n hx hb dX1_fill_30 rfl (lv_at hl 0 rfl) ?_
              refine lv_iload_n hx hb dX1_fill_31 rfl (lv_at hl 3 rfl) ?_
              refine lv_icmp_ge (tgt := 46) hx hb dX1_fill_32 (by decide) (fun c32 => ?_) (fun c32 => ?_)
              · have hge : nj ≤ i := kd_ge ex (by omega) (by omega) c32
                have hij : i = nj := by omega
                rw [hij] at hu hl0
                subst hu hl0
                refine lv_iconst (v := 1) hx hb dX1_fill_46 (by decide) ?_
                have hP9 := hP.sub (ws' := [(h0, .inr (1, [.ref qk, .ref qc, .int st, .int nn, .int (ln + nI nj)])), (qk, .inl (cA, 32, .inl key)), (qc, .inr (0, [.ref qh, .ref qm, .ref qv, .int (nI ((kd_adds (fun _ => b) nj (hh, mm, kn, ab)).2.2.1)), .long ((kd_adds (fun _ => b) nj (hh, mm, kn, ab)).2.2.2)])), (qh, .inl (cA, 8, .inl ((kd_adds (fun _ => b) nj (hh, mm, kn, ab)).1))), (qm, .inl (cA, 16, .inl ((kd_adds (fun _ => b) nj (hh, mm, kn, ab)).2.1))), (qv, .inl (cA, 16, .inl v0))]) [0, 1, 2, 3, 4, 5] rfl
                have hD9 := hD.sub (ws' := [(h0, .inr (1, [.ref qk, .ref qc, .int st, .int nn, .int (ln + nI nj)])), (qk, .inl (cA, 32, .inl key)), (qc, .inr (0, [.ref qh, .ref qm, .ref qv, .int (nI ((kd_adds (fun _ => b) nj (hh, mm, kn, ab)).2.2.1)), .long ((kd_adds (fun _ => b) nj (hh, mm, kn, ab)).2.2.2)])), (qh, .inl (cA, 8, .inl ((kd_adds (fun _ => b) nj (hh, mm, kn, ab)).1))), (qm, .inl (cA, 16, .inl ((kd_adds (fun _ => b) nj (hh, mm, kn, ab)).2.1))), (qv, .inl (cA, 16, .inl v0))]) [0, 1, 2, 3, 4, 5] (by decide) rfl
                exact W.zret (v := 1) hx hb hr (by rfl) (fun t ht hW => ⟨⟨1, (ln + nI nj, (kd_adds (fun _ => b) nj (hh, mm, kn, ab)).1, (kd_adds (fun _ => b) nj (hh, mm, kn, ab)).2.1, v0, (kd_adds (fun _ => b) nj (hh, mm, kn, ab)).2.2.1, (kd_adds (fun _ => b) nj (hh, mm, kn, ab)).2.2.2), rfl, (by dsimp only; rw [(if_neg (fun h => h.elim (fun h => h c5) (fun h => h.elim (hw9 ▸ c12) (fun h => h.elim c16 ((fun h => absurd c23 (Int32.not_le.mpr h))))))), nI_clamp (by omega)]), by rw [ht]; exact hP9, va_K.moved hW.alike hK, hD9⟩, hS.F ht⟩) hS.2.2 dX1_fill_47
              · have hlt : i < nj := kd_lt ex (by omega) (by omega) c32
                refine lv_aload_n hx hb dX1_fill_35 rfl (lv_at hl 1 rfl) ?_
                refine lv_iload_n hx hb dX1_fill_36 rfl (lv_at hl 2 rfl) ?_
                have hPc := hP.sub (ws' := [(h0, .inr (1, [.ref qk, .ref qc, .int st, .int nn, .int l0])), (qc, .inr (0, [.ref qh, .ref qm, .ref qv, .int (nI u0.2.2.1), .long u0.2.2.2])), (qh, .inl (cA, 8, .inl u0.1)), (qm, .inl (cA, 16, .inl u0.2.1)), (qv, .inl (cA, 16, .inl v0))]) [0, 2, 3, 4, 5] rfl
                have hDc := hD.sub (ws' := [(h0, .inr (1, [.ref qk, .ref qc, .int st, .int nn, .int l0])), (qc, .inr (0, [.ref qh, .ref qm, .ref qv, .int (nI u0.2.2.1), .long u0.2.2.2])), (qh, .inl (cA, 8, .inl u0.1)), (qm, .inl (cA, 16, .inl u0.2.1)), (qv, .inl (cA, 16, .inl v0))]) [0, 2, 3, 4, 5] (by decide) rfl
                have hFc := va_free (wc := [(h0, .inr (1, [.ref qk, .ref qc, .int st, .int nn, .int l0])), (qc, .inr (0, [.ref qh, .ref qm, .ref qv, .int (nI u0.2.2.1), .long u0.2.2.2])), (qh, .inl (cA, 8, .inl u0.1)), (qm, .inl (cA, 16, .inl u0.2.1)), (qv, .inl (cA, 16, .inl v0))]) hD hS hA [0, 2, 3, 4, 5] rfl
                refine va_callv (va_runV (As := [.int b]) (rest := []) ⟨hx, hb, hml, hown, hts⟩ (cX1_addToMessage_ok l dC dI cA tb H.size h0 qk qc qh qm qv st nn l0 u0.1 u0.2.1 v0 u0.2.2.1 u0.2.2.2 b (by rw [hu]; exact kd_adds_le hk i)) (cwV 1 hts gX1_fill_X1_addToMessage rfl rfl rfl (by decide +kernel) ⟨Nat.le_of_ble_eq_true rfl, Nat.le_of_ble_eq_true rfl⟩) ⟨fun a U g mk q => kd_calling rfl rfl q, va_recv hK hPc (ci := 1) (q0 := 0) rfl rfl, fun U hU hW => ⟨rfl, kd_pre hPc hK hDc hT hS hFc U hU hW⟩⟩ rfl rfl hl.1 rfl (lv_room (Nat.le_of_ble_eq_true rfl)) dX1_fill_37 ⟨Nat.le_of_ble_eq_true rfl, Nat.le_of_ble_eq_true rfl⟩) hS (fun q _ h => hFc q h) hFc (fun u t H1 locs ht hvm hw hB hz1 hk1 hS => ?_)
                obtain ⟨lo37, ho37, mo37, vo37, ko37, ao37⟩ := u
                have hw37 : (ho37, mo37, ko37, ao37) = kd_add b (u0.1, u0.2.1, u0.2.2.1, u0.2.2.2) ∧ lo37 = l0 + 1 := hw
                have hP1 : va_P (dC, dI) vwCl [(h0, .inr (1, [.ref qk, .ref qc, .int st, .int nn, .int lo37])), (qc, .inr (0, [.ref qh, .ref qm, .ref qv, .int (nI ko37), .long ao37])), (qh, .inl (cA, 8, .inl ho37)), (qm, .inl (cA, 16, .inl mo37)), (qv, .inl (cA, 16, .inl vo37))] H1 := by rw [← ht]; exact hB.1
                have hD1 : va_D (va_A [(h0, .inr (1, [.ref qk, .ref qc, .int st, .int nn, .int l0])), (qc, .inr (0, [.ref qh, .ref qm, .ref qv, .int (nI u0.2.2.1), .long u0.2.2.2])), (qh, .inl (cA, 8, .inl u0.1)), (qm, .inl (cA, 16, .inl u0.2.1)), (qv, .inl (cA, 16, .inl v0))] H.size) [(h0, .inr (1, [.ref qk, .ref qc, .int st, .int nn, .int lo37])), (qc, .inr (0, [.ref qh, .ref qm, .ref qv, .int (nI ko37), .long ao37])), (qh, .inl (cA, 8, .inl ho37)), (qm, .inl (cA, 16, .inl mo37)), (qv, .inl (cA, 16, .inl vo37))] := hB.2.2
                obtain ⟨hP, hD⟩ := va_join (wr := [(qk, .inl (cA, 32, .inl key))]) (w1 := [(h0, .inr (1, [.ref qk, .ref qc, .int st, .int nn, .int lo37])), (qc, .inr (0, [.ref qh, .ref qm, .ref qv, .int (nI ko37), .long ao37])), (qh, .inl (cA, 8, .inl ho37)), (qm, .inl (cA, 16, .inl mo37)), (qv, .inl (cA, 16, .inl vo37))]) hP hD [0, 2, 3, 4, 5] [1] rfl rfl (by decide) (by decide) hk1 hFc hP1 hD1
                clear hw hB hk1 hPc hDc hFc hP1 hD1 hvm hz1
                generalize H1 = H at hP hS ⊢
                have hP : va_P (dC, dI) vwCl [(qk, .inl (cA, 32, .inl key)), (h0, .inr (1, [.ref qk, .ref qc, .int st, .int nn, .int lo37])), (qc, .inr (0, [.ref qh, .ref qm, .ref qv, .int (nI ko37), .long ao37])), (qh, .inl (cA, 8, .inl ho37)), (qm, .inl (cA, 16, .inl mo37)), (qv, .inl (cA, 16, .inl vo37))] H := hP
                have hD : va_D A [(qk, .inl (cA, 32, .inl key)), (h0, .inr (1, [.ref qk, .ref qc, .int st, .int nn, .int lo37])), (qc, .inr (0, [.ref qh, .ref qm, .ref qv, .int (nI ko37), .long ao37])), (qh, .inl (cA, 8, .inl ho37)), (qm, .inl (cA, 16, .inl mo37)), (qv, .inl (cA, 16, .inl vo37))] := hD
                obtain ⟨x40, ex40⟩ : ∃ zz : Int32, zz = x + 1 := ⟨_, rfl⟩
                refine lv_iinc (v := x40) (lv' := [(3, .int x40), (0, .ref h0), (1, .int b), (2, .int (nI nj))]) hx hb dX1_fill_40 hl (k := 0) rfl (by rw [ex40]; rfl) (by decide) rfl (fun ls hl => ?_)
                refine lv_goto (tgt := 30) hx hb dX1_fill_43 (by decide) ?_
                exact ih  (i + 1) x40 (ho37, mo37, ko37, ao37) lo37 vo37 (by omega) (by omega) (by rw [ex40, ex]; exact nI_1 i) (by rw [hw37.1]; show kd_add b u0 = _; rw [hu]; rfl) (by rw [hw37.2, hl0]; exact kd_ln1 ln i) _ _ ls (hP.sub [1, 0, 2, 3, 4, 5] rfl) (hD.sub [1, 0, 2, 3, 4, 5] (by decide) rfl) hS (lv_sub hl [0, 1, 2, 3] rfl)
          exact lp (nj + 1) 0 0 (hh, mm, kn, ab) ln vv (by omega) (by omega) rfl rfl (kd_ln0 ln) _ _ ls (hP.sub [0, 1, 2, 3, 4, 5] rfl) (hD.sub [0, 1, 2, 3, 4, 5] (by decide) rfl) hS (lv_sub hl [0, 1, 2, 3] rfl)
        · refine lv_iconst (v := 0) hx hb dX1_fill_26 (by decide) ?_
          have hP9 := hP.sub (ws' := [(h0, .inr (1, [.ref qk, .ref qc, .int st, .int nn, .int ln])), (qk, .inl (cA, 32, .inl key)), (qc, .inr (0, [.ref qh, .ref qm, .ref qv, .int (nI kn), .long ab])), (qh, .inl (cA, 8, .inl hh)), (qm, .inl (cA, 16, .inl mm)), (qv, .inl (cA, 16, .inl vv))]) [0, 1, 2, 3, 4, 5] rfl
          have hD9 := hD.sub (ws' := [(h0, .inr (1, [.ref qk, .ref qc, .int st, .int nn, .int ln])), (qk, .inl (cA, 32, .inl key)), (qc, .inr (0, [.ref qh, .ref qm, .ref qv, .int (nI kn), .long ab])), (qh, .inl (cA, 8, .inl hh)), (qm, .inl (cA, 16, .inl mm)), (qv, .inl (cA, 16, .inl vv))]) [0, 1, 2, 3, 4, 5] (by decide) rfl
          exact W.zret (v := 0) hx hb hr (by rfl) (fun t ht hW => ⟨⟨0, (ln, hh, mm, vv, kn, ab), rfl, ((if_pos (Or.inr (Or.inr (Or.inr (Int32.not_le.mp c23)))))).symm, by rw [ht]; exact hP9, va_K.moved hW.alike hK, hD9⟩, hS.F ht⟩) hS.2.2 dX1_fill_27

set_option maxHeartbeats 4000000 in
set_option maxRecDepth 100000 in
theorem cX1_addHighestFirst_ok (l : Launch) (dC : Nat → ClassId) (dI : Nat → Nat → Nat) (cA : ClassId) (tb : Nat → Nat) (sz : Nat) (h0 : Nat) (qk : Nat) (qc : Nat) (qh : Nat) (qm : Nat) (qv : Nat) (st : Int32) (nn : Int32) (ln : Int32) (hh : Nat → Int32) (mm : Nat → Int32) (vv : Nat → Int32) (kn : Nat) (ab : Int64) (w : Int32) (cv : Int32) (cn : Nat) (hk : kn ≤ 64) (hc : cn ≤ 4) (hcv : ∀ i, i ≤ 4 → (cv ≤ nI i ↔ cn ≤ i)) : Met l yX1_addHighestFirst wsX1_addHighestFirst ({ frames := 6, cells := 0, slots := 0, locals := 132 }) (va_Pc [.ref h0, .int w, .int cv] (kd_I (dC, dI) cA tb sz [(h0, .inr (1, [.ref qk, .ref qc, .int st, .int nn, .int ln])), (qc, .inr (0, [.ref qh, .ref qm, .ref qv, .int (nI kn), .long ab])), (qh, .inl (cA, 8, .inl hh)), (qm, .inl (cA, 16, .inl mm)), (qv, .inl (cA, 16, .inl vv))])) (va_Qv (fun (u : Int32 × (Nat → Int32) × (Nat → Int32) × (Nat → Int32) × Nat × Int64) => (u.2.1, u.2.2.1, u.2.2.2.2.1, u.2.2.2.2.2) = kd_adds (kd_hi w) cn (hh, mm, kn, ab) ∧ u.1 = ln + nI cn) (fun u t => kd_O (dC, dI) cA (va_A [(h0, .inr (1, [.ref qk, .ref qc, .int st, .int nn, .int ln])), (qc, .inr (0, [.ref qh, .ref qm, .ref qv, .int (nI kn), .long ab])), (qh, .inl (cA, 8, .inl hh)), (qm, .inl (cA, 16, .inl mm)), (qv, .inl (cA, 16, .inl vv))] sz) [(h0, .inr (1, [.ref qk, .ref qc, .int st, .int nn, .int u.1])), (qc, .inr (0, [.ref qh, .ref qm, .ref qv, .int (nI u.2.2.2.2.1), .long u.2.2.2.2.2])), (qh, .inl (cA, 8, .inl u.2.1)), (qm, .inl (cA, 16, .inl u.2.2.1)), (qv, .inl (cA, 16, .inl u.2.2.2.1))] t) (va_A [(h0, .inr (1, [.ref qk, .ref qc, .int st, .int nn, .int ln])), (qc, .inr (0, [.ref qh, .ref qm, .ref qv, .int (nI kn), .long ab])), (qh, .inl (cA, 8, .inl hh)), (qm, .inl (cA, 16, .inl mm)), (qv, .inl (cA, 16, .inl vv))] sz)) 0 0 (va_A [(h0, .inr (1, [.ref qk, .ref qc, .int st, .int nn, .int ln])), (qc, .inr (0, [.ref qh, .ref qm, .ref qv, .int (nI kn), .long ab])), (qh, .inl (cA, 8, .inl hh)), (qm, .inl (cA, 16, .inl mm)), (qv, .inl (cA, 16, .inl vv))] sz) := by
  refine Met.ofW (cc := cX1_addHighestFirst) (maxL := 4) (ret := none) (by decide) rfl ?_
  intro p e s m args below meth c s₁ B hml hv
  obtain ⟨rfl, hsz, hP, hK, hD0, hT⟩ := hv
  have hx := B.exec
  have hb := B.bytes
  have hr := B.returns
  have hts := atoms_spec (ws := wsX1_addHighestFirst) B.pre
  have hown : s.vm.findClass RX1 = some m.cls := findClass_of_methodNamed B.named
  have hlocks := B.notSynchronized
  subst hsz
  have hD := hD0.self (sz := s.heap.size)
  generalize hAe : va_A [(h0, .inr (1, [.ref qk, .ref qc, .int st, .int nn, .int ln])), (qc, .inr (0, [.ref qh, .ref qm, .ref qv, .int (nI kn), .long ab])), (qh, .inl (cA, 8, .inl hh)), (qm, .inl (cA, 16, .inl mm)), (qv, .inl (cA, 16, .inl vv))] s.heap.size = A at hD hT ⊢
  have hA : ∀ q : Nat, s.heap.size ≤ q → A q := fun q h => by rw [← hAe]; exact Or.inr h
  have hS : va_S A s.heap s.heap [] := va_S.rf
  have hP : va_P (dC, dI) vwCl [(h0, .inr (1, [.ref qk, .ref qc, .int st, .int nn, .int ln])), (qc, .inr (0, [.ref qh, .ref qm, .ref qv, .int (nI kn), .long ab])), (qh, .inl (cA, 8, .inl hh)), (qm, .inl (cA, 16, .inl mm)), (qv, .inl (cA, 16, .inl vv))] s.heap := hP
  have hl := lv_entry ([.ref h0, .int w, .int cv]) (n := 4) (Nat.le_of_ble_eq_true rfl)
  rw [lg_entry_eq]
  generalize (lg_sl ([.ref h0, .int w, .int cv]) ++ List.replicate (4 - (lg_sl ([.ref h0, .int w, .int cv])).length) Slot.unset).toArray = ls at hl ⊢
  have hl : lv_has ls 4 [(0, .ref h0), (1, .int w), (2, .int cv)] := hl
  refine lv_iconst (v := 0) hx hb dX1_addHighestFirst_0 (by decide) ?_
  refine lv_istore_n (lv' := [(3, .int 0), (0, .ref h0), (1, .int w), (2, .int cv)]) hx hb dX1_addHighestFirst_1 rfl hl (by decide) rfl (fun ls hl => ?_)
  have lp : ∀ (k : Nat) (i : Nat) (x : Int32) (u0 : kd_C) (l0 : Int32) (v0 : Nat → Int32), (i ≤ cn) → (cn - i < k) → (x = nI i) → (u0 = kd_adds (kd_hi w) i (hh, mm, kn, ab)) → (l0 = ln + nI i) → ∀ (H : Heap) (locs : List Loc) (ls : Array Slot), va_P (dC, dI) vwCl [(h0, .inr (1, [.ref qk, .ref qc, .int st, .int nn, .int l0])), (qc, .inr (0, [.ref qh, .ref qm, .ref qv, .int (nI u0.2.2.1), .long u0.2.2.2])), (qh, .inl (cA, 8, .inl u0.1)), (qm, .inl (cA, 16, .inl u0.2.1)), (qv, .inl (cA, 16, .inl v0))] H → va_D A [(h0, .inr (1, [.ref qk, .ref qc, .int st, .int nn, .int l0])), (qc, .inr (0, [.ref qh, .ref qm, .ref qv, .int (nI u0.2.2.1), .long u0.2.2.2])), (qh, .inl (cA, 8, .inl u0.1)), (qm, .inl (cA, 16, .inl u0.2.1)), (qv, .inl (cA, 16, .inl v0))] → va_S A s.heap H locs → lv_has ls 4 [(3, .int x), (0, .ref h0), (1, .int w), (2, .int cv)] → W p l e (headSpec wsX1_addHighestFirst { frames := 6, cells := 0, slots := 0, locals := 132 }).room s m ([.ref h0, .int w, .int cv]).toArray below meth c H locs 0 0 (MQ below (va_Qv (fun (u : Int32 × (Nat → Int32) × (Nat → Int32) × (Nat → Int32) × Nat × Int64) => (u.2.1, u.2.2.1, u.2.2.2.2.1, u.2.2.2.2.2) = kd_adds (kd_hi w) cn (hh, mm, kn, ab) ∧ u.1 = ln + nI cn) (fun u t => kd_O (dC, dI) cA A [(h0, .inr (1, [.ref qk, .ref qc, .int st, .int nn, .int u.1])), (qc, .inr (0, [.ref qh, .ref qm, .ref qv, .int (nI u.2.2.2.2.1), .long u.2.2.2.2.2])), (qh, .inl (cA, 8, .inl u.2.1)), (qm, .inl (cA, 16, .inl u.2.2.1)), (qv, .inl (cA, 16, .inl u.2.2.2.1))] t) A) ([.ref h0, .int w, .int cv]).toArray s 0 0 A) (F0 m 2 ls []) := by
    intro k
    induction k with
    | zero =>
      intro i x u0 l0 v0 hi hm ex hu hl0
      omega
    | succ k ih =>
      intro i x u0 l0 v0 hi hm ex hu hl0 H locs ls hP hD hS hl
      refine lv_iload_n hx hb dX1_addHighestFirst_2 rfl (lv_at hl 0 rfl) ?_
      refine lv_iload_n hx hb dX1_addHighestFirst_3 rfl (lv_at hl 3 rfl) ?_
      refine lv_icmp_ge (tgt := 30) hx hb dX1_addHighestFirst_4 (by decide) (fun c4 => ?_) (fun c4 => ?_)
      · have hge : cn ≤ i := (hcv i (by omega)).mp (by rw [← ex]; exact c4)
        have hij : i = cn := by omega
        rw [hij] at hu hl0
        subst hu hl0
        have hP9 := hP.sub (ws' := [(h0, .inr (1, [.ref qk, .ref qc, .int st, .int nn, .int (ln + nI cn)])), (qc, .inr (0, [.ref qh, .ref qm, .ref qv, .int (nI ((kd_adds (kd_hi w) cn (hh, mm, kn, ab)).2.2.1)), .long ((kd_adds (kd_hi w) cn (hh, mm, kn, ab)).2.2.2)])), (qh, .inl (cA, 8, .inl ((kd_adds (kd_hi w) cn (hh, mm, kn, ab)).1))), (qm, .inl (cA, 16, .inl ((kd_adds (kd_hi w) cn (hh, mm, kn, ab)).2.1))), (qv, .inl (cA, 16, .inl v0))]) [0, 1, 2, 3, 4] rfl
        have hD9 := hD.sub (ws' := [(h0, .inr (1, [.ref qk, .ref qc, .int st, .int nn, .int (ln + nI cn)])), (qc, .inr (0, [.ref qh, .ref qm, .ref qv, .int (nI ((kd_adds (kd_hi w) cn (hh, mm, kn, ab)).2.2.1)), .long ((kd_adds (kd_hi w) cn (hh, mm, kn, ab)).2.2.2)])), (qh, .inl (cA, 8, .inl ((kd_adds (kd_hi w) cn (hh, mm, kn, ab)).1))), (qm, .inl (cA, 16, .inl ((kd_adds (kd_hi w) cn (hh, mm, kn, ab)).2.1))), (qv, .inl (cA, 16, .inl v0))]) [0, 1, 2, 3, 4] (by decide) rfl
        exact W.vret hx hb hr (fun t ht hW => ⟨⟨(ln + nI cn, (kd_adds (kd_hi w) cn (hh, mm, kn, ab)).1, (kd_adds (kd_hi w) cn (hh, mm, kn, ab)).2.1, v0, (kd_adds (kd_hi w) cn (hh, mm, kn, ab)).2.2.1, (kd_adds (kd_hi w) cn (hh, mm, kn, ab)).2.2.2), rfl, ⟨rfl, rfl⟩, by rw [ht]; exact hP9, va_K.moved hW.alike hK, hD9⟩, hS.F ht⟩) hS.2.2 dX1_addHighestFirst_30
      · have hlt : i < cn := Nat.not_le.mp fun h => c4 (by rw [ex]; exact (hcv i (by omega)).mpr h)
        refine lv_aload_n hx hb dX1_addHighestFirst_7 rfl (lv_at hl 1 rfl) ?_
        refine lv_iload_n hx hb dX1_addHighestFirst_8 rfl (lv_at hl 2 rfl) ?_
        refine lv_bipush (v := 24) hx hb dX1_addHighestFirst_9 (by decide) ?_
        refine lv_bipush (v := 8) hx hb dX1_addHighestFirst_11 (by decide) ?_
        refine lv_iload_n hx hb dX1_addHighestFirst_13 rfl (lv_at hl 0 rfl) ?_
        refine lv_imul hx hb dX1_addHighestFirst_14 ?_
        refine lv_isub hx hb dX1_addHighestFirst_15 ?_
        refine lv_iushr (v := kd_ushr w (24 - (8 * x))) hx hb dX1_addHighestFirst_16 rfl ?_
        refine lv_sipush (v := 255) hx hb dX1_addHighestFirst_17 (by decide) ?_
        refine lv_iand hx hb dX1_addHighestFirst_20 ?_
        have hPc := hP.sub (ws' := [(h0, .inr (1, [.ref qk, .ref qc, .int st, .int nn, .int l0])), (qc, .inr (0, [.ref qh, .ref qm, .ref qv, .int (nI u0.2.2.1), .long u0.2.2.2])), (qh, .inl (cA, 8, .inl u0.1)), (qm, .inl (cA, 16, .inl u0.2.1)), (qv, .inl (cA, 16, .inl v0))]) [0, 1, 2, 3, 4] rfl
        have hDc := hD.sub (ws' := [(h0, .inr (1, [.ref qk, .ref qc, .int st, .int nn, .int l0])), (qc, .inr (0, [.ref qh, .ref qm, .ref qv, .int (nI u0.2.2.1), .long u0.2.2.2])), (qh, .inl (cA, 8, .inl u0.1)), (qm, .inl (cA, 16, .inl u0.2.1)), (qv, .inl (cA, 16, .inl v0))]) [0, 1, 2, 3, 4] (by decide) rfl
        have hFc := va_free (wc := [(h0, .inr (1, [.ref qk, .ref qc, .int st, .int nn, .int l0])), (qc, .inr (0, [.ref qh, .ref qm, .ref qv, .int (nI u0.2.2.1), .long u0.2.2.2])), (qh, .inl (cA, 8, .inl u0.1)), (qm, .inl (cA, 16, .inl u0.2.1)), (qv, .inl (cA, 16, .inl v0))]) hD hS hA [0, 1, 2, 3, 4] rfl
        refine va_callv (va_runV (As := [.int ((kd_ushr w (24 - (8 * x))) &&& 255)]) (rest := []) ⟨hx, hb, hml, hown, hts⟩ (cX1_addToMessage_ok l dC dI cA tb H.size h0 qk qc qh qm qv st nn l0 u0.1 u0.2.1 v0 u0.2.2.1 u0.2.2.2 ((kd_ushr w (24 - (8 * x))) &&& 255) (by rw [hu]; exact kd_adds_le hk i)) (cwV 1 hts gX1_addHighestFirst_X1_addToMessage rfl rfl rfl (by decide +kernel) ⟨Nat.le_of_ble_eq_true rfl, Nat.le_of_ble_eq_true rfl⟩) ⟨fun a U g mk q => kd_calling rfl rfl q, va_recv hK hPc (ci := 1) (q0 := 0) rfl rfl, fun U hU hW => ⟨rfl, kd_pre hPc hK hDc hT hS hFc U hU hW⟩⟩ rfl rfl hl.1 rfl (lv_room (Nat.le_of_ble_eq_true rfl)) dX1_addHighestFirst_21 ⟨Nat.le_of_ble_eq_true rfl, Nat.le_of_ble_eq_true rfl⟩) hS (fun q _ h => hFc q h) hFc (fun u t H1 locs ht hvm hw hB hz1 hk1 hS => ?_)
        obtain ⟨lo21, ho21, mo21, vo21, ko21, ao21⟩ := u
        have hw21 : (ho21, mo21, ko21, ao21) = kd_add ((kd_ushr w (24 - (8 * x))) &&& 255) (u0.1, u0.2.1, u0.2.2.1, u0.2.2.2) ∧ lo21 = l0 + 1 := hw
        have hP1 : va_P (dC, dI) vwCl [(h0, .inr (1, [.ref qk, .ref qc, .int st, .int nn, .int lo21])), (qc, .inr (0, [.ref qh, .ref qm, .ref qv, .int (nI ko21), .long ao21])), (qh, .inl (cA, 8, .inl ho21)), (qm, .inl (cA, 16, .inl mo21)), (qv, .inl (cA, 16, .inl vo21))] H1 := by rw [← ht]; exact hB.1
        have hD1 : va_D (va_A [(h0, .inr (1, [.ref qk, .ref qc, .int st, .int nn, .int l0])), (qc, .inr (0, [.ref qh, .ref qm, .ref qv, .int (nI u0.2.2.1), .long u0.2.2.2])), (qh, .inl (cA, 8, .inl u0.1)), (qm, .inl (cA, 16, .inl u0.2.1)), (qv, .inl (cA, 16, .inl v0))] H.size) [(h0, .inr (1, [.ref qk, .ref qc, .int st, .int nn, .int lo21])), (qc, .inr (0, [.ref qh, .ref qm, .ref qv, .int (nI ko21), .long ao21])), (qh, .inl (cA, 8, .inl ho21)), (qm, .inl (cA, 16, .inl mo21)), (qv, .inl (cA, 16, .inl vo21))] := hB.2.2
        obtain ⟨hP, hD⟩ := va_join (wr := []) (w1 := [(h0, .inr (1, [.ref qk, .ref qc, .int st, .int nn, .int lo21])), (qc, .inr (0, [.ref qh, .ref qm, .ref qv, .int (nI ko21), .long ao21])), (qh, .inl (cA, 8, .inl ho21)), (qm, .inl (cA, 16, .inl mo21)), (qv, .inl (cA, 16, .inl vo21))]) hP hD [0, 1, 2, 3, 4] [] rfl rfl (by decide) (by decide) hk1 hFc hP1 hD1
        clear hw hB hk1 hPc hDc hFc hP1 hD1 hvm hz1
        generalize H1 = H at hP hS ⊢
        have hP : va_P (dC, dI) vwCl [(h0, .inr (1, [.ref qk, .ref qc, .int st, .int nn, .int lo21])), (qc, .inr (0, [.ref qh, .ref qm, .ref qv, .int (nI ko21), .long ao21])), (qh, .inl (cA, 8, .inl ho21)), (qm, .inl (cA, 16, .inl mo21)), (qv, .inl (cA, 16, .inl vo21))] H := hP
        have hD : va_D A [(h0, .inr (1, [.ref qk, .ref qc, .int st, .int nn, .int lo21])), (qc, .inr (0, [.ref qh, .ref qm, .ref qv, .int (nI ko21), .long ao21])), (qh, .inl (cA, 8, .inl ho21)), (qm, .inl (cA, 16, .inl mo21)), (qv, .inl (cA, 16, .inl vo21))] := hD
        obtain ⟨x24, ex24⟩ : ∃ zz : Int32, zz = x + 1 := ⟨_, rfl⟩
        refine lv_iinc (v := x24) (lv' := [(3, .int x24), (0, .ref h0), (1, .int w), (2, .int cv)]) hx hb dX1_addHighestFirst_24 hl (k := 0) rfl (by rw [ex24]; rfl) (by decide) rfl (fun ls hl => ?_)
        refine lv_goto (tgt := 2) hx hb dX1_addHighestFirst_27 (by decide) ?_
        exact ih  (i + 1) x24 (ho21, mo21, ko21, ao21) lo21 vo21 (by omega) (by omega) (by rw [ex24, ex]; exact nI_1 i) (by rw [hw21.1, ex]; show kd_add (kd_hi w i) u0 = _; rw [hu]; rfl) (by rw [hw21.2, hl0]; exact kd_ln1 ln i) _ _ ls (hP.sub [0, 1, 2, 3, 4] rfl) (hD.sub [0, 1, 2, 3, 4] (by decide) rfl) hS (lv_sub hl [0, 1, 2, 3] rfl)
  exact lp (cn + 1) 0 0 (hh, mm, kn, ab) ln vv (by omega) (by omega) rfl rfl (kd_ln0 ln) _ _ ls (hP.sub [0, 1, 2, 3, 4] rfl) (hD.sub [0, 1, 2, 3, 4] (by decide) rfl) hS (lv_sub hl [0, 1, 2, 3] rfl)

set_option maxHeartbeats 4000000 in
set_option maxRecDepth 100000 in
theorem cX1_updates_ok (l : Launch) (dC : Nat → ClassId) (dI : Nat → Nat → Nat) (cA : ClassId) (tb : Nat → Nat) (sz : Nat) (h0 : Nat) (qk : Nat) (qc : Nat) (qh : Nat) (qm : Nat) (qv : Nat) (key : Nat → Int32) (st : Int32) (nn : Int32) (ln : Int32) (hh : Nat → Int32) (mm : Nat → Int32) (vv : Nat → Int32) (kn : Nat) (ab : Int64) (wa : Int32) (wb : Int32) (wc : Int32) (wd : Int32) (n : Int32) (hk : kn ≤ 64) : Met l yX1_updates wsX1_updates ({ frames := 7, cells := 0, slots := 0, locals := 155 }) (va_Pc [.ref h0, .int wa, .int wb, .int wc, .int wd, .int n] (kd_I (dC, dI) cA tb sz [(h0, .inr (1, [.ref qk, .ref qc, .int st, .int nn, .int ln])), (qk, .inl (cA, 32, .inl key)), (qc, .inr (0, [.ref qh, .ref qm, .ref qv, .int (nI kn), .long ab])), (qh, .inl (cA, 8, .inl hh)), (qm, .inl (cA, 16, .inl mm)), (qv, .inl (cA, 16, .inl vv))])) (va_Qi (fun (r : Int32) (u : Int32 × (Nat → Int32) × (Nat → Int32) × (Nat → Int32) × Nat × Int64) => (r, u.1, (u.2.1, u.2.2.1, u.2.2.2.2.1, u.2.2.2.2.2)) = if ¬ st = 2 ∨ n < 1 ∨ 16 < n then (0, ln, (hh, mm, kn, ab)) else (1, ln + n, kd_adds (kd_byte wa wb wc wd) n.toNatClampNeg (hh, mm, kn, ab))) (fun u t => kd_O (dC, dI) cA (va_A [(h0, .inr (1, [.ref qk, .ref qc, .int st, .int nn, .int ln])), (qk, .inl (cA, 32, .inl key)), (qc, .inr (0, [.ref qh, .ref qm, .ref qv, .int (nI kn), .long ab])), (qh, .inl (cA, 8, .inl hh)), (qm, .inl (cA, 16, .inl mm)), (qv, .inl (cA, 16, .inl vv))] sz) [(h0, .inr (1, [.ref qk, .ref qc, .int st, .int nn, .int u.1])), (qk, .inl (cA, 32, .inl key)), (qc, .inr (0, [.ref qh, .ref qm, .ref qv, .int (nI u.2.2.2.2.1), .long u.2.2.2.2.2])), (qh, .inl (cA, 8, .inl u.2.1)), (qm, .inl (cA, 16, .inl u.2.2.1)), (qv, .inl (cA, 16, .inl u.2.2.2.1))] t) (va_A [(h0, .inr (1, [.ref qk, .ref qc, .int st, .int nn, .int ln])), (qk, .inl (cA, 32, .inl key)), (qc, .inr (0, [.ref qh, .ref qm, .ref qv, .int (nI kn), .long ab])), (qh, .inl (cA, 8, .inl hh)), (qm, .inl (cA, 16, .inl mm)), (qv, .inl (cA, 16, .inl vv))] sz)) 0 0 (va_A [(h0, .inr (1, [.ref qk, .ref qc, .int st, .int nn, .int ln])), (qk, .inl (cA, 32, .inl key)), (qc, .inr (0, [.ref qh, .ref qm, .ref qv, .int (nI kn), .long ab])), (qh, .inl (cA, 8, .inl hh)), (qm, .inl (cA, 16, .inl mm)), (qv, .inl (cA, 16, .inl vv))] sz) := by
  refine Met.ofW (cc := cX1_updates) (maxL := 6) (ret := (some .boolean)) (by decide) rfl ?_
  intro p e s m args below meth c s₁ B hml hv
  obtain ⟨rfl, hsz, hP, hK, hD0, hT⟩ := hv
  have hx := B.exec
  have hb := B.bytes
  have hr := B.returns
  have hts := atoms_spec (ws := wsX1_updates) B.pre
  have hown : s.vm.findClass RX1 = some m.cls := findClass_of_methodNamed B.named
  have hlocks := B.notSynchronized
  have ki1 : ∀ w ∈ u_ws RX1 TX1 5, w ∈ wsX1_updates := by decide +kernel
  have k1 := hts (.fieldLink RX1 20 "KeyedDigest" "state" "I") (by decide +kernel)
  subst hsz
  have hD := hD0.self (sz := s.heap.size)
  generalize hAe : va_A [(h0, .inr (1, [.ref qk, .ref qc, .int st, .int nn, .int ln])), (qk, .inl (cA, 32, .inl key)), (qc, .inr (0, [.ref qh, .ref qm, .ref qv, .int (nI kn), .long ab])), (qh, .inl (cA, 8, .inl hh)), (qm, .inl (cA, 16, .inl mm)), (qv, .inl (cA, 16, .inl vv))] s.heap.size = A at hD hT ⊢
  have hA : ∀ q : Nat, s.heap.size ≤ q → A q := fun q h => by rw [← hAe]; exact Or.inr h
  have hS : va_S A s.heap s.heap [] := va_S.rf
  have hP : va_P (dC, dI) vwCl [(h0, .inr (1, [.ref qk, .ref qc, .int st, .int nn, .int ln])), (qk, .inl (cA, 32, .inl key)), (qc, .inr (0, [.ref qh, .ref qm, .ref qv, .int (nI kn), .long ab])), (qh, .inl (cA, 8, .inl hh)), (qm, .inl (cA, 16, .inl mm)), (qv, .inl (cA, 16, .inl vv))] s.heap := hP
  have hl := lv_entry ([.ref h0, .int wa, .int wb, .int wc, .int wd, .int n]) (n := 6) (Nat.le_of_ble_eq_true rfl)
  rw [lg_entry_eq]
  generalize (lg_sl ([.ref h0, .int wa, .int wb, .int wc, .int wd, .int n]) ++ List.replicate (6 - (lg_sl ([.ref h0, .int wa, .int wb, .int wc, .int wd, .int n])).length) Slot.unset).toArray = ls at hl ⊢
  have hl : lv_has ls 6 [(0, .ref h0), (1, .int wa), (2, .int wb), (3, .int wc), (4, .int wd), (5, .int n)] := hl
  refine lv_aload_n hx hb dX1_updates_0 rfl (lv_at hl 0 rfl) ?_
  refine va_get (D := (dC, dI)) (ci := 1) (v := .int st) (C := RX1) (T := TX1) (N := 5) hx hb hts ki1 hown hK hP 0 rfl rfl 2 (by decide) k1 (fun _ h9 => h9) rfl dX1_updates_1 ?_
  refine lv_iconst (v := 2) hx hb dX1_updates_4 (by decide) ?_
  refine lv_icmp_ne (tgt := 21) hx hb dX1_updates_5 (by decide) (fun c5 => ?_) (fun c5 => ?_)
  · refine lv_iconst (v := 0) hx hb dX1_updates_21 (by decide) ?_
    have hP9 := hP.sub (ws' := [(h0, .inr (1, [.ref qk, .ref qc, .int st, .int nn, .int ln])), (qk, .inl (cA, 32, .inl key)), (qc, .inr (0, [.ref qh, .ref qm, .ref qv, .int (nI kn), .long ab])), (qh, .inl (cA, 8, .inl hh)), (qm, .inl (cA, 16, .inl mm)), (qv, .inl (cA, 16, .inl vv))]) [0, 1, 2, 3, 4, 5] rfl
    have hD9 := hD.sub (ws' := [(h0, .inr (1, [.ref qk, .ref qc, .int st, .int nn, .int ln])), (qk, .inl (cA, 32, .inl key)), (qc, .inr (0, [.ref qh, .ref qm, .ref qv, .int (nI kn), .long ab])), (qh, .inl (cA, 8, .inl hh)), (qm, .inl (cA, 16, .inl mm)), (qv, .inl (cA, 16, .inl vv))]) [0, 1, 2, 3, 4, 5] (by decide) rfl
    exact W.zret (v := 0) hx hb hr (by rfl) (fun t ht hW => ⟨⟨0, (ln, hh, mm, vv, kn, ab), rfl, ((if_pos (Or.inl c5))).symm, by rw [ht]; exact hP9, va_K.moved hW.alike hK, hD9⟩, hS.F ht⟩) hS.2.2 dX1_updates_22
  · refine lv_iload hx hb dX1_updates_8 (lv_at hl 5 rfl) ?_
    refine lv_iconst (v := 1) hx hb dX1_updates_10 (by decide) ?_
    refine lv_icmp_lt (tgt := 21) hx hb dX1_updates_11 (by decide) (fun c11 => ?_) (fun c11 => ?_)
    · refine lv_iconst (v := 0) hx hb dX1_updates_21 (by decide) ?_
      have hP9 := hP.sub (ws' := [(h0, .inr (1, [.ref qk, .ref qc, .int st, .int nn, .int ln])), (qk, .inl (cA, 32, .inl key)), (qc, .inr (0, [.ref qh, .ref qm, .ref qv, .int (nI kn), .long ab])), (qh, .inl (cA, 8, .inl hh)), (qm, .inl (cA, 16, .inl mm)), (qv, .inl (cA, 16, .inl vv))]) [0, 1, 2, 3, 4, 5] rfl
      have hD9 := hD.sub (ws' := [(h0, .inr (1, [.ref qk, .ref qc, .int st, .int nn, .int ln])), (qk, .inl (cA, 32, .inl key)), (qc, .inr (0, [.ref qh, .ref qm, .ref qv, .int (nI kn), .long ab])), (qh, .inl (cA, 8, .inl hh)), (qm, .inl (cA, 16, .inl mm)), (qv, .inl (cA, 16, .inl vv))]) [0, 1, 2, 3, 4, 5] (by decide) rfl
      exact W.zret (v := 0) hx hb hr (by rfl) (fun t ht hW => ⟨⟨0, (ln, hh, mm, vv, kn, ab), rfl, ((if_pos (Or.inr (Or.inl c11)))).symm, by rw [ht]; exact hP9, va_K.moved hW.alike hK, hD9⟩, hS.F ht⟩) hS.2.2 dX1_updates_22
    · refine lv_iload hx hb dX1_updates_14 (lv_at hl 5 rfl) ?_
      refine lv_bipush (v := 16) hx hb dX1_updates_16 (by decide) ?_
      refine lv_icmp_le (tgt := 23) hx hb dX1_updates_18 (by decide) (fun c18 => ?_) (fun c18 => ?_)
      · obtain ⟨nj, hnj, rfl⟩ := nI_of2 (n := 16) (M := 16) (by decide) (kd_pos1 c11) c18
        refine lv_aload_n hx hb dX1_updates_23 rfl (lv_at hl 0 rfl) ?_
        refine lv_iload_n hx hb dX1_updates_24 rfl (lv_at hl 1 rfl) ?_
        refine lv_iload hx hb dX1_updates_25 (lv_at hl 5 rfl) ?_
        refine lv_iconst (v := 4) hx hb dX1_updates_27 (by decide) ?_
        refine va_mmin hx hb (hml.trans hl.1.symm) hown (hts (.methodLink RX1 46 Lib.Math.min.name) (by decide +kernel)) (hts (.static Lib.Math.min.name) (by decide +kernel)) (hts (.initialized "java/lang/Math") (by decide +kernel)) (hts (.code Lib.Math.min.name Lib.Math.min.code 2 (some .int)) (by decide +kernel)) (Nat.le_of_ble_eq_true rfl) (Nat.le_of_ble_eq_true rfl) (Nat.zero_le _) (Nat.zero_le _) dX1_updates_28 ?_
        refine lv_topi (fun x28 ex28 => ?_)
        have hPc := hP.sub (ws' := [(h0, .inr (1, [.ref qk, .ref qc, .int st, .int nn, .int ln])), (qc, .inr (0, [.ref qh, .ref qm, .ref qv, .int (nI kn), .long ab])), (qh, .inl (cA, 8, .inl hh)), (qm, .inl (cA, 16, .inl mm)), (qv, .inl (cA, 16, .inl vv))]) [0, 2, 3, 4, 5] rfl
        have hDc := hD.sub (ws' := [(h0, .inr (1, [.ref qk, .ref qc, .int st, .int nn, .int ln])), (qc, .inr (0, [.ref qh, .ref qm, .ref qv, .int (nI kn), .long ab])), (qh, .inl (cA, 8, .inl hh)), (qm, .inl (cA, 16, .inl mm)), (qv, .inl (cA, 16, .inl vv))]) [0, 2, 3, 4, 5] (by decide) rfl
        have hFc := va_free (wc := [(h0, .inr (1, [.ref qk, .ref qc, .int st, .int nn, .int ln])), (qc, .inr (0, [.ref qh, .ref qm, .ref qv, .int (nI kn), .long ab])), (qh, .inl (cA, 8, .inl hh)), (qm, .inl (cA, 16, .inl mm)), (qv, .inl (cA, 16, .inl vv))]) hD hS hA [0, 2, 3, 4, 5] rfl
        refine va_callv (va_runV (As := [.int wa, .int x28]) (rest := []) ⟨hx, hb, hml, hown, hts⟩ (cX1_addHighestFirst_ok l dC dI cA tb s.heap.size h0 qk qc qh qm qv st nn ln hh mm vv kn ab wa x28 (min nj 4) hk (by omega) (by rw [ex28]; exact fun i hi => kd_min0 nj (by omega) i (by omega))) (cwV 2 hts gX1_updates_X1_addHighestFirst rfl rfl rfl (by decide +kernel) ⟨Nat.le_of_ble_eq_true rfl, Nat.le_of_ble_eq_true rfl⟩) ⟨fun a U g mk q => kd_calling rfl rfl q, va_recv hK hPc (ci := 1) (q0 := 0) rfl rfl, fun U hU hW => ⟨rfl, kd_pre hPc hK hDc hT hS hFc U hU hW⟩⟩ rfl rfl hl.1 rfl (lv_room (Nat.le_of_ble_eq_true rfl)) dX1_updates_31 ⟨Nat.le_of_ble_eq_true rfl, Nat.le_of_ble_eq_true rfl⟩) hS (fun q _ h => hFc q h) hFc (fun u t H1 locs ht hvm hw hB hz1 hk1 hS => ?_)
        obtain ⟨lo31, ho31, mo31, vo31, ko31, ao31⟩ := u
        have hw31 : (ho31, mo31, ko31, ao31) = kd_adds (kd_hi wa) (min nj 4) (hh, mm, kn, ab) ∧ lo31 = ln + nI (min nj 4) := hw
        have hP1 : va_P (dC, dI) vwCl [(h0, .inr (1, [.ref qk, .ref qc, .int st, .int nn, .int lo31])), (qc, .inr (0, [.ref qh, .ref qm, .ref qv, .int (nI ko31), .long ao31])), (qh, .inl (cA, 8, .inl ho31)), (qm, .inl (cA, 16, .inl mo31)), (qv, .inl (cA, 16, .inl vo31))] H1 := by rw [← ht]; exact hB.1
        have hD1 : va_D (va_A [(h0, .inr (1, [.ref qk, .ref qc, .int st, .int nn, .int ln])), (qc, .inr (0, [.ref qh, .ref qm, .ref qv, .int (nI kn), .long ab])), (qh, .inl (cA, 8, .inl hh)), (qm, .inl (cA, 16, .inl mm)), (qv, .inl (cA, 16, .inl vv))] s.heap.size) [(h0, .inr (1, [.ref qk, .ref qc, .int st, .int nn, .int lo31])), (qc, .inr (0, [.ref qh, .ref qm, .ref qv, .int (nI ko31), .long ao31])), (qh, .inl (cA, 8, .inl ho31)), (qm, .inl (cA, 16, .inl mo31)), (qv, .inl (cA, 16, .inl vo31))] := hB.2.2
        obtain ⟨hP, hD⟩ := va_join (wr := [(qk, .inl (cA, 32, .inl key))]) (w1 := [(h0, .inr (1, [.ref qk, .ref qc, .int st, .int nn, .int lo31])), (qc, .inr (0, [.ref qh, .ref qm, .ref qv, .int (nI ko31), .long ao31])), (qh, .inl (cA, 8, .inl ho31)), (qm, .inl (cA, 16, .inl mo31)), (qv, .inl (cA, 16, .inl vo31))]) hP hD [0, 2, 3, 4, 5] [1] rfl rfl (by decide) (by decide) hk1 hFc hP1 hD1
        clear hw hB hk1 hPc hDc hFc hP1 hD1 hvm hz1
        generalize H1 = H at hP hS ⊢
        have hP : va_P (dC, dI) vwCl [(qk, .inl (cA, 32, .inl key)), (h0, .inr (1, [.ref qk, .ref qc, .int st, .int nn, .int lo31])), (qc, .inr (0, [.ref qh, .ref qm, .ref qv, .int (nI ko31), .long ao31])), (qh, .inl (cA, 8, .inl ho31)), (qm, .inl (cA, 16, .inl mo31)), (qv, .inl (cA, 16, .inl vo31))] H := hP
        have hD : va_D A [(qk, .inl (cA, 32, .inl key)), (h0, .inr (1, [.ref qk, .ref qc, .int st, .int nn, .int lo31])), (qc, .inr (0, [.ref qh, .ref qm, .ref qv, .int (nI ko31), .long ao31])), (qh, .inl (cA, 8, .inl ho31)), (qm, .inl (cA, 16, .inl mo31)), (qv, .inl (cA, 16, .inl vo31))] := hD
        refine lv_aload_n hx hb dX1_updates_34 rfl (lv_at hl 0 rfl) ?_
        refine lv_iload_n hx hb dX1_updates_35 rfl (lv_at hl 2 rfl) ?_
        refine lv_iload hx hb dX1_updates_36 (lv_at hl 5 rfl) ?_
        refine lv_iconst (v := 4) hx hb dX1_updates_38 (by decide) ?_
        refine lv_isub hx hb dX1_updates_39 ?_
        refine lv_iconst (v := 4) hx hb dX1_updates_40 (by decide) ?_
        refine va_mmin hx hb (hml.trans hl.1.symm) hown (hts (.methodLink RX1 46 Lib.Math.min.name) (by decide +kernel)) (hts (.static Lib.Math.min.name) (by decide +kernel)) (hts (.initialized "java/lang/Math") (by decide +kernel)) (hts (.code Lib.Math.min.name Lib.Math.min.code 2 (some .int)) (by decide +kernel)) (Nat.le_of_ble_eq_true rfl) (Nat.le_of_ble_eq_true rfl) (Nat.zero_le _) (Nat.zero_le _) dX1_updates_41 ?_
        refine lv_topi (fun x41 ex41 => ?_)
        have hPc := hP.sub (ws' := [(h0, .inr (1, [.ref qk, .ref qc, .int st, .int nn, .int lo31])), (qc, .inr (0, [.ref qh, .ref qm, .ref qv, .int (nI ko31), .long ao31])), (qh, .inl (cA, 8, .inl ho31)), (qm, .inl (cA, 16, .inl mo31)), (qv, .inl (cA, 16, .inl vo31))]) [1, 2, 3, 4, 5] rfl
        have hDc := hD.sub (ws' := [(h0, .inr (1, [.ref qk, .ref qc, .int st, .int nn, .int lo31])), (qc, .inr (0, [.ref qh, .ref qm, .ref qv, .int (nI ko31), .long ao31])), (qh, .inl (cA, 8, .inl ho31)), (qm, .inl (cA, 16, .inl mo31)), (qv, .inl (cA, 16, .inl vo31))]) [1, 2, 3, 4, 5] (by decide) rfl
        have hFc := va_free (wc := [(h0, .inr (1, [.ref qk, .ref qc, .int st, .int nn, .int lo31])), (qc, .inr (0, [.ref qh, .ref qm, .ref qv, .int (nI ko31), .long ao31])), (qh, .inl (cA, 8, .inl ho31)), (qm, .inl (cA, 16, .inl mo31)), (qv, .inl (cA, 16, .inl vo31))]) hD hS hA [1, 2, 3, 4, 5] rfl
        refine va_callv (va_runV (As := [.int wb, .int x41]) (rest := []) ⟨hx, hb, hml, hown, hts⟩ (cX1_addHighestFirst_ok l dC dI cA tb H.size h0 qk qc qh qm qv st nn lo31 ho31 mo31 vo31 ko31 ao31 wb x41 (min (nj - 4) 4) (kd_le_of hw31.1 hk) (by omega) (by rw [ex41]; exact fun i hi => kd_min4 nj (by omega) i (by omega))) (cwV 2 hts gX1_updates_X1_addHighestFirst rfl rfl rfl (by decide +kernel) ⟨Nat.le_of_ble_eq_true rfl, Nat.le_of_ble_eq_true rfl⟩) ⟨fun a U g mk q => kd_calling rfl rfl q, va_recv hK hPc (ci := 1) (q0 := 0) rfl rfl, fun U hU hW => ⟨rfl, kd_pre hPc hK hDc hT hS hFc U hU hW⟩⟩ rfl rfl hl.1 rfl (lv_room (Nat.le_of_ble_eq_true rfl)) dX1_updates_44 ⟨Nat.le_of_ble_eq_true rfl, Nat.le_of_ble_eq_true rfl⟩) hS (fun q _ h => hFc q h) hFc (fun u t H1 locs ht hvm hw hB hz1 hk1 hS => ?_)
        obtain ⟨lo44, ho44, mo44, vo44, ko44, ao44⟩ := u
        have hw44 : (ho44, mo44, ko44, ao44) = kd_adds (kd_hi wb) (min (nj - 4) 4) (ho31, mo31, ko31, ao31) ∧ lo44 = lo31 + nI (min (nj - 4) 4) := hw
        have hP1 : va_P (dC, dI) vwCl [(h0, .inr (1, [.ref qk, .ref qc, .int st, .int nn, .int lo44])), (qc, .inr (0, [.ref qh, .ref qm, .ref qv, .int (nI ko44), .long ao44])), (qh, .inl (cA, 8, .inl ho44)), (qm, .inl (cA, 16, .inl mo44)), (qv, .inl (cA, 16, .inl vo44))] H1 := by rw [← ht]; exact hB.1
        have hD1 : va_D (va_A [(h0, .inr (1, [.ref qk, .ref qc, .int st, .int nn, .int lo31])), (qc, .inr (0, [.ref qh, .ref qm, .ref qv, .int (nI ko31), .long ao31])), (qh, .inl (cA, 8, .inl ho31)), (qm, .inl (cA, 16, .inl mo31)), (qv, .inl (cA, 16, .inl vo31))] H.size) [(h0, .inr (1, [.ref qk, .ref qc, .int st, .int nn, .int lo44])), (qc, .inr (0, [.ref qh, .ref qm, .ref qv, .int (nI ko44), .long ao44])), (qh, .inl (cA, 8, .inl ho44)), (qm, .inl (cA, 16, .inl mo44)), (qv, .inl (cA, 16, .inl vo44))] := hB.2.2
        obtain ⟨hP, hD⟩ := va_join (wr := [(qk, .inl (cA, 32, .inl key))]) (w1 := [(h0, .inr (1, [.ref qk, .ref qc, .int st, .int nn, .int lo44])), (qc, .inr (0, [.ref qh, .ref qm, .ref qv, .int (nI ko44), .long ao44])), (qh, .inl (cA, 8, .inl ho44)), (qm, .inl (cA, 16, .inl mo44)), (qv, .inl (cA, 16, .inl vo44))]) hP hD [1, 2, 3, 4, 5] [0] rfl rfl (by decide) (by decide) hk1 hFc hP1 hD1
        clear hw hB hk1 hPc hDc hFc hP1 hD1 hvm hz1
        generalize H1 = H at hP hS ⊢
        have hP : va_P (dC, dI) vwCl [(qk, .inl (cA, 32, .inl key)), (h0, .inr (1, [.ref qk, .ref qc, .int st, .int nn, .int lo44])), (qc, .inr (0, [.ref qh, .ref qm, .ref qv, .int (nI ko44), .long ao44])), (qh, .inl (cA, 8, .inl ho44)), (qm, .inl (cA, 16, .inl mo44)), (qv, .inl (cA, 16, .inl vo44))] H := hP
        have hD : va_D A [(qk, .inl (cA, 32, .inl key)), (h0, .inr (1, [.ref qk, .ref qc, .int st, .int nn, .int lo44])), (qc, .inr (0, [.ref qh, .ref qm, .ref qv, .int (nI ko44), .long ao44])), (qh, .inl (cA, 8, .inl ho44)), (qm, .inl (cA, 16, .inl mo44)), (qv, .inl (cA, 16, .inl vo44))] := hD
        refine lv_aload_n hx hb dX1_updates_47 rfl (lv_at hl 0 rfl) ?_
        refine lv_iload_n hx hb dX1_updates_48 rfl (lv_at hl 3 rfl) ?_
        refine lv_iload hx hb dX1_updates_49 (lv_at hl 5 rfl) ?_
        refine lv_bipush (v := 8) hx hb dX1_updates_51 (by decide) ?_
        refine lv_isub hx hb dX1_updates_53 ?_
        refine lv_iconst (v := 4) hx hb dX1_updates_54 (by decide) ?_
        refine va_mmin hx hb (hml.trans hl.1.symm) hown (hts (.methodLink RX1 46 Lib.Math.min.name) (by decide +kernel)) (hts (.static Lib.Math.min.name) (by decide +kernel)) (hts (.initialized "java/lang/Math") (by decide +kernel)) (hts (.code Lib.Math.min.name Lib.Math.min.code 2 (some .int)) (by decide +kernel)) (Nat.le_of_ble_eq_true rfl) (Nat.le_of_ble_eq_true rfl) (Nat.zero_le _) (Nat.zero_le _) dX1_updates_55 ?_
        refine lv_topi (fun x55 ex55 => ?_)
        have hPc := hP.sub (ws' := [(h0, .inr (1, [.ref qk, .ref qc, .int st, .int nn, .int lo44])), (qc, .inr (0, [.ref qh, .ref qm, .ref qv, .int (nI ko44), .long ao44])), (qh, .inl (cA, 8, .inl ho44)), (qm, .inl (cA, 16, .inl mo44)), (qv, .inl (cA, 16, .inl vo44))]) [1, 2, 3, 4, 5] rfl
        have hDc := hD.sub (ws' := [(h0, .inr (1, [.ref qk, .ref qc, .int st, .int nn, .int lo44])), (qc, .inr (0, [.ref qh, .ref qm, .ref qv, .int (nI ko44), .long ao44])), (qh, .inl (cA, 8, .inl ho44)), (qm, .inl (cA, 16, .inl mo44)), (qv, .inl (cA, 16, .inl vo44))]) [1, 2, 3, 4, 5] (by decide) rfl
        have hFc := va_free (wc := [(h0, .inr (1, [.ref qk, .ref qc, .int st, .int nn, .int lo44])), (qc, .inr (0, [.ref qh, .ref qm, .ref qv, .int (nI ko44), .long ao44])), (qh, .inl (cA, 8, .inl ho44)), (qm, .inl (cA, 16, .inl mo44)), (qv, .inl (cA, 16, .inl vo44))]) hD hS hA [1, 2, 3, 4, 5] rfl
        refine va_callv (va_runV (As := [.int wc, .int x55]) (rest := []) ⟨hx, hb, hml, hown, hts⟩ (cX1_addHighestFirst_ok l dC dI cA tb H.size h0 qk qc qh qm qv st nn lo44 ho44 mo44 vo44 ko44 ao44 wc x55 (min (nj - 8) 4) (kd_le_of hw44.1 (kd_le_of hw31.1 hk)) (by omega) (by rw [ex55]; exact fun i hi => kd_min8 nj (by omega) i (by omega))) (cwV 2 hts gX1_updates_X1_addHighestFirst rfl rfl rfl (by decide +kernel) ⟨Nat.le_of_ble_eq_true rfl, Nat.le_of_ble_eq_true rfl⟩) ⟨fun a U g mk q => kd_calling rfl rfl q, va_recv hK hPc (ci := 1) (q0 := 0) rfl rfl, fun U hU hW => ⟨rfl, kd_pre hPc hK hDc hT hS hFc U hU hW⟩⟩ rfl rfl hl.1 rfl (lv_room (Nat.le_of_ble_eq_true rfl)) dX1_updates_58 ⟨Nat.le_of_ble_eq_true rfl, Nat.le_of_ble_eq_true rfl⟩) hS (fun q _ h => hFc q h) hFc (fun u t H1 locs ht hvm hw hB hz1 hk1 hS => ?_)
        obtain ⟨lo58, ho58, mo58, vo58, ko58, ao58⟩ := u
        have hw58 : (ho58, mo58, ko58, ao58) = kd_adds (kd_hi wc) (min (nj - 8) 4) (ho44, mo44, ko44, ao44) ∧ lo58 = lo44 + nI (min (nj - 8) 4) := hw
        have hP1 : va_P (dC, dI) vwCl [(h0, .inr (1, [.ref qk, .ref qc, .int st, .int nn, .int lo58])), (qc, .inr (0, [.ref qh, .ref qm, .ref qv, .int (nI ko58), .long ao58])), (qh, .inl (cA, 8, .inl ho58)), (qm, .inl (cA, 16, .inl mo58)), (qv, .inl (cA, 16, .inl vo58))] H1 := by rw [← ht]; exact hB.1
        have hD1 : va_D (va_A [(h0, .inr (1, [.ref qk, .ref qc, .int st, .int nn, .int lo44])), (qc, .inr (0, [.ref qh, .ref qm, .ref qv, .int (nI ko44), .long ao44])), (qh, .inl (cA, 8, .inl ho44)), (qm, .inl (cA, 16, .inl mo44)), (qv, .inl (cA, 16, .inl vo44))] H.size) [(h0, .inr (1, [.ref qk, .ref qc, .int st, .int nn, .int lo58])), (qc, .inr (0, [.ref qh, .ref qm, .ref qv, .int (nI ko58), .long ao58])), (qh, .inl (cA, 8, .inl ho58)), (qm, .inl (cA, 16, .inl mo58)), (qv, .inl (cA, 16, .inl vo58))] := hB.2.2
        obtain ⟨hP, hD⟩ := va_join (wr := [(qk, .inl (cA, 32, .inl key))]) (w1 := [(h0, .inr (1, [.ref qk, .ref qc, .int st, .int nn, .int lo58])), (qc, .inr (0, [.ref qh, .ref qm, .ref qv, .int (nI ko58), .long ao58])), (qh, .inl (cA, 8, .inl ho58)), (qm, .inl (cA, 16, .inl mo58)), (qv, .inl (cA, 16, .inl vo58))]) hP hD [1, 2, 3, 4, 5] [0] rfl rfl (by decide) (by decide) hk1 hFc hP1 hD1
        clear hw hB hk1 hPc hDc hFc hP1 hD1 hvm hz1
        generalize H1 = H at hP hS ⊢
        have hP : va_P (dC, dI) vwCl [(qk, .inl (cA, 32, .inl key)), (h0, .inr (1, [.ref qk, .ref qc, .int st, .int nn, .int lo58])), (qc, .inr (0, [.ref qh, .ref qm, .ref qv, .int (nI ko58), .long ao58])), (qh, .inl (cA, 8, .inl ho58)), (qm, .inl (cA, 16, .inl mo58)), (qv, .inl (cA, 16, .inl vo58))] H := hP
        have hD : va_D A [(qk, .inl (cA, 32, .inl key)), (h0, .inr (1, [.ref qk, .ref qc, .int st, .int nn, .int lo58])), (qc, .inr (0, [.ref qh, .ref qm, .ref qv, .int (nI ko58), .long ao58])), (qh, .inl (cA, 8, .inl ho58)), (qm, .inl (cA, 16, .inl mo58)), (qv, .inl (cA, 16, .inl vo58))] := hD
        refine lv_aload_n hx hb dX1_updates_61 rfl (lv_at hl 0 rfl) ?_
        refine lv_iload hx hb dX1_updates_62 (lv_at hl 4 rfl) ?_
        refine lv_iload hx hb dX1_updates_64 (lv_at hl 5 rfl) ?_
        refine lv_bipush (v := 12) hx hb dX1_updates_66 (by decide) ?_
        refine lv_isub hx hb dX1_updates_68 ?_
        refine lv_iconst (v := 4) hx hb dX1_updates_69 (by decide) ?_
        refine va_mmin hx hb (hml.trans hl.1.symm) hown (hts (.methodLink RX1 46 Lib.Math.min.name) (by decide +kernel)) (hts (.static Lib.Math.min.name) (by decide +kernel)) (hts (.initialized "java/lang/Math") (by decide +kernel)) (hts (.code Lib.Math.min.name Lib.Math.min.code 2 (some .int)) (by decide +kernel)) (Nat.le_of_ble_eq_true rfl) (Nat.le_of_ble_eq_true rfl) (Nat.zero_le _) (Nat.zero_le _) dX1_updates_70 ?_
        refine lv_topi (fun x70 ex70 => ?_)
        have hPc := hP.sub (ws' := [(h0, .inr (1, [.ref qk, .ref qc, .int st, .int nn, .int lo58])), (qc, .inr (0, [.ref qh, .ref qm, .ref qv, .int (nI ko58), .long ao58])), (qh, .inl (cA, 8, .inl ho58)), (qm, .inl (cA, 16, .inl mo58)), (qv, .inl (cA, 16, .inl vo58))]) [1, 2, 3, 4, 5] rfl
        have hDc := hD.sub (ws' := [(h0, .inr (1, [.ref qk, .ref qc, .int st, .int nn, .int lo58])), (qc, .inr (0, [.ref qh, .ref qm, .ref qv, .int (nI ko58), .long ao58])), (qh, .inl (cA, 8, .inl ho58)), (qm, .inl (cA, 16, .inl mo58)), (qv, .inl (cA, 16, .inl vo58))]) [1, 2, 3, 4, 5] (by decide) rfl
        have hFc := va_free (wc := [(h0, .inr (1, [.ref qk, .ref qc, .int st, .int nn, .int lo58])), (qc, .inr (0, [.ref qh, .ref qm, .ref qv, .int (nI ko58), .long ao58])), (qh, .inl (cA, 8, .inl ho58)), (qm, .inl (cA, 16, .inl mo58)), (qv, .inl (cA, 16, .inl vo58))]) hD hS hA [1, 2, 3, 4, 5] rfl
        refine va_callv (va_runV (As := [.int wd, .int x70]) (rest := []) ⟨hx, hb, hml, hown, hts⟩ (cX1_addHighestFirst_ok l dC dI cA tb H.size h0 qk qc qh qm qv st nn lo58 ho58 mo58 vo58 ko58 ao58 wd x70 (min (nj - 12) 4) (kd_le_of hw58.1 (kd_le_of hw44.1 (kd_le_of hw31.1 hk))) (by omega) (by rw [ex70]; exact fun i hi => kd_min12 nj (by omega) i (by omega))) (cwV 2 hts gX1_updates_X1_addHighestFirst rfl rfl rfl (by decide +kernel) ⟨Nat.le_of_ble_eq_true rfl, Nat.le_of_ble_eq_true rfl⟩) ⟨fun a U g mk q => kd_calling rfl rfl q, va_recv hK hPc (ci := 1) (q0 := 0) rfl rfl, fun U hU hW => ⟨rfl, kd_pre hPc hK hDc hT hS hFc U hU hW⟩⟩ rfl rfl hl.1 rfl (lv_room (Nat.le_of_ble_eq_true rfl)) dX1_updates_73 ⟨Nat.le_of_ble_eq_true rfl, Nat.le_of_ble_eq_true rfl⟩) hS (fun q _ h => hFc q h) hFc (fun u t H1 locs ht hvm hw hB hz1 hk1 hS => ?_)
        obtain ⟨lo73, ho73, mo73, vo73, ko73, ao73⟩ := u
        have hw73 : (ho73, mo73, ko73, ao73) = kd_adds (kd_hi wd) (min (nj - 12) 4) (ho58, mo58, ko58, ao58) ∧ lo73 = lo58 + nI (min (nj - 12) 4) := hw
        have hP1 : va_P (dC, dI) vwCl [(h0, .inr (1, [.ref qk, .ref qc, .int st, .int nn, .int lo73])), (qc, .inr (0, [.ref qh, .ref qm, .ref qv, .int (nI ko73), .long ao73])), (qh, .inl (cA, 8, .inl ho73)), (qm, .inl (cA, 16, .inl mo73)), (qv, .inl (cA, 16, .inl vo73))] H1 := by rw [← ht]; exact hB.1
        have hD1 : va_D (va_A [(h0, .inr (1, [.ref qk, .ref qc, .int st, .int nn, .int lo58])), (qc, .inr (0, [.ref qh, .ref qm, .ref qv, .int (nI ko58), .long ao58])), (qh, .inl (cA, 8, .inl ho58)), (qm, .inl (cA, 16, .inl mo58)), (qv, .inl (cA, 16, .inl vo58))] H.size) [(h0, .inr (1, [.ref qk, .ref qc, .int st, .int nn, .int lo73])), (qc, .inr (0, [.ref qh, .ref qm, .ref qv, .int (nI ko73), .long ao73])), (qh, .inl (cA, 8, .inl ho73)), (qm, .inl (cA, 16, .inl mo73)), (qv, .inl (cA, 16, .inl vo73))] := hB.2.2
        obtain ⟨hP, hD⟩ := va_join (wr := [(qk, .inl (cA, 32, .inl key))]) (w1 := [(h0, .inr (1, [.ref qk, .ref qc, .int st, .int nn, .int lo73])), (qc, .inr (0, [.ref qh, .ref qm, .ref qv, .int (nI ko73), .long ao73])), (qh, .inl (cA, 8, .inl ho73)), (qm, .inl (cA, 16, .inl mo73)), (qv, .inl (cA, 16, .inl vo73))]) hP hD [1, 2, 3, 4, 5] [0] rfl rfl (by decide) (by decide) hk1 hFc hP1 hD1
        clear hw hB hk1 hPc hDc hFc hP1 hD1 hvm hz1
        generalize H1 = H at hP hS ⊢
        have hP : va_P (dC, dI) vwCl [(qk, .inl (cA, 32, .inl key)), (h0, .inr (1, [.ref qk, .ref qc, .int st, .int nn, .int lo73])), (qc, .inr (0, [.ref qh, .ref qm, .ref qv, .int (nI ko73), .long ao73])), (qh, .inl (cA, 8, .inl ho73)), (qm, .inl (cA, 16, .inl mo73)), (qv, .inl (cA, 16, .inl vo73))] H := hP
        have hD : va_D A [(qk, .inl (cA, 32, .inl key)), (h0, .inr (1, [.ref qk, .ref qc, .int st, .int nn, .int lo73])), (qc, .inr (0, [.ref qh, .ref qm, .ref qv, .int (nI ko73), .long ao73])), (qh, .inl (cA, 8, .inl ho73)), (qm, .inl (cA, 16, .inl mo73)), (qv, .inl (cA, 16, .inl vo73))] := hD
        refine lv_iconst (v := 1) hx hb dX1_updates_76 (by decide) ?_
        have hP9 := hP.sub (ws' := [(h0, .inr (1, [.ref qk, .ref qc, .int st, .int nn, .int lo73])), (qk, .inl (cA, 32, .inl key)), (qc, .inr (0, [.ref qh, .ref qm, .ref qv, .int (nI ko73), .long ao73])), (qh, .inl (cA, 8, .inl ho73)), (qm, .inl (cA, 16, .inl mo73)), (qv, .inl (cA, 16, .inl vo73))]) [1, 0, 2, 3, 4, 5] rfl
        have hD9 := hD.sub (ws' := [(h0, .inr (1, [.ref qk, .ref qc, .int st, .int nn, .int lo73])), (qk, .inl (cA, 32, .inl key)), (qc, .inr (0, [.ref qh, .ref qm, .ref qv, .int (nI ko73), .long ao73])), (qh, .inl (cA, 8, .inl ho73)), (qm, .inl (cA, 16, .inl mo73)), (qv, .inl (cA, 16, .inl vo73))]) [1, 0, 2, 3, 4, 5] (by decide) rfl
        exact W.zret (v := 1) hx hb hr (by rfl) (fun t ht hW => ⟨⟨1, (lo73, ho73, mo73, vo73, ko73, ao73), rfl, (by dsimp only; rw [(if_neg (fun h => h.elim (fun h => h c5) (fun h => h.elim c11 ((fun h => absurd c18 (Int32.not_le.mpr h)))))), nI_clamp (by omega), hw73.1, hw73.2, hw58.1, hw58.2, hw44.1, hw44.2, hw31.1, hw31.2, kd_four nj hnj]; rw [kd_lens ln nj hnj]), by rw [ht]; exact hP9, va_K.moved hW.alike hK, hD9⟩, hS.F ht⟩) hS.2.2 dX1_updates_77
      · refine lv_iconst (v := 0) hx hb dX1_updates_21 (by decide) ?_
        have hP9 := hP.sub (ws' := [(h0, .inr (1, [.ref qk, .ref qc, .int st, .int nn, .int ln])), (qk, .inl (cA, 32, .inl key)), (qc, .inr (0, [.ref qh, .ref qm, .ref qv, .int (nI kn), .long ab])), (qh, .inl (cA, 8, .inl hh)), (qm, .inl (cA, 16, .inl mm)), (qv, .inl (cA, 16, .inl vv))]) [0, 1, 2, 3, 4, 5] rfl
        have hD9 := hD.sub (ws' := [(h0, .inr (1, [.ref qk, .ref qc, .int st, .int nn, .int ln])), (qk, .inl (cA, 32, .inl key)), (qc, .inr (0, [.ref qh, .ref qm, .ref qv, .int (nI kn), .long ab])), (qh, .inl (cA, 8, .inl hh)), (qm, .inl (cA, 16, .inl mm)), (qv, .inl (cA, 16, .inl vv))]) [0, 1, 2, 3, 4, 5] (by decide) rfl
        exact W.zret (v := 0) hx hb hr (by rfl) (fun t ht hW => ⟨⟨0, (ln, hh, mm, vv, kn, ab), rfl, ((if_pos (Or.inr (Or.inr (Int32.not_le.mp c18))))).symm, by rw [ht]; exact hP9, va_K.moved hW.alike hK, hD9⟩, hS.F ht⟩) hS.2.2 dX1_updates_22

set_option maxHeartbeats 4000000 in
set_option maxRecDepth 100000 in
theorem cX1_finish_ok (l : Launch) (dC : Nat → ClassId) (dI : Nat → Nat → Nat) (cA : ClassId) (tb : Nat → Nat) (sz : Nat) (h0 : Nat) (qk : Nat) (qc : Nat) (qh : Nat) (qm : Nat) (qv : Nat) (st : Int32) (nn : Int32) (ln : Int32) (hh : Nat → Int32) (mm : Nat → Int32) (vv : Nat → Int32) (kn : Nat) (ab : Int64) : Met l yX1_finish wsX1_finish ({ frames := 5, cells := 0, slots := 0, locals := 110 }) (va_Pc [.ref h0] (kd_I (dC, dI) cA tb sz [(h0, .inr (1, [.ref qk, .ref qc, .int st, .int nn, .int ln])), (qc, .inr (0, [.ref qh, .ref qm, .ref qv, .int (nI kn), .long ab])), (qh, .inl (cA, 8, .inl hh)), (qm, .inl (cA, 16, .inl mm)), (qv, .inl (cA, 16, .inl vv))])) (va_Qi (fun (r : Int32) (u : Int32 × (Nat → Int32) × (Nat → Int32)) => (r, u.1, u.2.1) = if st = 2 then (1, 3, kd_mix hh mm ab (-1)) else (0, st, hh)) (fun u t => kd_O (dC, dI) cA (va_A [(h0, .inr (1, [.ref qk, .ref qc, .int st, .int nn, .int ln])), (qc, .inr (0, [.ref qh, .ref qm, .ref qv, .int (nI kn), .long ab])), (qh, .inl (cA, 8, .inl hh)), (qm, .inl (cA, 16, .inl mm)), (qv, .inl (cA, 16, .inl vv))] sz) [(h0, .inr (1, [.ref qk, .ref qc, .int u.1, .int nn, .int ln])), (qc, .inr (0, [.ref qh, .ref qm, .ref qv, .int (nI kn), .long ab])), (qh, .inl (cA, 8, .inl u.2.1)), (qm, .inl (cA, 16, .inl mm)), (qv, .inl (cA, 16, .inl u.2.2))] t) (va_A [(h0, .inr (1, [.ref qk, .ref qc, .int st, .int nn, .int ln])), (qc, .inr (0, [.ref qh, .ref qm, .ref qv, .int (nI kn), .long ab])), (qh, .inl (cA, 8, .inl hh)), (qm, .inl (cA, 16, .inl mm)), (qv, .inl (cA, 16, .inl vv))] sz)) 0 0 (va_A [(h0, .inr (1, [.ref qk, .ref qc, .int st, .int nn, .int ln])), (qc, .inr (0, [.ref qh, .ref qm, .ref qv, .int (nI kn), .long ab])), (qh, .inl (cA, 8, .inl hh)), (qm, .inl (cA, 16, .inl mm)), (qv, .inl (cA, 16, .inl vv))] sz) := by
  refine Met.ofW (cc := cX1_finish) (maxL := 1) (ret := (some .boolean)) (by decide) rfl ?_
  intro p e s m args below meth c s₁ B hml hv
  obtain ⟨rfl, hsz, hP, hK, hD0, hT⟩ := hv
  have hx := B.exec
  have hb := B.bytes
  have hr := B.returns
  have hts := atoms_spec (ws := wsX1_finish) B.pre
  have hown : s.vm.findClass RX1 = some m.cls := findClass_of_methodNamed B.named
  have hlocks := B.notSynchronized
  have ki1 : ∀ w ∈ u_ws RX1 TX1 5, w ∈ wsX1_finish := by decide +kernel
  have k1 := hts (.fieldLink RX1 20 "KeyedDigest" "state" "I") (by decide +kernel)
  have k2 := hts (.fieldLink RX1 16 "KeyedDigest" "chain" "LKeyedDigest$Chain;") (by decide +kernel)
  subst hsz
  have hD := hD0.self (sz := s.heap.size)
  generalize hAe : va_A [(h0, .inr (1, [.ref qk, .ref qc, .int st, .int nn, .int ln])), (qc, .inr (0, [.ref qh, .ref qm, .ref qv, .int (nI kn), .long ab])), (qh, .inl (cA, 8, .inl hh)), (qm, .inl (cA, 16, .inl mm)), (qv, .inl (cA, 16, .inl vv))] s.heap.size = A at hD hT ⊢
  have hA : ∀ q : Nat, s.heap.size ≤ q → A q := fun q h => by rw [← hAe]; exact Or.inr h
  have hS : va_S A s.heap s.heap [] := va_S.rf
  have hP : va_P (dC, dI) vwCl [(h0, .inr (1, [.ref qk, .ref qc, .int st, .int nn, .int ln])), (qc, .inr (0, [.ref qh, .ref qm, .ref qv, .int (nI kn), .long ab])), (qh, .inl (cA, 8, .inl hh)), (qm, .inl (cA, 16, .inl mm)), (qv, .inl (cA, 16, .inl vv))] s.heap := hP
  have hl := lv_entry ([.ref h0]) (n := 1) (Nat.le_of_ble_eq_true rfl)
  rw [lg_entry_eq]
  generalize (lg_sl ([.ref h0]) ++ List.replicate (1 - (lg_sl ([.ref h0])).length) Slot.unset).toArray = ls at hl ⊢
  have hl : lv_has ls 1 [(0, .ref h0)] := hl
  refine lv_aload_n hx hb dX1_finish_0 rfl (lv_at hl 0 rfl) ?_
  refine va_get (D := (dC, dI)) (ci := 1) (v := .int st) (C := RX1) (T := TX1) (N := 5) hx hb hts ki1 hown hK hP 0 rfl rfl 2 (by decide) k1 (fun _ h9 => h9) rfl dX1_finish_1 ?_
  refine lv_iconst (v := 2) hx hb dX1_finish_4 (by decide) ?_
  refine lv_icmp_eq (tgt := 10) hx hb dX1_finish_5 (by decide) (fun c5 => ?_) (fun c5 => ?_)
  · refine lv_aload_n hx hb dX1_finish_10 rfl (lv_at hl 0 rfl) ?_
    refine va_get (D := (dC, dI)) (ci := 1) (v := .ref qc) (C := RX1) (T := TX1) (N := 5) hx hb hts ki1 hown hK hP 0 rfl rfl 1 (by decide) k2 (fun _ h9 => h9) rfl dX1_finish_11 ?_
    have hPc := hP.sub (ws' := [(qc, .inr (0, [.ref qh, .ref qm, .ref qv, .int (nI kn), .long ab])), (qh, .inl (cA, 8, .inl hh)), (qm, .inl (cA, 16, .inl mm)), (qv, .inl (cA, 16, .inl vv))]) [1, 2, 3, 4] rfl
    have hDc := hD.sub (ws' := [(qc, .inr (0, [.ref qh, .ref qm, .ref qv, .int (nI kn), .long ab])), (qh, .inl (cA, 8, .inl hh)), (qm, .inl (cA, 16, .inl mm)), (qv, .inl (cA, 16, .inl vv))]) [1, 2, 3, 4] (by decide) rfl
    have hFc := va_free (wc := [(qc, .inr (0, [.ref qh, .ref qm, .ref qv, .int (nI kn), .long ab])), (qh, .inl (cA, 8, .inl hh)), (qm, .inl (cA, 16, .inl mm)), (qv, .inl (cA, 16, .inl vv))]) hD hS hA [1, 2, 3, 4] rfl
    refine va_callv (va_runV (As := []) (rest := []) ⟨hx, hb, hml, hown, hts⟩ (cX0_mixLast_ok l dC dI cA tb s.heap.size qc qh qm qv hh mm vv (nI kn) ab ) (cwV 0 hts gX1_finish_X0_mixLast rfl rfl rfl (by decide +kernel) ⟨Nat.le_of_ble_eq_true rfl, Nat.le_of_ble_eq_true rfl⟩) ⟨fun a U g mk q => kd_calling rfl rfl q, va_recv hK hPc (ci := 0) (q0 := 0) rfl rfl, fun U hU hW => ⟨rfl, kd_pre hPc hK hDc hT hS hFc U hU hW⟩⟩ rfl rfl hl.1 rfl (lv_room (Nat.le_of_ble_eq_true rfl)) dX1_finish_14 ⟨Nat.le_of_ble_eq_true rfl, Nat.le_of_ble_eq_true rfl⟩) hS (fun q _ h => hFc q h) hFc (fun u t H1 locs ht hvm hw hB hz1 hk1 hS => ?_)
    obtain ⟨vo14, rfl⟩ : ∃ z, z = u := ⟨_, rfl⟩
    have hw14 : True := hw
    have hP1 : va_P (dC, dI) vwCl [(qc, .inr (0, [.ref qh, .ref qm, .ref qv, .int (nI kn), .long ab])), (qh, .inl (cA, 8, .inl (kd_mix hh mm ab (-1)))), (qm, .inl (cA, 16, .inl mm)), (qv, .inl (cA, 16, .inl vo14))] H1 := by rw [← ht]; exact hB.1
    have hD1 : va_D (va_A [(qc, .inr (0, [.ref qh, .ref qm, .ref qv, .int (nI kn), .long ab])), (qh, .inl (cA, 8, .inl hh)), (qm, .inl (cA, 16, .inl mm)), (qv, .inl (cA, 16, .inl vv))] s.heap.size) [(qc, .inr (0, [.ref qh, .ref qm, .ref qv, .int (nI kn), .long ab])), (qh, .inl (cA, 8, .inl (kd_mix hh mm ab (-1)))), (qm, .inl (cA, 16, .inl mm)), (qv, .inl (cA, 16, .inl vo14))] := hB.2.2
    obtain ⟨hP, hD⟩ := va_join (wr := [(h0, .inr (1, [.ref qk, .ref qc, .int st, .int nn, .int ln]))]) (w1 := [(qc, .inr (0, [.ref qh, .ref qm, .ref qv, .int (nI kn), .long ab])), (qh, .inl (cA, 8, .inl (kd_mix hh mm ab (-1)))), (qm, .inl (cA, 16, .inl mm)), (qv, .inl (cA, 16, .inl vo14))]) hP hD [1, 2, 3, 4] [0] rfl rfl (by decide) (by decide) hk1 hFc hP1 hD1
    clear hw hB hk1 hPc hDc hFc hP1 hD1 hvm hz1
    generalize H1 = H at hP hS ⊢
    have hP : va_P (dC, dI) vwCl [(h0, .inr (1, [.ref qk, .ref qc, .int st, .int nn, .int ln])), (qc, .inr (0, [.ref qh, .ref qm, .ref qv, .int (nI kn), .long ab])), (qh, .inl (cA, 8, .inl (kd_mix hh mm ab (-1)))), (qm, .inl (cA, 16, .inl mm)), (qv, .inl (cA, 16, .inl vo14))] H := hP
    have hD : va_D A [(h0, .inr (1, [.ref qk, .ref qc, .int st, .int nn, .int ln])), (qc, .inr (0, [.ref qh, .ref qm, .ref qv, .int (nI kn), .long ab])), (qh, .inl (cA, 8, .inl (kd_mix hh mm ab (-1)))), (qm, .inl (cA, 16, .inl mm)), (qv, .inl (cA, 16, .inl vo14))] := hD
    refine lv_aload_n hx hb dX1_finish_17 rfl (lv_at hl 0 rfl) ?_
    refine lv_iconst (v := 3) hx hb dX1_finish_18 (by decide) ?_
    refine va_put (D := (dC, dI)) (ci := 1) (v := .int 3) (ty := .int) (C := RX1) (T := TX1) (N := 5) hx hb hts ki1 tyX1 tyX1_ok nmX1 hown hK hP hD hS 0 rfl rfl 2 (by decide) k1 (fun _ h9 => h9) rfl (by decide +kernel) rfl rfl (Nat.le_of_ble_eq_true rfl) dX1_finish_19 (fun H locs hP hD hS => ?_)
    have hP : va_P (dC, dI) vwCl [(h0, .inr (1, [.ref qk, .ref qc, .int 3, .int nn, .int ln])), (qc, .inr (0, [.ref qh, .ref qm, .ref qv, .int (nI kn), .long ab])), (qh, .inl (cA, 8, .inl (kd_mix hh mm ab (-1)))), (qm, .inl (cA, 16, .inl mm)), (qv, .inl (cA, 16, .inl vo14))] H := hP
    have hD : va_D A [(h0, .inr (1, [.ref qk, .ref qc, .int 3, .int nn, .int ln])), (qc, .inr (0, [.ref qh, .ref qm, .ref qv, .int (nI kn), .long ab])), (qh, .inl (cA, 8, .inl (kd_mix hh mm ab (-1)))), (qm, .inl (cA, 16, .inl mm)), (qv, .inl (cA, 16, .inl vo14))] := hD
    refine lv_iconst (v := 1) hx hb dX1_finish_22 (by decide) ?_
    have hP9 := hP.sub (ws' := [(h0, .inr (1, [.ref qk, .ref qc, .int 3, .int nn, .int ln])), (qc, .inr (0, [.ref qh, .ref qm, .ref qv, .int (nI kn), .long ab])), (qh, .inl (cA, 8, .inl (kd_mix hh mm ab (-1)))), (qm, .inl (cA, 16, .inl mm)), (qv, .inl (cA, 16, .inl vo14))]) [0, 1, 2, 3, 4] rfl
    have hD9 := hD.sub (ws' := [(h0, .inr (1, [.ref qk, .ref qc, .int 3, .int nn, .int ln])), (qc, .inr (0, [.ref qh, .ref qm, .ref qv, .int (nI kn), .long ab])), (qh, .inl (cA, 8, .inl (kd_mix hh mm ab (-1)))), (qm, .inl (cA, 16, .inl mm)), (qv, .inl (cA, 16, .inl vo14))]) [0, 1, 2, 3, 4] (by decide) rfl
    exact W.zret (v := 1) hx hb hr (by rfl) (fun t ht hW => ⟨⟨1, (3, kd_mix hh mm ab (-1), vo14), rfl, (if_pos c5).symm, by rw [ht]; exact hP9, va_K.moved hW.alike hK, hD9⟩, hS.F ht⟩) hS.2.2 dX1_finish_23
  · refine lv_iconst (v := 0) hx hb dX1_finish_8 (by decide) ?_
    have hP9 := hP.sub (ws' := [(h0, .inr (1, [.ref qk, .ref qc, .int st, .int nn, .int ln])), (qc, .inr (0, [.ref qh, .ref qm, .ref qv, .int (nI kn), .long ab])), (qh, .inl (cA, 8, .inl hh)), (qm, .inl (cA, 16, .inl mm)), (qv, .inl (cA, 16, .inl vv))]) [0, 1, 2, 3, 4] rfl
    have hD9 := hD.sub (ws' := [(h0, .inr (1, [.ref qk, .ref qc, .int st, .int nn, .int ln])), (qc, .inr (0, [.ref qh, .ref qm, .ref qv, .int (nI kn), .long ab])), (qh, .inl (cA, 8, .inl hh)), (qm, .inl (cA, 16, .inl mm)), (qv, .inl (cA, 16, .inl vv))]) [0, 1, 2, 3, 4] (by decide) rfl
    exact W.zret (v := 0) hx hb hr (by rfl) (fun t ht hW => ⟨⟨0, (st, hh, vv), rfl, (if_neg c5).symm, by rw [ht]; exact hP9, va_K.moved hW.alike hK, hD9⟩, hS.F ht⟩) hS.2.2 dX1_finish_9

set_option maxHeartbeats 4000000 in
set_option maxRecDepth 100000 in
theorem cX1_start_ok (l : Launch) (dC : Nat → ClassId) (dI : Nat → Nat → Nat) (cA : ClassId) (tb : Nat → Nat) (sz : Nat) (h0 : Nat) (qk : Nat) (qc : Nat) (qh : Nat) (qm : Nat) (qv : Nat) (key : Nat → Int32) (st : Int32) (nn : Int32) (ln : Int32) (hh : Nat → Int32) (mm : Nat → Int32) (vv : Nat → Int32) (kn : Nat) (ab : Int64) (a : Int32) (kk : Int32) : Met l yX1_start wsX1_start ({ frames := 6, cells := 0, slots := 0, locals := 134 }) (va_Pc [.ref h0, .int a, .int kk] (kd_I (dC, dI) cA tb sz [(h0, .inr (1, [.ref qk, .ref qc, .int st, .int nn, .int ln])), (qk, .inl (cA, 32, .inl key)), (qc, .inr (0, [.ref qh, .ref qm, .ref qv, .int (nI kn), .long ab])), (qh, .inl (cA, 8, .inl hh)), (qm, .inl (cA, 16, .inl mm)), (qv, .inl (cA, 16, .inl vv))])) (va_Qi (fun (r : Int32) (u : Int32 × Int32 × Int32 × (Nat → Int32) × (Nat → Int32) × (Nat → Int32) × Nat × Int64) => (r, u.1, u.2.1, u.2.2.1, (u.2.2.2.1, u.2.2.2.2.1, u.2.2.2.2.2.2.1, u.2.2.2.2.2.2.2)) = if st = 0 ∨ a < 1 ∨ 32 < a ∨ kk < 0 ∨ 32 < kk then (0, st, nn, ln, (hh, mm, kn, ab)) else (1, 2, a, 0, kd_open key a kk)) (fun u t => kd_O (dC, dI) cA (va_A [(h0, .inr (1, [.ref qk, .ref qc, .int st, .int nn, .int ln])), (qk, .inl (cA, 32, .inl key)), (qc, .inr (0, [.ref qh, .ref qm, .ref qv, .int (nI kn), .long ab])), (qh, .inl (cA, 8, .inl hh)), (qm, .inl (cA, 16, .inl mm)), (qv, .inl (cA, 16, .inl vv))] sz) [(h0, .inr (1, [.ref qk, .ref qc, .int u.1, .int u.2.1, .int u.2.2.1])), (qk, .inl (cA, 32, .inl key)), (qc, .inr (0, [.ref qh, .ref qm, .ref qv, .int (nI u.2.2.2.2.2.2.1), .long u.2.2.2.2.2.2.2])), (qh, .inl (cA, 8, .inl u.2.2.2.1)), (qm, .inl (cA, 16, .inl u.2.2.2.2.1)), (qv, .inl (cA, 16, .inl u.2.2.2.2.2.1))] t) (va_A [(h0, .inr (1, [.ref qk, .ref qc, .int st, .int nn, .int ln])), (qk, .inl (cA, 32, .inl key)), (qc, .inr (0, [.ref qh, .ref qm, .ref qv, .int (nI kn), .long ab])), (qh, .inl (cA, 8, .inl hh)), (qm, .inl (cA, 16, .inl mm)), (qv, .inl (cA, 16, .inl vv))] sz)) 0 0 (va_A [(h0, .inr (1, [.ref qk, .ref qc, .int st, .int nn, .int ln])), (qk, .inl (cA, 32, .inl key)), (qc, .inr (0, [.ref qh, .ref qm, .ref qv, .int (nI kn), .long ab])), (qh, .inl (cA, 8, .inl hh)), (qm, .inl (cA, 16, .inl mm)), (qv, .inl (cA, 16, .inl vv))] sz) := by
  refine Met.ofW (cc := cX1_start) (maxL := 3) (ret := (some .boolean)) (by decide) rfl ?_
  intro p e s m args below meth c s₁ B hml hv
  obtain ⟨rfl, hsz, hP, hK, hD0, hT⟩ := hv
  have hx := B.exec
  have hb := B.bytes
  have hr := B.returns
  have hts := atoms_spec (ws := wsX1_start) B.pre
  have hown : s.vm.findClass RX1 = some m.cls := findClass_of_methodNamed B.named
  have hlocks := B.notSynchronized
  have ki1 : ∀ w ∈ u_ws RX1 TX1 5, w ∈ wsX1_start := by decide +kernel
  have k1 := hts (.fieldLink RX1 20 "KeyedDigest" "state" "I") (by decide +kernel)
  have k2 := hts (.fieldLink RX1 16 "KeyedDigest" "chain" "LKeyedDigest$Chain;") (by decide +kernel)
  have k3 := hts (.fieldLink RX1 24 "KeyedDigest" "digestBytes" "I") (by decide +kernel)
  have k4 := hts (.fieldLink RX1 27 "KeyedDigest" "messageBytes" "I") (by decide +kernel)
  have k5 := hts (.fieldLink RX1 9 "KeyedDigest" "key" "[I") (by decide +kernel)
  subst hsz
  have hD := hD0.self (sz := s.heap.size)
  generalize hAe : va_A [(h0, .inr (1, [.ref qk, .ref qc, .int st, .int nn, .int ln])), (qk, .inl (cA, 32, .inl key)), (qc, .inr (0, [.ref qh, .ref qm, .ref qv, .int (nI kn), .long ab])), (qh, .inl (cA, 8, .inl hh)), (qm, .inl (cA, 16, .inl mm)), (qv, .inl (cA, 16, .inl vv))] s.heap.size = A at hD hT ⊢
  have hA : ∀ q : Nat, s.heap.size ≤ q → A q := fun q h => by rw [← hAe]; exact Or.inr h
  have hS : va_S A s.heap s.heap [] := va_S.rf
  have hP : va_P (dC, dI) vwCl [(h0, .inr (1, [.ref qk, .ref qc, .int st, .int nn, .int ln])), (qk, .inl (cA, 32, .inl key)), (qc, .inr (0, [.ref qh, .ref qm, .ref qv, .int (nI kn), .long ab])), (qh, .inl (cA, 8, .inl hh)), (qm, .inl (cA, 16, .inl mm)), (qv, .inl (cA, 16, .inl vv))] s.heap := hP
  have hl := lv_entry ([.ref h0, .int a, .int kk]) (n := 3) (Nat.le_of_ble_eq_true rfl)
  rw [lg_entry_eq]
  generalize (lg_sl ([.ref h0, .int a, .int kk]) ++ List.replicate (3 - (lg_sl ([.ref h0, .int a, .int kk])).length) Slot.unset).toArray = ls at hl ⊢
  have hl : lv_has ls 3 [(0, .ref h0), (1, .int a), (2, .int kk)] := hl
  refine lv_aload_n hx hb dX1_start_0 rfl (lv_at hl 0 rfl) ?_
  refine va_get (D := (dC, dI)) (ci := 1) (v := .int st) (C := RX1) (T := TX1) (N := 5) hx hb hts ki1 hown hK hP 0 rfl rfl 2 (by decide) k1 (fun _ h9 => h9) rfl dX1_start_1 ?_
  refine lv_if_eq (tgt := 28) hx hb dX1_start_4 (by decide) (fun c4 => ?_) (fun c4 => ?_)
  · refine lv_iconst (v := 0) hx hb dX1_start_28 (by decide) ?_
    have hP9 := hP.sub (ws' := [(h0, .inr (1, [.ref qk, .ref qc, .int st, .int nn, .int ln])), (qk, .inl (cA, 32, .inl key)), (qc, .inr (0, [.ref qh, .ref qm, .ref qv, .int (nI kn), .long ab])), (qh, .inl (cA, 8, .inl hh)), (qm, .inl (cA, 16, .inl mm)), (qv, .inl (cA, 16, .inl vv))]) [0, 1, 2, 3, 4, 5] rfl
    have hD9 := hD.sub (ws' := [(h0, .inr (1, [.ref qk, .ref qc, .int st, .int nn, .int ln])), (qk, .inl (cA, 32, .inl key)), (qc, .inr (0, [.ref qh, .ref qm, .ref qv, .int (nI kn), .long ab])), (qh, .inl (cA, 8, .inl hh)), (qm, .inl (cA, 16, .inl mm)), (qv, .inl (cA, 16, .inl vv))]) [0, 1, 2, 3, 4, 5] (by decide) rfl
    exact W.zret (v := 0) hx hb hr (by rfl) (fun t ht hW => ⟨⟨0, (st, nn, ln, hh, mm, vv, kn, ab), rfl, ((if_pos (Or.inl c4))).symm, by rw [ht]; exact hP9, va_K.moved hW.alike hK, hD9⟩, hS.F ht⟩) hS.2.2 dX1_start_29
  · refine lv_iload_n hx hb dX1_start_7 rfl (lv_at hl 1 rfl) ?_
    refine lv_iconst (v := 1) hx hb dX1_start_8 (by decide) ?_
    refine lv_icmp_lt (tgt := 28) hx hb dX1_start_9 (by decide) (fun c9 => ?_) (fun c9 => ?_)
    · refine lv_iconst (v := 0) hx hb dX1_start_28 (by decide) ?_
      have hP9 := hP.sub (ws' := [(h0, .inr (1, [.ref qk, .ref qc, .int st, .int nn, .int ln])), (qk, .inl (cA, 32, .inl key)), (qc, .inr (0, [.ref qh, .ref qm, .ref qv, .int (nI kn), .long ab])), (qh, .inl (cA, 8, .inl hh)), (qm, .inl (cA, 16, .inl mm)), (qv, .inl (cA, 16, .inl vv))]) [0, 1, 2, 3, 4, 5] rfl
      have hD9 := hD.sub (ws' := [(h0, .inr (1, [.ref qk, .ref qc, .int st, .int nn, .int ln])), (qk, .inl (cA, 32, .inl key)), (qc, .inr (0, [.ref qh, .ref qm, .ref qv, .int (nI kn), .long ab])), (qh, .inl (cA, 8, .inl hh)), (qm, .inl (cA, 16, .inl mm)), (qv, .inl (cA, 16, .inl vv))]) [0, 1, 2, 3, 4, 5] (by decide) rfl
      exact W.zret (v := 0) hx hb hr (by rfl) (fun t ht hW => ⟨⟨0, (st, nn, ln, hh, mm, vv, kn, ab), rfl, ((if_pos (Or.inr (Or.inl c9)))).symm, by rw [ht]; exact hP9, va_K.moved hW.alike hK, hD9⟩, hS.F ht⟩) hS.2.2 dX1_start_29
    · refine lv_iload_n hx hb dX1_start_12 rfl (lv_at hl 1 rfl) ?_
      refine lv_bipush (v := 32) hx hb dX1_start_13 (by decide) ?_
      refine lv_icmp_gt (tgt := 28) hx hb dX1_start_15 (by decide) (fun c15 => ?_) (fun c15 => ?_)
      · refine lv_iconst (v := 0) hx hb dX1_start_28 (by decide) ?_
        have hP9 := hP.sub (ws' := [(h0, .inr (1, [.ref qk, .ref qc, .int st, .int nn, .int ln])), (qk, .inl (cA, 32, .inl key)), (qc, .inr (0, [.ref qh, .ref qm, .ref qv, .int (nI kn), .long ab])), (qh, .inl (cA, 8, .inl hh)), (qm, .inl (cA, 16, .inl mm)), (qv, .inl (cA, 16, .inl vv))]) [0, 1, 2, 3, 4, 5] rfl
        have hD9 := hD.sub (ws' := [(h0, .inr (1, [.ref qk, .ref qc, .int st, .int nn, .int ln])), (qk, .inl (cA, 32, .inl key)), (qc, .inr (0, [.ref qh, .ref qm, .ref qv, .int (nI kn), .long ab])), (qh, .inl (cA, 8, .inl hh)), (qm, .inl (cA, 16, .inl mm)), (qv, .inl (cA, 16, .inl vv))]) [0, 1, 2, 3, 4, 5] (by decide) rfl
        exact W.zret (v := 0) hx hb hr (by rfl) (fun t ht hW => ⟨⟨0, (st, nn, ln, hh, mm, vv, kn, ab), rfl, ((if_pos (Or.inr (Or.inr (Or.inl c15))))).symm, by rw [ht]; exact hP9, va_K.moved hW.alike hK, hD9⟩, hS.F ht⟩) hS.2.2 dX1_start_29
      · refine lv_iload_n hx hb dX1_start_18 rfl (lv_at hl 2 rfl) ?_
        refine lv_if_lt (tgt := 28) hx hb dX1_start_19 (by decide) (fun c19 => ?_) (fun c19 => ?_)
        · refine lv_iconst (v := 0) hx hb dX1_start_28 (by decide) ?_
          have hP9 := hP.sub (ws' := [(h0, .inr (1, [.ref qk, .ref qc, .int st, .int nn, .int ln])), (qk, .inl (cA, 32, .inl key)), (qc, .inr (0, [.ref qh, .ref qm, .ref qv, .int (nI kn), .long ab])), (qh, .inl (cA, 8, .inl hh)), (qm, .inl (cA, 16, .inl mm)), (qv, .inl (cA, 16, .inl vv))]) [0, 1, 2, 3, 4, 5] rfl
          have hD9 := hD.sub (ws' := [(h0, .inr (1, [.ref qk, .ref qc, .int st, .int nn, .int ln])), (qk, .inl (cA, 32, .inl key)), (qc, .inr (0, [.ref qh, .ref qm, .ref qv, .int (nI kn), .long ab])), (qh, .inl (cA, 8, .inl hh)), (qm, .inl (cA, 16, .inl mm)), (qv, .inl (cA, 16, .inl vv))]) [0, 1, 2, 3, 4, 5] (by decide) rfl
          exact W.zret (v := 0) hx hb hr (by rfl) (fun t ht hW => ⟨⟨0, (st, nn, ln, hh, mm, vv, kn, ab), rfl, ((if_pos (Or.inr (Or.inr (Or.inr (Or.inl c19)))))).symm, by rw [ht]; exact hP9, va_K.moved hW.alike hK, hD9⟩, hS.F ht⟩) hS.2.2 dX1_start_29
        · refine lv_iload_n hx hb dX1_start_22 rfl (lv_at hl 2 rfl) ?_
          refine lv_bipush (v := 32) hx hb dX1_start_23 (by decide) ?_
          refine lv_icmp_le (tgt := 30) hx hb dX1_start_25 (by decide) (fun c25 => ?_) (fun c25 => ?_)
          · refine lv_aload_n hx hb dX1_start_30 rfl (lv_at hl 0 rfl) ?_
            refine va_get (D := (dC, dI)) (ci := 1) (v := .ref qc) (C := RX1) (T := TX1) (N := 5) hx hb hts ki1 hown hK hP 0 rfl rfl 1 (by decide) k2 (fun _ h9 => h9) rfl dX1_start_31 ?_
            refine lv_iload_n hx hb dX1_start_34 rfl (lv_at hl 1 rfl) ?_
            refine lv_iload_n hx hb dX1_start_35 rfl (lv_at hl 2 rfl) ?_
            have hPc := hP.sub (ws' := [(qc, .inr (0, [.ref qh, .ref qm, .ref qv, .int (nI kn), .long ab])), (qh, .inl (cA, 8, .inl hh)), (qm, .inl (cA, 16, .inl mm))]) [2, 3, 4] rfl
            have hDc := hD.sub (ws' := [(qc, .inr (0, [.ref qh, .ref qm, .ref qv, .int (nI kn), .long ab])), (qh, .inl (cA, 8, .inl hh)), (qm, .inl (cA, 16, .inl mm))]) [2, 3, 4] (by decide) rfl
            have hFc := va_free (wc := [(qc, .inr (0, [.ref qh, .ref qm, .ref qv, .int (nI kn), .long ab])), (qh, .inl (cA, 8, .inl hh)), (qm, .inl (cA, 16, .inl mm))]) hD hS hA [2, 3, 4] rfl
            refine va_callv (va_runV (As := [.int a, .int kk]) (rest := []) ⟨hx, hb, hml, hown, hts⟩ (cX0_begin_ok l dC dI cA tb s.heap.size qc qh qm qv hh mm (nI kn) ab a kk ) (cwV 2 hts gX1_start_X0_begin rfl rfl rfl (by decide +kernel) ⟨Nat.le_of_ble_eq_true rfl, Nat.le_of_ble_eq_true rfl⟩) ⟨fun a U g mk q => kd_calling rfl rfl q, va_recv hK hPc (ci := 0) (q0 := 0) rfl rfl, fun U hU hW => ⟨rfl, kd_pre hPc hK hDc hT hS hFc U hU hW⟩⟩ rfl rfl hl.1 rfl (lv_room (Nat.le_of_ble_eq_true rfl)) dX1_start_36 ⟨Nat.le_of_ble_eq_true rfl, Nat.le_of_ble_eq_true rfl⟩) hS (fun q _ h => hFc q h) hFc (fun u t H1 locs ht hvm hw hB hz1 hk1 hS => ?_)
            have hw36 : True := hw
            have hP1 : va_P (dC, dI) vwCl [(qc, .inr (0, [.ref qh, .ref qm, .ref qv, .int (nI 0), .long 0])), (qh, .inl (cA, 8, .inl (kd_h0 a kk))), (qm, .inl (cA, 16, .inl kd_0))] H1 := by rw [← ht]; exact hB.1
            have hD1 : va_D (va_A [(qc, .inr (0, [.ref qh, .ref qm, .ref qv, .int (nI kn), .long ab])), (qh, .inl (cA, 8, .inl hh)), (qm, .inl (cA, 16, .inl mm))] s.heap.size) [(qc, .inr (0, [.ref qh, .ref qm, .ref qv, .int (nI 0), .long 0])), (qh, .inl (cA, 8, .inl (kd_h0 a kk))), (qm, .inl (cA, 16, .inl kd_0))] := hB.2.2
            obtain ⟨hP, hD⟩ := va_join (wr := [(h0, .inr (1, [.ref qk, .ref qc, .int st, .int nn, .int ln])), (qk, .inl (cA, 32, .inl key)), (qv, .inl (cA, 16, .inl vv))]) (w1 := [(qc, .inr (0, [.ref qh, .ref qm, .ref qv, .int (nI 0), .long 0])), (qh, .inl (cA, 8, .inl (kd_h0 a kk))), (qm, .inl (cA, 16, .inl kd_0))]) hP hD [2, 3, 4] [0, 1, 5] rfl rfl (by decide) (by decide) hk1 hFc hP1 hD1
            clear hw hB hk1 hPc hDc hFc hP1 hD1 hvm hz1
            generalize H1 = H at hP hS ⊢
            have hP : va_P (dC, dI) vwCl [(h0, .inr (1, [.ref qk, .ref qc, .int st, .int nn, .int ln])), (qk, .inl (cA, 32, .inl key)), (qv, .inl (cA, 16, .inl vv)), (qc, .inr (0, [.ref qh, .ref qm, .ref qv, .int (nI 0), .long 0])), (qh, .inl (cA, 8, .inl (kd_h0 a kk))), (qm, .inl (cA, 16, .inl kd_0))] H := hP
            have hD : va_D A [(h0, .inr (1, [.ref qk, .ref qc, .int st, .int nn, .int ln])), (qk, .inl (cA, 32, .inl key)), (qv, .inl (cA, 16, .inl vv)), (qc, .inr (0, [.ref qh, .ref qm, .ref qv, .int (nI 0), .long 0])), (qh, .inl (cA, 8, .inl (kd_h0 a kk))), (qm, .inl (cA, 16, .inl kd_0))] := hD
            refine lv_iload_n hx hb dX1_start_39 rfl (lv_at hl 2 rfl) ?_
            refine lv_if_le (tgt := 55) hx hb dX1_start_40 (by decide) (fun c40 => ?_) (fun c40 => ?_)
            · refine lv_aload_n hx hb dX1_start_55 rfl (lv_at hl 0 rfl) ?_
              refine lv_iconst (v := 2) hx hb dX1_start_56 (by decide) ?_
              refine va_put (D := (dC, dI)) (ci := 1) (v := .int 2) (ty := .int) (C := RX1) (T := TX1) (N := 5) hx hb hts ki1 tyX1 tyX1_ok nmX1 hown hK hP hD hS 0 rfl rfl 2 (by decide) k1 (fun _ h9 => h9) rfl (by decide +kernel) rfl rfl (Nat.le_of_ble_eq_true rfl) dX1_start_57 (fun H locs hP hD hS => ?_)
              have hP : va_P (dC, dI) vwCl [(h0, .inr (1, [.ref qk, .ref qc, .int 2, .int nn, .int ln])), (qk, .inl (cA, 32, .inl key)), (qv, .inl (cA, 16, .inl vv)), (qc, .inr (0, [.ref qh, .ref qm, .ref qv, .int (nI 0), .long 0])), (qh, .inl (cA, 8, .inl (kd_h0 a kk))), (qm, .inl (cA, 16, .inl kd_0))] H := hP
              have hD : va_D A [(h0, .inr (1, [.ref qk, .ref qc, .int 2, .int nn, .int ln])), (qk, .inl (cA, 32, .inl key)), (qv, .inl (cA, 16, .inl vv)), (qc, .inr (0, [.ref qh, .ref qm, .ref qv, .int (nI 0), .long 0])), (qh, .inl (cA, 8, .inl (kd_h0 a kk))), (qm, .inl (cA, 16, .inl kd_0))] := hD
              refine lv_aload_n hx hb dX1_start_60 rfl (lv_at hl 0 rfl) ?_
              refine lv_iload_n hx hb dX1_start_61 rfl (lv_at hl 1 rfl) ?_
              refine va_put (D := (dC, dI)) (ci := 1) (v := .int a) (ty := .int) (C := RX1) (T := TX1) (N := 5) hx hb hts ki1 tyX1 tyX1_ok nmX1 hown hK hP hD hS 0 rfl rfl 3 (by decide) k3 (fun _ h9 => h9) rfl (by decide +kernel) rfl rfl (Nat.le_of_ble_eq_true rfl) dX1_start_62 (fun H locs hP hD hS => ?_)
              have hP : va_P (dC, dI) vwCl [(h0, .inr (1, [.ref qk, .ref qc, .int 2, .int a, .int ln])), (qk, .inl (cA, 32, .inl key)), (qv, .inl (cA, 16, .inl vv)), (qc, .inr (0, [.ref qh, .ref qm, .ref qv, .int (nI 0), .long 0])), (qh, .inl (cA, 8, .inl (kd_h0 a kk))), (qm, .inl (cA, 16, .inl kd_0))] H := hP
              have hD : va_D A [(h0, .inr (1, [.ref qk, .ref qc, .int 2, .int a, .int ln])), (qk, .inl (cA, 32, .inl key)), (qv, .inl (cA, 16, .inl vv)), (qc, .inr (0, [.ref qh, .ref qm, .ref qv, .int (nI 0), .long 0])), (qh, .inl (cA, 8, .inl (kd_h0 a kk))), (qm, .inl (cA, 16, .inl kd_0))] := hD
              refine lv_aload_n hx hb dX1_start_65 rfl (lv_at hl 0 rfl) ?_
              refine lv_iconst (v := 0) hx hb dX1_start_66 (by decide) ?_
              refine va_put (D := (dC, dI)) (ci := 1) (v := .int 0) (ty := .int) (C := RX1) (T := TX1) (N := 5) hx hb hts ki1 tyX1 tyX1_ok nmX1 hown hK hP hD hS 0 rfl rfl 4 (by decide) k4 (fun _ h9 => h9) rfl (by decide +kernel) rfl rfl (Nat.le_of_ble_eq_true rfl) dX1_start_67 (fun H locs hP hD hS => ?_)
              have hP : va_P (dC, dI) vwCl [(h0, .inr (1, [.ref qk, .ref qc, .int 2, .int a, .int 0])), (qk, .inl (cA, 32, .inl key)), (qv, .inl (cA, 16, .inl vv)), (qc, .inr (0, [.ref qh, .ref qm, .ref qv, .int (nI 0), .long 0])), (qh, .inl (cA, 8, .inl (kd_h0 a kk))), (qm, .inl (cA, 16, .inl kd_0))] H := hP
              have hD : va_D A [(h0, .inr (1, [.ref qk, .ref qc, .int 2, .int a, .int 0])), (qk, .inl (cA, 32, .inl key)), (qv, .inl (cA, 16, .inl vv)), (qc, .inr (0, [.ref qh, .ref qm, .ref qv, .int (nI 0), .long 0])), (qh, .inl (cA, 8, .inl (kd_h0 a kk))), (qm, .inl (cA, 16, .inl kd_0))] := hD
              refine lv_iconst (v := 1) hx hb dX1_start_70 (by decide) ?_
              have hP9 := hP.sub (ws' := [(h0, .inr (1, [.ref qk, .ref qc, .int 2, .int a, .int 0])), (qk, .inl (cA, 32, .inl key)), (qc, .inr (0, [.ref qh, .ref qm, .ref qv, .int (nI 0), .long 0])), (qh, .inl (cA, 8, .inl (kd_h0 a kk))), (qm, .inl (cA, 16, .inl kd_0)), (qv, .inl (cA, 16, .inl vv))]) [0, 1, 3, 4, 5, 2] rfl
              have hD9 := hD.sub (ws' := [(h0, .inr (1, [.ref qk, .ref qc, .int 2, .int a, .int 0])), (qk, .inl (cA, 32, .inl key)), (qc, .inr (0, [.ref qh, .ref qm, .ref qv, .int (nI 0), .long 0])), (qh, .inl (cA, 8, .inl (kd_h0 a kk))), (qm, .inl (cA, 16, .inl kd_0)), (qv, .inl (cA, 16, .inl vv))]) [0, 1, 3, 4, 5, 2] (by decide) rfl
              exact W.zret (v := 1) hx hb hr (by rfl) (fun t ht hW => ⟨⟨1, (2, a, 0, kd_h0 a kk, kd_0, vv, 0, 0), rfl, (by dsimp only; rw [(if_neg (fun h => h.elim c4 (fun h => h.elim c9 (fun h => h.elim c15 (fun h => h.elim c19 ((fun h => absurd c25 (Int32.not_le.mpr h))))))))]; unfold kd_open; rw [if_pos c40]), by rw [ht]; exact hP9, va_K.moved hW.alike hK, hD9⟩, hS.F ht⟩) hS.2.2 dX1_start_71
            · obtain ⟨kj, hkj, rfl⟩ := nI_of2 (n := 32) (M := 32) (by decide) c19 c25
              refine lv_aload_n hx hb dX1_start_43 rfl (lv_at hl 0 rfl) ?_
              refine va_get (D := (dC, dI)) (ci := 1) (v := .ref qc) (C := RX1) (T := TX1) (N := 5) hx hb hts ki1 hown hK hP 0 rfl rfl 1 (by decide) k2 (fun _ h9 => h9) rfl dX1_start_44 ?_
              refine lv_aload_n hx hb dX1_start_47 rfl (lv_at hl 0 rfl) ?_
              refine va_get (D := (dC, dI)) (ci := 1) (v := .ref qk) (C := RX1) (T := TX1) (N := 5) hx hb hts ki1 hown hK hP 0 rfl rfl 0 (by decide) k5 (fun _ h9 => h9) rfl dX1_start_48 ?_
              refine lv_iload_n hx hb dX1_start_51 rfl (lv_at hl 2 rfl) ?_
              have hPc := hP.sub (ws' := [(qc, .inr (0, [.ref qh, .ref qm, .ref qv, .int (nI 0), .long 0])), (qh, .inl (cA, 8, .inl (kd_h0 a (nI kj)))), (qm, .inl (cA, 16, .inl kd_0)), (qv, .inl (cA, 16, .inl vv)), (qk, .inl (cA, 32, .inl key))]) [3, 4, 5, 2, 1] rfl
              have hDc := hD.sub (ws' := [(qc, .inr (0, [.ref qh, .ref qm, .ref qv, .int (nI 0), .long 0])), (qh, .inl (cA, 8, .inl (kd_h0 a (nI kj)))), (qm, .inl (cA, 16, .inl kd_0)), (qv, .inl (cA, 16, .inl vv)), (qk, .inl (cA, 32, .inl key))]) [3, 4, 5, 2, 1] (by decide) rfl
              have hFc := va_free (wc := [(qc, .inr (0, [.ref qh, .ref qm, .ref qv, .int (nI 0), .long 0])), (qh, .inl (cA, 8, .inl (kd_h0 a (nI kj)))), (qm, .inl (cA, 16, .inl kd_0)), (qv, .inl (cA, 16, .inl vv)), (qk, .inl (cA, 32, .inl key))]) hD hS hA [3, 4, 5, 2, 1] rfl
              refine va_callv (va_runV (As := [.ref qk, .int (nI kj)]) (rest := []) ⟨hx, hb, hml, hown, hts⟩ (cX0_addKey_ok l dC dI cA tb H.size qc qh qm qv (kd_h0 a (nI kj)) kd_0 vv 0 qk key kj hkj) (cwV 2 hts gX1_start_X0_addKey rfl rfl rfl (by decide +kernel) ⟨Nat.le_of_ble_eq_true rfl, Nat.le_of_ble_eq_true rfl⟩) ⟨fun a U g mk q => kd_calling rfl rfl q, va_recv hK hPc (ci := 0) (q0 := 0) rfl rfl, fun U hU hW => ⟨rfl, kd_pre hPc hK hDc hT hS hFc U hU hW⟩⟩ rfl rfl hl.1 rfl (lv_room (Nat.le_of_ble_eq_true rfl)) dX1_start_52 ⟨Nat.le_of_ble_eq_true rfl, Nat.le_of_ble_eq_true rfl⟩) hS (fun q _ h => hFc q h) hFc (fun u t H1 locs ht hvm hw hB hz1 hk1 hS => ?_)
              obtain ⟨vo52, rfl⟩ : ∃ z, z = u := ⟨_, rfl⟩
              have hw52 : True := hw
              have hP1 : va_P (dC, dI) vwCl [(qc, .inr (0, [.ref qh, .ref qm, .ref qv, .int (nI 64), .long 64])), (qh, .inl (cA, 8, .inl ((kd_adds key kj ((kd_h0 a (nI kj)), kd_0, 0, 0)).1))), (qm, .inl (cA, 16, .inl ((kd_adds key kj ((kd_h0 a (nI kj)), kd_0, 0, 0)).2.1))), (qv, .inl (cA, 16, .inl vo52)), (qk, .inl (cA, 32, .inl key))] H1 := by rw [← ht]; exact hB.1
              have hD1 : va_D (va_A [(qc, .inr (0, [.ref qh, .ref qm, .ref qv, .int (nI 0), .long 0])), (qh, .inl (cA, 8, .inl (kd_h0 a (nI kj)))), (qm, .inl (cA, 16, .inl kd_0)), (qv, .inl (cA, 16, .inl vv)), (qk, .inl (cA, 32, .inl key))] H.size) [(qc, .inr (0, [.ref qh, .ref qm, .ref qv, .int (nI 64), .long 64])), (qh, .inl (cA, 8, .inl ((kd_adds key kj ((kd_h0 a (nI kj)), kd_0, 0, 0)).1))), (qm, .inl (cA, 16, .inl ((kd_adds key kj ((kd_h0 a (nI kj)), kd_0, 0, 0)).2.1))), (qv, .inl (cA, 16, .inl vo52)), (qk, .inl (cA, 32, .inl key))] := hB.2.2
              obtain ⟨hP, hD⟩ := va_join (wr := [(h0, .inr (1, [.ref qk, .ref qc, .int st, .int nn, .int ln]))]) (w1 := [(qc, .inr (0, [.ref qh, .ref qm, .ref qv, .int (nI 64), .long 64])), (qh, .inl (cA, 8, .inl ((kd_adds key kj ((kd_h0 a (nI kj)), kd_0, 0, 0)).1))), (qm, .inl (cA, 16, .inl ((kd_adds key kj ((kd_h0 a (nI kj)), kd_0, 0, 0)).2.1))), (qv, .inl (cA, 16, .inl vo52)), (qk, .inl (cA, 32, .inl key))]) hP hD [3, 4, 5, 2, 1] [0] rfl rfl (by decide) (by decide) hk1 hFc hP1 hD1
              clear hw hB hk1 hPc hDc hFc hP1 hD1 hvm hz1
              generalize H1 = H at hP hS ⊢
              have hP : va_P (dC, dI) vwCl [(h0, .inr (1, [.ref qk, .ref qc, .int st, .int nn, .int ln])), (qc, .inr (0, [.ref qh, .ref qm, .ref qv, .int (nI 64), .long 64])), (qh, .inl (cA, 8, .inl ((kd_adds key kj ((kd_h0 a (nI kj)), kd_0, 0, 0)).1))), (qm, .inl (cA, 16, .inl ((kd_adds key kj ((kd_h0 a (nI kj)), kd_0, 0, 0)).2.1))), (qv, .inl (cA, 16, .inl vo52)), (qk, .inl (cA, 32, .inl key))] H := hP
              have hD : va_D A [(h0, .inr (1, [.ref qk, .ref qc, .int st, .int nn, .int ln])), (qc, .inr (0, [.ref qh, .ref qm, .ref qv, .int (nI 64), .long 64])), (qh, .inl (cA, 8, .inl ((kd_adds key kj ((kd_h0 a (nI kj)), kd_0, 0, 0)).1))), (qm, .inl (cA, 16, .inl ((kd_adds key kj ((kd_h0 a (nI kj)), kd_0, 0, 0)).2.1))), (qv, .inl (cA, 16, .inl vo52)), (qk, .inl (cA, 32, .inl key))] := hD
              refine lv_aload_n hx hb dX1_start_55 rfl (lv_at hl 0 rfl) ?_
              refine lv_iconst (v := 2) hx hb dX1_start_56 (by decide) ?_
              refine va_put (D := (dC, dI)) (ci := 1) (v := .int 2) (ty := .int) (C := RX1) (T := TX1) (N := 5) hx hb hts ki1 tyX1 tyX1_ok nmX1 hown hK hP hD hS 0 rfl rfl 2 (by decide) k1 (fun _ h9 => h9) rfl (by decide +kernel) rfl rfl (Nat.le_of_ble_eq_true rfl) dX1_start_57 (fun H locs hP hD hS => ?_)
              have hP : va_P (dC, dI) vwCl [(h0, .inr (1, [.ref qk, .ref qc, .int 2, .int nn, .int ln])), (qc, .inr (0, [.ref qh, .ref qm, .ref qv, .int (nI 64), .long 64])), (qh, .inl (cA, 8, .inl ((kd_adds key kj ((kd_h0 a (nI kj)), kd_0, 0, 0)).1))), (qm, .inl (cA, 16, .inl ((kd_adds key kj ((kd_h0 a (nI kj)), kd_0, 0, 0)).2.1))), (qv, .inl (cA, 16, .inl vo52)), (qk, .inl (cA, 32, .inl key))] H := hP
              have hD : va_D A [(h0, .inr (1, [.ref qk, .ref qc, .int 2, .int nn, .int ln])), (qc, .inr (0, [.ref qh, .ref qm, .ref qv, .int (nI 64), .long 64])), (qh, .inl (cA, 8, .inl ((kd_adds key kj ((kd_h0 a (nI kj)), kd_0, 0, 0)).1))), (qm, .inl (cA, 16, .inl ((kd_adds key kj ((kd_h0 a (nI kj)), kd_0, 0, 0)).2.1))), (qv, .inl (cA, 16, .inl vo52)), (qk, .inl (cA, 32, .inl key))] := hD
              refine lv_aload_n hx hb dX1_start_60 rfl (lv_at hl 0 rfl) ?_
              refine lv_iload_n hx hb dX1_start_61 rfl (lv_at hl 1 rfl) ?_
              refine va_put (D := (dC, dI)) (ci := 1) (v := .int a) (ty := .int) (C := RX1) (T := TX1) (N := 5) hx hb hts ki1 tyX1 tyX1_ok nmX1 hown hK hP hD hS 0 rfl rfl 3 (by decide) k3 (fun _ h9 => h9) rfl (by decide +kernel) rfl rfl (Nat.le_of_ble_eq_true rfl) dX1_start_62 (fun H locs hP hD hS => ?_)
              have hP : va_P (dC, dI) vwCl [(h0, .inr (1, [.ref qk, .ref qc, .int 2, .int a, .int ln])), (qc, .inr (0, [.ref qh, .ref qm, .ref qv, .int (nI 64), .long 64])), (qh, .inl (cA, 8, .inl ((kd_adds key kj ((kd_h0 a (nI kj)), kd_0, 0, 0)).1))), (qm, .inl (cA, 16, .inl ((kd_adds key kj ((kd_h0 a (nI kj)), kd_0, 0, 0)).2.1))), (qv, .inl (cA, 16, .inl vo52)), (qk, .inl (cA, 32, .inl key))] H := hP
              have hD : va_D A [(h0, .inr (1, [.ref qk, .ref qc, .int 2, .int a, .int ln])), (qc, .inr (0, [.ref qh, .ref qm, .ref qv, .int (nI 64), .long 64])), (qh, .inl (cA, 8, .inl ((kd_adds key kj ((kd_h0 a (nI kj)), kd_0, 0, 0)).1))), (qm, .inl (cA, 16, .inl ((kd_adds key kj ((kd_h0 a (nI kj)), kd_0, 0, 0)).2.1))), (qv, .inl (cA, 16, .inl vo52)), (qk, .inl (cA, 32, .inl key))] := hD
              refine lv_aload_n hx hb dX1_start_65 rfl (lv_at hl 0 rfl) ?_
              refine lv_iconst (v := 0) hx hb dX1_start_66 (by decide) ?_
              refine va_put (D := (dC, dI)) (ci := 1) (v := .int 0) (ty := .int) (C := RX1) (T := TX1) (N := 5) hx hb hts ki1 tyX1 tyX1_ok nmX1 hown hK hP hD hS 0 rfl rfl 4 (by decide) k4 (fun _ h9 => h9) rfl (by decide +kernel) rfl rfl (Nat.le_of_ble_eq_true rfl) dX1_start_67 (fun H locs hP hD hS => ?_)
              have hP : va_P (dC, dI) vwCl [(h0, .inr (1, [.ref qk, .ref qc, .int 2, .int a, .int 0])), (qc, .inr (0, [.ref qh, .ref qm, .ref qv, .int (nI 64), .long 64])), (qh, .inl (cA, 8, .inl ((kd_adds key kj ((kd_h0 a (nI kj)), kd_0, 0, 0)).1))), (qm, .inl (cA, 16, .inl ((kd_adds key kj ((kd_h0 a (nI kj)), kd_0, 0, 0)).2.1))), (qv, .inl (cA, 16, .inl vo52)), (qk, .inl (cA, 32, .inl key))] H := hP
              have hD : va_D A [(h0, .inr (1, [.ref qk, .ref qc, .int 2, .int a, .int 0])), (qc, .inr (0, [.ref qh, .ref qm, .ref qv, .int (nI 64), .long 64])), (qh, .inl (cA, 8, .inl ((kd_adds key kj ((kd_h0 a (nI kj)), kd_0, 0, 0)).1))), (qm, .inl (cA, 16, .inl ((kd_adds key kj ((kd_h0 a (nI kj)), kd_0, 0, 0)).2.1))), (qv, .inl (cA, 16, .inl vo52)), (qk, .inl (cA, 32, .inl key))] := hD
              refine lv_iconst (v := 1) hx hb dX1_start_70 (by decide) ?_
              have hP9 := hP.sub (ws' := [(h0, .inr (1, [.ref qk, .ref qc, .int 2, .int a, .int 0])), (qk, .inl (cA, 32, .inl key)), (qc, .inr (0, [.ref qh, .ref qm, .ref qv, .int (nI 64), .long 64])), (qh, .inl (cA, 8, .inl ((kd_adds key kj ((kd_h0 a (nI kj)), kd_0, 0, 0)).1))), (qm, .inl (cA, 16, .inl ((kd_adds key kj ((kd_h0 a (nI kj)), kd_0, 0, 0)).2.1))), (qv, .inl (cA, 16, .inl vo52))]) [0, 5, 1, 2, 3, 4] rfl
              have hD9 := hD.sub (ws' := [(h0, .inr (1, [.ref qk, .ref qc, .int 2, .int a, .int 0])), (qk, .inl (cA, 32, .inl key)), (qc, .inr (0, [.ref qh, .ref qm, .ref qv, .int (nI 64), .long 64])), (qh, .inl (cA, 8, .inl ((kd_adds key kj ((kd_h0 a (nI kj)), kd_0, 0, 0)).1))), (qm, .inl (cA, 16, .inl ((kd_adds key kj ((kd_h0 a (nI kj)), kd_0, 0, 0)).2.1))), (qv, .inl (cA, 16, .inl vo52))]) [0, 5, 1, 2, 3, 4] (by decide) rfl
              exact W.zret (v := 1) hx hb hr (by rfl) (fun t ht hW => ⟨⟨1, (2, a, 0, (kd_adds key kj ((kd_h0 a (nI kj)), kd_0, 0, 0)).1, (kd_adds key kj ((kd_h0 a (nI kj)), kd_0, 0, 0)).2.1, vo52, 64, 64), rfl, (by dsimp only; rw [(if_neg (fun h => h.elim c4 (fun h => h.elim c9 (fun h => h.elim c15 (fun h => h.elim c19 ((fun h => absurd c25 (Int32.not_le.mpr h))))))))]; unfold kd_open; rw [if_neg c40, nI_clamp (by omega)]), by rw [ht]; exact hP9, va_K.moved hW.alike hK, hD9⟩, hS.F ht⟩) hS.2.2 dX1_start_71
          · refine lv_iconst (v := 0) hx hb dX1_start_28 (by decide) ?_
            have hP9 := hP.sub (ws' := [(h0, .inr (1, [.ref qk, .ref qc, .int st, .int nn, .int ln])), (qk, .inl (cA, 32, .inl key)), (qc, .inr (0, [.ref qh, .ref qm, .ref qv, .int (nI kn), .long ab])), (qh, .inl (cA, 8, .inl hh)), (qm, .inl (cA, 16, .inl mm)), (qv, .inl (cA, 16, .inl vv))]) [0, 1, 2, 3, 4, 5] rfl
            have hD9 := hD.sub (ws' := [(h0, .inr (1, [.ref qk, .ref qc, .int st, .int nn, .int ln])), (qk, .inl (cA, 32, .inl key)), (qc, .inr (0, [.ref qh, .ref qm, .ref qv, .int (nI kn), .long ab])), (qh, .inl (cA, 8, .inl hh)), (qm, .inl (cA, 16, .inl mm)), (qv, .inl (cA, 16, .inl vv))]) [0, 1, 2, 3, 4, 5] (by decide) rfl
            exact W.zret (v := 0) hx hb hr (by rfl) (fun t ht hW => ⟨⟨0, (st, nn, ln, hh, mm, vv, kn, ab), rfl, ((if_pos (Or.inr (Or.inr (Or.inr (Or.inr (Int32.not_le.mp c25))))))).symm, by rw [ht]; exact hP9, va_K.moved hW.alike hK, hD9⟩, hS.F ht⟩) hS.2.2 dX1_start_29
end
